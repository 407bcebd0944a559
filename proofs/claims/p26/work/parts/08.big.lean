/-! NEW units and wells: an object and its rows at once -/
theorem mem_al2 {k : Nat} {L M : List Nat} (h : k ∈ Fc ++ L) : k ∈ Fc ++ (L ++ M) := by rw [← List.append_assoc]; exact List.mem_append_left _ h
theorem mem_nw2 {j : Nat} {L M : List Nat} : j ∈ Fc ++ (L ++ (j :: M)) := by rw [← List.append_assoc]; exact List.mem_append_right _ List.mem_cons_self
theorem ct_frG {dA : Nat → ClassId} {α α1 : Nat → Nat} {σ : Mm} {j : Nat} {N : Nat → Prop} (h : ∀ c, N c → fr σ c j) (hα : ∀ c, ¬ N c → α1 c = α c) : ct dA α1 σ j = ct dA α σ j := by
  have g1 : ∀ i a, gR σ j i = some a → ¬ N a := fun i a e q => (h a q).1 i e
  have h2 : ∀ c ∈ sb j, ¬ N c := fun c hc q => (h c q).2 c hc rfl
  have hR : ∀ i, fO α1 (gR σ j i) = fO α (gR σ j i) := by
    intro i
    unfold fO
    cases e : gR σ j i with
    | none => rfl
    | some a => simp [hα a (g1 i a e)]
  have hc : ∀ c, ¬ N c → fO α1 (some c) = fO α (some c) := by
    intro c hc
    simp [fO, hα c hc]
  have hF : (fun i => (gR σ j i).map α1) = fun i => (gR σ j i).map α := by
    funext i
    cases e : gR σ j i with
    | none => rfl
    | some a => simp [hα a (g1 i a e)]
  unfold sb at h2
  unfold ct
  generalize kd j = w at h2 ⊢
  match w, h2 with
  | 0, h2 => simp only [hR]
  | 1, h2 => simp only [hR]
  | 2, h2 => simp only [List.forall_mem_cons] at h2; simp only [hR, hc _ h2.1, hc _ h2.2.1, hc _ h2.2.2.1]
  | 3, h2 => simp only [hR]
  | 4, h2 => simp only [List.forall_mem_cons] at h2; simp only [hR, hc _ h2.1, hc _ h2.2.1, hc _ h2.2.2.1, hc _ h2.2.2.2.1, hc _ h2.2.2.2.2.1, hc _ h2.2.2.2.2.2.1]
  | 5, h2 => simp only [List.forall_mem_cons] at h2; simp only [hR, hc _ h2.1, hc _ h2.2.1, hc _ h2.2.2.1]
  | 6, h2 => simp only [List.forall_mem_cons] at h2; simp only [hR, hc _ h2.1, hc _ h2.2.1, hc _ h2.2.2.1, hc _ h2.2.2.2.1, hc _ h2.2.2.2.2.1, hc _ h2.2.2.2.2.2.1, hc _ h2.2.2.2.2.2.2.1, hc _ h2.2.2.2.2.2.2.2.1, hc _ h2.2.2.2.2.2.2.2.2.1, hc _ h2.2.2.2.2.2.2.2.2.2.1]
  | 7, h2 => simp only [List.forall_mem_cons] at h2; simp only [hR, hc _ h2.1, hc _ h2.2.1, hc _ h2.2.2.1, hc _ h2.2.2.2.1, hc _ h2.2.2.2.2.1, hc _ h2.2.2.2.2.2.1, hc _ h2.2.2.2.2.2.2.1, hc _ h2.2.2.2.2.2.2.2.1, hc _ h2.2.2.2.2.2.2.2.2.1, hc _ h2.2.2.2.2.2.2.2.2.2.1, hc _ h2.2.2.2.2.2.2.2.2.2.2.1, hc _ h2.2.2.2.2.2.2.2.2.2.2.2.1, hc _ h2.2.2.2.2.2.2.2.2.2.2.2.2.1, hc _ h2.2.2.2.2.2.2.2.2.2.2.2.2.2.1, hc _ h2.2.2.2.2.2.2.2.2.2.2.2.2.2.2.1, hc _ h2.2.2.2.2.2.2.2.2.2.2.2.2.2.2.2.1, hc _ h2.2.2.2.2.2.2.2.2.2.2.2.2.2.2.2.2.1, hc _ h2.2.2.2.2.2.2.2.2.2.2.2.2.2.2.2.2.2.1, hc _ h2.2.2.2.2.2.2.2.2.2.2.2.2.2.2.2.2.2.2.1, hc _ h2.2.2.2.2.2.2.2.2.2.2.2.2.2.2.2.2.2.2.2.1, hc _ h2.2.2.2.2.2.2.2.2.2.2.2.2.2.2.2.2.2.2.2.2.1, hc _ h2.2.2.2.2.2.2.2.2.2.2.2.2.2.2.2.2.2.2.2.2.2.1, hc _ h2.2.2.2.2.2.2.2.2.2.2.2.2.2.2.2.2.2.2.2.2.2.2.1, hc _ h2.2.2.2.2.2.2.2.2.2.2.2.2.2.2.2.2.2.2.2.2.2.2.2.1, hc _ h2.2.2.2.2.2.2.2.2.2.2.2.2.2.2.2.2.2.2.2.2.2.2.2.2.1, hc _ h2.2.2.2.2.2.2.2.2.2.2.2.2.2.2.2.2.2.2.2.2.2.2.2.2.2.1, hc _ h2.2.2.2.2.2.2.2.2.2.2.2.2.2.2.2.2.2.2.2.2.2.2.2.2.2.2.1, hc _ h2.2.2.2.2.2.2.2.2.2.2.2.2.2.2.2.2.2.2.2.2.2.2.2.2.2.2.2.1, hc _ h2.2.2.2.2.2.2.2.2.2.2.2.2.2.2.2.2.2.2.2.2.2.2.2.2.2.2.2.2.1, hc _ h2.2.2.2.2.2.2.2.2.2.2.2.2.2.2.2.2.2.2.2.2.2.2.2.2.2.2.2.2.2.1, hc _ h2.2.2.2.2.2.2.2.2.2.2.2.2.2.2.2.2.2.2.2.2.2.2.2.2.2.2.2.2.2.2.1]
  | 8, _ => rfl
  | 9, _ => rfl
  | 10, _ => rfl
  | n + 11, _ => simp only [hF]
theorem kd_hi {k : Nat} (h : 232 ≤ k) : kd k = 99 := by
  unfold kd
  rw [if_neg (by omega)]
  split <;> omega
theorem kd_4 {k : Nat} (h : kd k = 4) : (kd (k + 1) = 8 ∧ kd (k + 2) = 8 ∧ kd (k + 3) = 8 ∧ kd (k + 4) = 8 ∧ kd (k + 5) = 9 ∧ kd (k + 6) = 9) ∧ (ln (k + 1) = 61 ∧ ln (k + 2) = 61 ∧ ln (k + 3) = 61 ∧ ln (k + 4) = 61 ∧ ln (k + 5) = 610 ∧ ln (k + 6) = 610) := by
  have hd : ∀ k, k < 232 → kd k = 4 → (kd (k + 1) = 8 ∧ kd (k + 2) = 8 ∧ kd (k + 3) = 8 ∧ kd (k + 4) = 8 ∧ kd (k + 5) = 9 ∧ kd (k + 6) = 9) ∧ (ln (k + 1) = 61 ∧ ln (k + 2) = 61 ∧ ln (k + 3) = 61 ∧ ln (k + 4) = 61 ∧ ln (k + 5) = 610 ∧ ln (k + 6) = 610) := by decide +kernel
  by_cases q : k < 232
  · exact hd k q h
  · rw [kd_hi (by omega)] at h
    exact absurd h (by decide)
theorem kd_5 {k : Nat} (h : kd k = 5) : (kd (k + 1) = 8 ∧ kd (k + 2) = 8 ∧ kd (k + 3) = 8) ∧ (ln (k + 1) = 61 ∧ ln (k + 2) = 61 ∧ ln (k + 3) = 61) := by
  have hd : ∀ k, k < 232 → kd k = 5 → (kd (k + 1) = 8 ∧ kd (k + 2) = 8 ∧ kd (k + 3) = 8) ∧ (ln (k + 1) = 61 ∧ ln (k + 2) = 61 ∧ ln (k + 3) = 61) := by decide +kernel
  by_cases q : k < 232
  · exact hd k q h
  · rw [kd_hi (by omega)] at h
    exact absurd h (by decide)
/-- one cell is given away, what comes back lies beside the rest -/
theorem xa_last {A : Nat → Prop} {D : va_G} {cl : List vw_C} {w w1 : va_W} {x : Nat × va_E} {H1 H2 : Heap} (hP : va_P D cl (w ++ [x]) H1) (hD : va_D A (w ++ [x])) (hA : ∀ q, va_A [x] H1.size q → A q) (hk : ∀ q : Nat, q < H1.size → ¬ va_A [x] H1.size q → H2[q]? = H1[q]?) (hP1 : va_P D cl w1 H2) (hD1 : va_D (va_A [x] H1.size) w1) : va_P D cl (w ++ w1) H2 ∧ va_D A (w ++ w1) := by
  have hw : ∀ (k : Nat) (y : Nat × va_E), w[k]? = some y → (w ++ [x])[k]? = some y := fun k y hy => by rw [List.getElem?_append_left (List.getElem?_eq_some_iff.mp hy).1]; exact hy
  have hx : (w ++ [x])[w.length]? = some x := by simp
  have hne : ∀ (k : Nat) (y : Nat × va_E), w[k]? = some y → y.1 ≠ x.1 := fun k y hy e => by
    have := hD.1 k w.length y x (hw k y hy) hx e
    have h2 := (List.getElem?_eq_some_iff.mp hy).1
    omega
  have hnA : ∀ (k : Nat) (y : Nat × va_E), w[k]? = some y → y.1 < H1.size ∧ ¬ va_A [x] H1.size y.1 := fun k y hy => by
    have hlt := vx_lt hP (hw k y hy)
    refine ⟨hlt, fun h => ?_⟩
    rcases h with ⟨i, ee, hi⟩ | h
    · cases i with
      | zero =>
        cases hi
        exact hne k y hy rfl
      | succ i => simp at hi
    · omega
  refine ⟨va_P.app (fun k y hy => ?_) hP1, va_D.app ⟨fun i j a b ha hb e => hD.1 i j a b (hw i a ha) (hw j b hb) e, fun k y hy => hD.2 k y (hw k y hy)⟩ (hD1.weaken (fun _ _ _ h => hA _ h)) (fun i j a b ha hb e => ?_)⟩
  · exact va_P.kept (ws := w) (fun k y hy => hP k y (hw k y hy)) (fun k y hy => hk y.1 (hnA k y hy).1 (hnA k y hy).2) k y hy
  · exact (hnA i a ha).2 (e ▸ hD1.2 j b hb)
theorem wl_frG {dA : Nat → ClassId} {F : List Nat} {α α1 : Nat → Nat} {σ σ' : Mm} {N : Nat → Prop} (hN : ∀ j ∈ F, ¬ N j) (hf : ∀ c, N c → ∀ j ∈ F, fr σ c j) (hα : ∀ c, ¬ N c → α1 c = α c) (ho : ∀ j, ¬ N j → gI σ' j = gI σ j ∧ gJ σ' j = gJ σ j ∧ gR σ' j = gR σ j) : wl dA F α1 σ' = wl dA F α σ := by
  unfold wl
  refine List.map_congr_left (fun j hj => ?_)
  obtain ⟨a, b, c⟩ := ho j (hN j hj)
  rw [hα j (hN j hj), ct_congr a b c rfl, ct_frG (N := N) (fun c hc => hf c hc j hj) hα]
theorem kbX6_unit_a : ∀ w ∈ u_ws RX4 TX4 7, w ∈ wsX6_unit := by decide +kernel
theorem kbX6_unit_b : (Cond.classLink RX6 40 RX4) ∈ wsX6_unit := by decide +kernel
theorem kbX6_unit_c : (Cond.instantiable RX4 7) ∈ wsX6_unit := by decide +kernel
theorem kbX6_unit_d : (Cond.initialized RX4) ∈ wsX6_unit := by decide +kernel
theorem kbX6_unit_e : (Cond.methodLink RX6 174 yX4_init) ∈ wsX6_unit := by decide +kernel
theorem kbX6_unit_f : (Cond.instanceMethod yX4_init) ∈ wsX6_unit := by decide +kernel
theorem kbX6_unit_g : ∀ w ∈ u_ws RX6 TX6 20, w ∈ wsX6_unit := by decide +kernel
theorem kbX6_unit_h : (Cond.fieldLink RX6 9 "Divisionorder" "now" "I") ∈ wsX6_unit := by decide +kernel
set_option maxHeartbeats 4000000 in
set_option maxRecDepth 100000 in
theorem r_new_X6_unit {p : Program} {l : Launch} {e : Env} {R : Room} {s : State} {m : MethodId} {args : Array Value} {below : List Frame} {meth : Method} {c : Code} {Q : State → Prop} {dC : Nat → ClassId} {dI : Nat → Nat → Nat} {dA : Nat → ClassId} {L : List Nat} {α : Nat → Nat} {A : Nat → Prop} {nL : Nat} {σ : Mm} {lv : List (Nat × Value)} {k j : Nat} (hC : mC p s m args c cX6_unit RX6 nL wsX6_unit dC dI dA A) (hj : lv[j]? = some (0, fO α (some 0))) (hR : 2 ≤ R.frames ∧ 60 ≤ R.locals ∧ 7 ≤ R.cells ∧ 1471 ≤ R.slots) (f : kd k = 4 ∧ nwS L σ (k) ∧ nwS L σ (k + 1) ∧ nwS L σ (k + 2) ∧ nwS L σ (k + 3) ∧ nwS L σ (k + 4) ∧ nwS L σ (k + 5) ∧ nwS L σ (k + 6))
    (kk : ∀ α1 : Nat → Nat, (∀ i ∈ Fc ++ L, α1 i = α i) → G p l e R s m args below meth c (0 + 7) (0 + 1471) Q dC dI dA (Fc ++ (L ++ [k, k + 1, k + 2, k + 3, k + 4, k + 5, k + 6])) α1 A nL (z_4 σ k (gI σ 0 0)) 60 lv (fO α1 (some k) :: [])) : G p l e R s m args below meth c 0 0 Q dC dI dA (Fc ++ L) α A nL σ 49 lv [] := by
  intro H locs ls hW hl
  obtain ⟨hx, hb, hml, hown, hts, hK, hA⟩ := id hC
  obtain ⟨hkd, f0, f1, f2, f3, f4, f5, f6⟩ := f
  refine va_new (ci := 4) (fs := [.int 0, .null, .null, .null, .null, .null, .null]) (C := RX4) (T := TX4) (N := 7) hx hb hts kbX6_unit_a tyX4 tyX4_ok hown (hts _ kbX6_unit_b) (hts _ kbX6_unit_c) (hts _ kbX6_unit_d) hK hW.1 hW.2.1 hW.2.2 hA rfl (fun j hj => by rcases (show j = 0 ∨ j = 1 ∨ j = 2 ∨ j = 3 ∨ j = 4 ∨ j = 5 ∨ j = 6 by omega) with rfl | rfl | rfl | rfl | rfl | rfl | rfl <;> rfl) (Nat.le_trans (by decide) hR.2.2.1) (Nat.le_trans (by decide) hR.2.2.2) dX6_unit_49 (fun q H1 hP hD hS => ?_)
  refine lv_dup hx hb dX6_unit_52 rfl ?_
  refine lv_aload_n hx hb dX6_unit_53 rfl (lv_at hl j hj) ?_
  obtain ⟨q0, hq0⟩ := wl_mem (fx_0 (L := L))
  have hq2 := wl_at (dA := dA) (α := α) (σ := σ) hq0
  rw [ct_6 rfl] at hq2
  have hq3 : (wl dA (Fc ++ L) α σ ++ [(q, .inr (4, [.int 0, .null, .null, .null, .null, .null, .null]))])[q0]? = some (α 0, .inr (6, [.int (gI σ 0 0), fO α (some 1), .int (gI σ 0 2), fO α (some 2), .int (gI σ 0 4), fO α (some 3), .int (gI σ 0 6), fO α (some 4), .int (gI σ 0 8), fO α (some 5), .int (gI σ 0 10), fO α (some 6), .int (gI σ 0 12), .int (gI σ 0 13), .int (gI σ 0 14), fO α (some 7), .int (gI σ 0 16), fO α (some 8), fO α (some 9), fO α (some 13)])) := by rw [List.getElem?_append_left (List.getElem?_eq_some_iff.mp hq2).1]; exact hq2
  refine va_get (D := (dC, dI)) (ci := 6) (v := .int (gI σ 0 0)) (C := RX6) (T := TX6) (N := 20) hx hb hts kbX6_unit_g hown hK hP q0 hq3 rfl 0 (by decide) (hts _ kbX6_unit_h) (fun _ h9 => h9) rfl dX6_unit_54 ?_
  have hlast : (wl dA (Fc ++ L) α σ ++ [(q, .inr (4, [.int 0, .null, .null, .null, .null, .null, .null]))])[(wl dA (Fc ++ L) α σ).length]? = some (q, .inr (4, [.int 0, .null, .null, .null, .null, .null, .null])) := by simp
  have hPc : va_P (dC, dI) vwCl [(q, .inr (4, [.int 0, .null, .null, .null, .null, .null, .null]))] H1 := by
    intro k9 y9 h9
    cases k9 with
    | zero => cases h9; exact hP _ _ hlast
    | succ n => simp at h9
  have hDc : va_D (fun _ => True) [(q, (.inr (4, [.int 0, .null, .null, .null, .null, .null, .null]) : va_E))] := ⟨fun i1 i2 p1 p2 hi1 hi2 _ => by have g1 := (List.getElem?_eq_some_iff.mp hi1).1; have g2 := (List.getElem?_eq_some_iff.mp hi2).1; simp at g1 g2; omega, fun _ _ _ => trivial⟩
  have hFc : ∀ q9, va_A [(q, .inr (4, [.int 0, .null, .null, .null, .null, .null, .null]))] H1.size q9 → A q9 := by
    intro q9 h9
    rcases h9 with ⟨k9, e9, h9⟩ | h9
    · cases k9 with
      | zero => cases h9; exact hD.2 _ _ hlast
      | succ n => simp at h9
    · exact hA q9 (Nat.le_trans hS.1 h9)
  refine va_callv (va_runI (As := [.int (gI σ 0 0)]) (rest := [.ref q]) ⟨hx, hb, hml, hown, hts⟩ (cr_X4_init l dC dI dA q H1.size (gI σ 0 0)) (cwI 1 hts gX6_unit_X4_init rfl rfl rfl (hts _ kbX6_unit_d) (hts _ kbX6_unit_e) (hts _ kbX6_unit_f) rfl (by decide +kernel) ⟨Nat.le_trans (by decide) hR.1, Nat.le_trans (by decide) hR.2.1⟩) ⟨fun a U g mk q => ⟨q.1, q.2.1, q.2.2.1, va_K.moved (u := U) (U := U.calling g mk a) (Vm.Alike.refl U.vm) q.2.2.2.1, q.2.2.2.2⟩, fun U hU hWd => ⟨rfl, by rw [hU], by rw [hU]; exact hPc, va_K.moved hWd.alike hK, hDc⟩⟩ rfl rfl hl.1 rfl (lv_room (Nat.le_of_ble_eq_true rfl)) dX6_unit_57 ⟨Nat.le_trans (by decide) hR.2.2.1, Nat.le_trans (by decide) hR.2.2.2⟩) hS (fun q9 _ h => hFc q9 h) hFc (fun uu t H2 locs2 ht hvm hw hB hz1 hk1 hS2 => ?_)
  obtain ⟨q1, q2, q3, q4, q5, q6, hP1, hK1, hD1⟩ := hB
  rw [ht] at hP1
  obtain ⟨hP2, hD2⟩ := xa_last hP hD hFc hk1 hP1 hD1
  obtain ⟨α1, hα1⟩ : ∃ z : Nat → Nat, z = (va_up (va_up (va_up (va_up (va_up (va_up (va_up α (k) q) (k + 1) q1) (k + 2) q2) (k + 3) q3) (k + 4) q4) (k + 5) q5) (k + 6) q6) := ⟨_, rfl⟩
  have a0 : α1 (k) = q := by rw [hα1]; simp [va_up]
  have a1 : α1 (k + 1) = q1 := by rw [hα1]; simp [va_up]
  have a2 : α1 (k + 2) = q2 := by rw [hα1]; simp [va_up]
  have a3 : α1 (k + 3) = q3 := by rw [hα1]; simp [va_up]
  have a4 : α1 (k + 4) = q4 := by rw [hα1]; simp [va_up]
  have a5 : α1 (k + 5) = q5 := by rw [hα1]; simp [va_up]
  have a6 : α1 (k + 6) = q6 := by rw [hα1]; simp [va_up]
  have aN : ∀ c9, ¬ (k ≤ c9 ∧ c9 ≤ k + 6) → α1 c9 = α c9 := by intro c9 h9; rw [hα1]; simp only [va_up]; rw [if_neg (by omega)]; rw [if_neg (by omega)]; rw [if_neg (by omega)]; rw [if_neg (by omega)]; rw [if_neg (by omega)]; rw [if_neg (by omega)]; rw [if_neg (by omega)]
  have hN : ∀ i ∈ Fc ++ L, ¬ (k ≤ i ∧ i ≤ k + 6) := by
    intro i hi h9
    rcases (show i = k ∨ i = k + 1 ∨ i = k + 2 ∨ i = k + 3 ∨ i = k + 4 ∨ i = k + 5 ∨ i = k + 6 by omega) with rfl | rfl | rfl | rfl | rfl | rfl | rfl
    · exact f0.1 hi
    · exact f1.1 hi
    · exact f2.1 hi
    · exact f3.1 hi
    · exact f4.1 hi
    · exact f5.1 hi
    · exact f6.1 hi
  have hf : ∀ c9, (k ≤ c9 ∧ c9 ≤ k + 6) → ∀ i ∈ Fc ++ L, fr σ c9 i := by
    intro c9 h9 i hi
    rcases (show c9 = k ∨ c9 = k + 1 ∨ c9 = k + 2 ∨ c9 = k + 3 ∨ c9 = k + 4 ∨ c9 = k + 5 ∨ c9 = k + 6 by omega) with rfl | rfl | rfl | rfl | rfl | rfl | rfl
    · exact f0.2 i hi
    · exact f1.2 i hi
    · exact f2.2 i hi
    · exact f3.2 i hi
    · exact f4.2 i hi
    · exact f5.2 i hi
    · exact f6.2 i hi
  have e9 : wl dA (Fc ++ L) α σ ++ [(q, .inr (4, [.int (gI σ 0 0), .ref q1, .ref q2, .ref q3, .ref q4, .ref q5, .ref q6])), (q1, .inl (dA 8, 61, .inl (fun _ => 0))), (q2, .inl (dA 8, 61, .inl (fun _ => 0))), (q3, .inl (dA 8, 61, .inl (fun _ => 0))), (q4, .inl (dA 8, 61, .inl (fun _ => 0))), (q5, .inl (dA 9, 610, .inr (.inl (fun _ => 0)))), (q6, .inl (dA 9, 610, .inr (.inl (fun _ => 0))))] = wl dA (Fc ++ (L ++ [k, k + 1, k + 2, k + 3, k + 4, k + 5, k + 6])) α1 (z_4 σ k (gI σ 0 0)) := by
    rw [← List.append_assoc, wl_app (F1 := Fc ++ L), wl_frG (σ' := (z_4 σ k (gI σ 0 0))) (N := fun c9 => k ≤ c9 ∧ c9 ≤ k + 6) hN hf aN (fun i hi => ⟨?_, ?_, ?_⟩)]
    · congr 1
      have g9 := kd_4 hkd
      unfold wl
      simp only [List.map_cons, List.map_nil]
      rw [ct_4 hkd, ct_8 g9.1.1, ct_8 g9.1.2.1, ct_8 g9.1.2.2.1, ct_8 g9.1.2.2.2.1, ct_9 g9.1.2.2.2.2.1, ct_9 g9.1.2.2.2.2.2]
      rw [g9.2.1, g9.2.2.1, g9.2.2.2.1, g9.2.2.2.2.1, g9.2.2.2.2.2.1, g9.2.2.2.2.2.2]
      simp only [fO, Option.map, va_rf, a0, a1, a2, a3, a4, a5, a6]
      have w0 : gI (z_4 σ k (gI σ 0 0)) k 0 = gI σ 0 0 := by simp [z_4, gI]
      have w1 : gI (z_4 σ k (gI σ 0 0)) (k + 1) = fun _ => 0 := by funext b9; simp [z_4, gI]
      have w2 : gI (z_4 σ k (gI σ 0 0)) (k + 2) = fun _ => 0 := by funext b9; simp [z_4, gI]
      have w3 : gI (z_4 σ k (gI σ 0 0)) (k + 3) = fun _ => 0 := by funext b9; simp [z_4, gI]
      have w4 : gI (z_4 σ k (gI σ 0 0)) (k + 4) = fun _ => 0 := by funext b9; simp [z_4, gI]
      have w5 : gJ (z_4 σ k (gI σ 0 0)) (k + 5) = fun _ => 0 := by funext b9; simp [z_4, gJ]
      have w6 : gJ (z_4 σ k (gI σ 0 0)) (k + 6) = fun _ => 0 := by funext b9; simp [z_4, gJ]
      rw [w0, w1, w2, w3, w4, w5, w6]
    · funext b9; simp only [z_4, gI]; rw [if_neg (by omega), if_neg (by omega)]
    · funext b9; simp only [z_4, gJ]; rw [if_neg (by omega)]
    · rfl
  rw [e9] at hP2 hD2
  have hα : ∀ i ∈ Fc ++ L, α1 i = α i := fun i hi => aN i (hN i hi)
  have e2 : fO α1 (some k) = .ref q := by show Value.ref (α1 k) = .ref q; rw [a0]
  rw [← e2]
  exact kk α1 hα H2 locs2 ls ⟨hP2, hD2, hS2⟩ hl
theorem kbX6_well_a : ∀ w ∈ u_ws RX5 TX5 4, w ∈ wsX6_well := by decide +kernel
theorem kbX6_well_b : (Cond.classLink RX6 49 RX5) ∈ wsX6_well := by decide +kernel
theorem kbX6_well_c : (Cond.instantiable RX5 4) ∈ wsX6_well := by decide +kernel
theorem kbX6_well_d : (Cond.initialized RX5) ∈ wsX6_well := by decide +kernel
theorem kbX6_well_e : (Cond.methodLink RX6 191 yX5_init) ∈ wsX6_well := by decide +kernel
theorem kbX6_well_f : (Cond.instanceMethod yX5_init) ∈ wsX6_well := by decide +kernel
set_option maxHeartbeats 4000000 in
set_option maxRecDepth 100000 in
theorem r_new_X6_well {p : Program} {l : Launch} {e : Env} {R : Room} {s : State} {m : MethodId} {args : Array Value} {below : List Frame} {meth : Method} {c : Code} {Q : State → Prop} {dC : Nat → ClassId} {dI : Nat → Nat → Nat} {dA : Nat → ClassId} {L : List Nat} {α : Nat → Nat} {A : Nat → Prop} {nL : Nat} {σ : Mm} {lv : List (Nat × Value)} {k j u : Nat} {x : Int32} (hC : mC p s m args c cX6_well RX6 nL wsX6_well dC dI dA A) (hu : u ∈ Fc ++ L) (hud : kd u = 4) (hj : lv[j]? = some (2, fO α (some u))) (hR : 2 ≤ R.frames ∧ 60 ≤ R.locals ∧ 4 ≤ R.cells ∧ 187 ≤ R.slots) (f : kd k = 5 ∧ nwS L σ (k) ∧ nwS L σ (k + 1) ∧ nwS L σ (k + 2) ∧ nwS L σ (k + 3))
    (kk : ∀ α1 : Nat → Nat, (∀ i ∈ Fc ++ L, α1 i = α i) → G p l e R s m args below meth c (0 + 4) (0 + 187) Q dC dI dA (Fc ++ (L ++ [k, k + 1, k + 2, k + 3])) α1 A nL (z_5 σ k (some u)) 55 lv (fO α1 (some k) :: [.int x, fO α1 (some 5)])) : G p l e R s m args below meth c 0 0 Q dC dI dA (Fc ++ L) α A nL σ 47 lv [.int x, fO α (some 5)] := by
  intro H locs ls hW hl
  obtain ⟨hx, hb, hml, hown, hts, hK, hA⟩ := id hC
  obtain ⟨hkd, f0, f1, f2, f3⟩ := f
  refine va_new (ci := 5) (fs := [.null, .null, .null, .null]) (C := RX5) (T := TX5) (N := 4) hx hb hts kbX6_well_a tyX5 tyX5_ok hown (hts _ kbX6_well_b) (hts _ kbX6_well_c) (hts _ kbX6_well_d) hK hW.1 hW.2.1 hW.2.2 hA rfl (fun j hj => by rcases (show j = 0 ∨ j = 1 ∨ j = 2 ∨ j = 3 by omega) with rfl | rfl | rfl | rfl <;> rfl) (Nat.le_trans (by decide) hR.2.2.1) (Nat.le_trans (by decide) hR.2.2.2) dX6_well_47 (fun q H1 hP hD hS => ?_)
  refine lv_dup hx hb dX6_well_50 rfl ?_
  refine lv_aload_n hx hb dX6_well_51 rfl (lv_at hl j hj) ?_
  have hlast : (wl dA (Fc ++ L) α σ ++ [(q, .inr (5, [.null, .null, .null, .null]))])[(wl dA (Fc ++ L) α σ).length]? = some (q, .inr (5, [.null, .null, .null, .null])) := by simp
  have hPc : va_P (dC, dI) vwCl [(q, .inr (5, [.null, .null, .null, .null]))] H1 := by
    intro k9 y9 h9
    cases k9 with
    | zero => cases h9; exact hP _ _ hlast
    | succ n => simp at h9
  have hDc : va_D (fun _ => True) [(q, (.inr (5, [.null, .null, .null, .null]) : va_E))] := ⟨fun i1 i2 p1 p2 hi1 hi2 _ => by have g1 := (List.getElem?_eq_some_iff.mp hi1).1; have g2 := (List.getElem?_eq_some_iff.mp hi2).1; simp at g1 g2; omega, fun _ _ _ => trivial⟩
  have hFc : ∀ q9, va_A [(q, .inr (5, [.null, .null, .null, .null]))] H1.size q9 → A q9 := by
    intro q9 h9
    rcases h9 with ⟨k9, e9, h9⟩ | h9
    · cases k9 with
      | zero => cases h9; exact hD.2 _ _ hlast
      | succ n => simp at h9
    · exact hA q9 (Nat.le_trans hS.1 h9)
  refine va_callv (va_runI (As := [.ref (α u)]) (rest := [.ref q, .int x, fO α (some 5)]) ⟨hx, hb, hml, hown, hts⟩ (cr_X5_init l dC dI dA q H1.size (α u)) (cwI 1 hts gX6_well_X5_init rfl rfl rfl (hts _ kbX6_well_d) (hts _ kbX6_well_e) (hts _ kbX6_well_f) rfl (by decide +kernel) ⟨Nat.le_trans (by decide) hR.1, Nat.le_trans (by decide) hR.2.1⟩) ⟨fun a U g mk q => ⟨q.1, q.2.1, q.2.2.1, va_K.moved (u := U) (U := U.calling g mk a) (Vm.Alike.refl U.vm) q.2.2.2.1, q.2.2.2.2⟩, fun U hU hWd => ⟨rfl, by rw [hU], by rw [hU]; exact hPc, va_K.moved hWd.alike hK, hDc⟩⟩ rfl rfl hl.1 rfl (lv_room (Nat.le_of_ble_eq_true rfl)) dX6_well_52 ⟨Nat.le_trans (by decide) hR.2.2.1, Nat.le_trans (by decide) hR.2.2.2⟩) hS (fun q9 _ h => hFc q9 h) hFc (fun uu t H2 locs2 ht hvm hw hB hz1 hk1 hS2 => ?_)
  obtain ⟨q1, q2, q3, hP1, hK1, hD1⟩ := hB
  rw [ht] at hP1
  obtain ⟨hP2, hD2⟩ := xa_last hP hD hFc hk1 hP1 hD1
  obtain ⟨α1, hα1⟩ : ∃ z : Nat → Nat, z = (va_up (va_up (va_up (va_up α (k) q) (k + 1) q1) (k + 2) q2) (k + 3) q3) := ⟨_, rfl⟩
  have a0 : α1 (k) = q := by rw [hα1]; simp [va_up]
  have a1 : α1 (k + 1) = q1 := by rw [hα1]; simp [va_up]
  have a2 : α1 (k + 2) = q2 := by rw [hα1]; simp [va_up]
  have a3 : α1 (k + 3) = q3 := by rw [hα1]; simp [va_up]
  have aN : ∀ c9, ¬ (k ≤ c9 ∧ c9 ≤ k + 3) → α1 c9 = α c9 := by intro c9 h9; rw [hα1]; simp only [va_up]; rw [if_neg (by omega)]; rw [if_neg (by omega)]; rw [if_neg (by omega)]; rw [if_neg (by omega)]
  have hN : ∀ i ∈ Fc ++ L, ¬ (k ≤ i ∧ i ≤ k + 3) := by
    intro i hi h9
    rcases (show i = k ∨ i = k + 1 ∨ i = k + 2 ∨ i = k + 3 by omega) with rfl | rfl | rfl | rfl
    · exact f0.1 hi
    · exact f1.1 hi
    · exact f2.1 hi
    · exact f3.1 hi
  have hf : ∀ c9, (k ≤ c9 ∧ c9 ≤ k + 3) → ∀ i ∈ Fc ++ L, fr σ c9 i := by
    intro c9 h9 i hi
    rcases (show c9 = k ∨ c9 = k + 1 ∨ c9 = k + 2 ∨ c9 = k + 3 by omega) with rfl | rfl | rfl | rfl
    · exact f0.2 i hi
    · exact f1.2 i hi
    · exact f2.2 i hi
    · exact f3.2 i hi
  have e9 : wl dA (Fc ++ L) α σ ++ [(q, .inr (5, [.ref (α u), .ref q1, .ref q2, .ref q3])), (q1, .inl (dA 8, 61, .inl (fun _ => 0))), (q2, .inl (dA 8, 61, .inl (fun _ => 0))), (q3, .inl (dA 8, 61, .inl (fun _ => 0)))] = wl dA (Fc ++ (L ++ [k, k + 1, k + 2, k + 3])) α1 (z_5 σ k (some u)) := by
    rw [← List.append_assoc, wl_app (F1 := Fc ++ L), wl_frG (σ' := (z_5 σ k (some u))) (N := fun c9 => k ≤ c9 ∧ c9 ≤ k + 3) hN hf aN (fun i hi => ⟨?_, ?_, ?_⟩)]
    · congr 1
      have g9 := kd_5 hkd
      unfold wl
      simp only [List.map_cons, List.map_nil]
      rw [ct_5 hkd, ct_8 g9.1.1, ct_8 g9.1.2.1, ct_8 g9.1.2.2]
      rw [g9.2.1, g9.2.2.1, g9.2.2.2]
      simp only [fO, Option.map, va_rf, a0, a1, a2, a3]
      have w0 : gR (z_5 σ k (some u)) k 0 = some u := by simp [z_5, gR]
      have w1 : gI (z_5 σ k (some u)) (k + 1) = fun _ => 0 := by funext b9; simp [z_5, gI]
      have w2 : gI (z_5 σ k (some u)) (k + 2) = fun _ => 0 := by funext b9; simp [z_5, gI]
      have w3 : gI (z_5 σ k (some u)) (k + 3) = fun _ => 0 := by funext b9; simp [z_5, gI]
      rw [w0, w1, w2, w3]
      dsimp only
      rw [aN u (fun z9 => hN u hu z9)]
    · funext b9; simp only [z_5, gI]; rw [if_neg (by omega)]
    · rfl
    · funext b9; simp only [z_5, gR]; rw [if_neg (by omega)]
  rw [e9] at hP2 hD2
  have hα : ∀ i ∈ Fc ++ L, α1 i = α i := fun i hi => aN i (hN i hi)
  have e2 : fO α1 (some k) = .ref q := by show Value.ref (α1 k) = .ref q; rw [a0]
  rw [fO_al hα (k := 5) fx_5]
  rw [← e2]
  exact kk α1 hα H2 locs2 ls ⟨hP2, hD2, hS2⟩ hl
