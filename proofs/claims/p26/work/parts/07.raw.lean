/-! CONSTRUCTORS over explicit cells -/
theorem arr_uni {D : va_G} {cl : List vw_C} {dA : Nat → ClassId} {s : State} {cA : ClassId} {ty : FieldType} (hK : va_K D cl (tysL dA) s) (hK' : va_K D cl (tysL dA ++ [(cA, ty)]) s) (i : Nat) {d : ClassId} (hi : (tysL dA)[i]? = some (d, ty)) : cA = d := by
  have h1 := (hK.2 i _ hi).2
  have h2 := (hK'.2 8 (cA, ty) rfl).2
  cases ty with
  | object C =>
    obtain ⟨_, _, _, _, _, e1⟩ := h1
    obtain ⟨_, _, _, _, _, e2⟩ := h2
    exact Option.some.inj (e2.symm.trans e1)
  | _ => exact Option.some.inj ((show s.vm.findClass _ = some cA from h2).symm.trans (show s.vm.findClass _ = some d from h1))
section RAW
variable {p : Program} {l : Launch} {e : Env} {R : Room} {s : State} {m : MethodId} {args : Array Value} {below : List Frame} {meth : Method} {c : Code} {cells slots : Nat} {Q : State → Prop} {D : va_G} {cl : List vw_C} {dA : Nat → ClassId} {A : Nat → Prop} {ws : va_W} {H0 H : Heap} {locs : List Loc} {pc : Nat} {ls : Array Slot} {rest : List Value} {cc : ByteArray}
theorem w_newI (hexec : p.tables.exec = Jvm.exec) (hb : c.code = cc) (harr : (Cond.arrayClass .int).before args s = true) (hK : va_K D cl (tysL dA) s) (hP : va_P D cl ws H) (hD : va_D A ws) (hS : va_S A H0 H locs) (hA : ∀ q, H0.size ≤ q → A q) {n : Int32} {N' : Nat} (hn : ¬ n < 0) (hN : n.toNatClampNeg = N') (hbytes : N' * 8 ≤ 536870912) (hcells : cells + 1 ≤ R.cells) (hslots : slots + N' ≤ R.slots) (hdg : decode cc pc = .ok (.newarray .int, 2))
    (kk : ∀ (q : Nat) (H1 : Heap), va_P D cl (ws ++ [(q, .inl (dA 8, N', .inl (fun _ => 0)))]) H1 → va_D A (ws ++ [(q, .inl (dA 8, N', .inl (fun _ => 0)))]) → va_S A H0 H1 locs → W p l e R s m args below meth c H1 locs (cells + 1) (slots + N') Q (F0 m (pc + 2) ls (.ref q :: rest))) : W p l e R s m args below meth c H locs cells slots Q (F0 m pc ls (.int n :: rest)) := by
  refine va_newa (atype := .int) (ty := .int) (a0 := (N', .inl (fun _ => 0))) hexec hb harr rfl hK hP hD hS hA (fun _ => rfl) hn hN (Nat.le_trans (Nat.mul_le_mul_left _ (by decide)) hbytes) hcells hslots hdg (fun q cA H1 hK1 hP1 hD1 hS1 => ?_)
  have e9 := arr_uni hK hK1 0 rfl
  subst e9
  exact kk q H1 hP1 hD1 hS1
theorem w_newJ (hexec : p.tables.exec = Jvm.exec) (hb : c.code = cc) (harr : (Cond.arrayClass .long).before args s = true) (hK : va_K D cl (tysL dA) s) (hP : va_P D cl ws H) (hD : va_D A ws) (hS : va_S A H0 H locs) (hA : ∀ q, H0.size ≤ q → A q) {n : Int32} {N' : Nat} (hn : ¬ n < 0) (hN : n.toNatClampNeg = N') (hbytes : N' * 8 ≤ 536870912) (hcells : cells + 1 ≤ R.cells) (hslots : slots + N' ≤ R.slots) (hdg : decode cc pc = .ok (.newarray .long, 2))
    (kk : ∀ (q : Nat) (H1 : Heap), va_P D cl (ws ++ [(q, .inl (dA 9, N', .inr (.inl (fun _ => 0))))]) H1 → va_D A (ws ++ [(q, .inl (dA 9, N', .inr (.inl (fun _ => 0))))]) → va_S A H0 H1 locs → W p l e R s m args below meth c H1 locs (cells + 1) (slots + N') Q (F0 m (pc + 2) ls (.ref q :: rest))) : W p l e R s m args below meth c H locs cells slots Q (F0 m pc ls (.int n :: rest)) := by
  refine va_newa (atype := .long) (ty := .long) (a0 := (N', .inr (.inl (fun _ => 0)))) hexec hb harr rfl hK hP hD hS hA (fun _ => rfl) hn hN (Nat.le_trans (Nat.mul_le_mul_left _ (by decide)) hbytes) hcells hslots hdg (fun q cA H1 hK1 hP1 hD1 hS1 => ?_)
  have e9 := arr_uni hK hK1 1 rfl
  subst e9
  exact kk q H1 hP1 hD1 hS1
theorem w_newR (hexec : p.tables.exec = Jvm.exec) (hb : c.code = cc) {own C : String} {index i : Nat} (hown : s.vm.findClass own = some m.cls) (hclink : (Cond.classLink own index C).before args s = true) (hover : va_AO C s) (hi : (tysL dA)[i]? = some (dA (i + 8), .object C)) (hK : va_K D cl (tysL dA) s) (hP : va_P D cl ws H) (hD : va_D A ws) (hS : va_S A H0 H locs) (hA : ∀ q, H0.size ≤ q → A q) {n : Int32} {N' : Nat} (hn : ¬ n < 0) (hN : n.toNatClampNeg = N') (hbytes : N' * 4 ≤ 536870912) (hcells : cells + 1 ≤ R.cells) (hslots : slots + N' ≤ R.slots) (hdg : decode cc pc = .ok (.anewarray index, 3))
    (kk : ∀ (q : Nat) (H1 : Heap), va_P D cl (ws ++ [(q, .inl (dA (i + 8), N', .inr (.inr (.inr (.inr (fun _ => none))))))]) H1 → va_D A (ws ++ [(q, .inl (dA (i + 8), N', .inr (.inr (.inr (.inr (fun _ => none))))))]) → va_S A H0 H1 locs → W p l e R s m args below meth c H1 locs (cells + 1) (slots + N') Q (F0 m (pc + 3) ls (.ref q :: rest))) : W p l e R s m args below meth c H locs cells slots Q (F0 m pc ls (.int n :: rest)) := by
  refine va_newq hexec hb hown hclink hover hK hP hD hS hA hn hN hbytes hcells hslots hdg (fun q cA H1 hK1 hP1 hD1 hS1 => ?_)
  have e9 := arr_uni hK hK1 i hi
  subst e9
  exact kk q H1 hP1 hD1 hS1
end RAW
theorem krX2_init_0 : (Cond.methodLink RX2 1 objectInit) ∈ wsX2_init := by decide +kernel
theorem krX2_init_1 : (Cond.instanceMethod objectInit) ∈ wsX2_init := by decide +kernel
theorem krX2_init_2 : (Cond.code objectInit ⟨#[0xb1]⟩ 1 none) ∈ wsX2_init := by decide +kernel
theorem krX2_init_3 : (Cond.arrayClass .long) ∈ wsX2_init := by decide +kernel
theorem krX2_init_4 : ∀ w ∈ u_ws RX2 TX2 3, w ∈ wsX2_init := by decide +kernel
theorem krX2_init_5 : (Cond.fieldLink RX2 7 "Divisionorder$Parting" "weights" "[J") ∈ wsX2_init := by decide +kernel
theorem krX2_init_6 : (Cond.fieldLink RX2 13 "Divisionorder$Parting" "parts" "[J") ∈ wsX2_init := by decide +kernel
theorem krX2_init_7 : (Cond.fieldLink RX2 16 "Divisionorder$Parting" "rests" "[J") ∈ wsX2_init := by decide +kernel
set_option maxHeartbeats 4000000 in
set_option maxRecDepth 100000 in
theorem cr_X2_init (l : Launch) (dC : Nat → ClassId) (dI : Nat → Nat → Nat) (dA : Nat → ClassId) (h0 sz : Nat) (x1 : Int32) (N : Nat) (hn0 : ¬ x1 < 0) (hN0 : x1.toNatClampNeg = N) (hNb : N * 8 ≤ 536870912) : Met l yX2_init wsX2_init ({ frames := 1, cells := 3, slots := 3 * N, locals := 20 }) (va_Pc [.ref h0, .int x1] (fun U => U.heap.size = sz ∧ va_P (dC, dI) vwCl [(h0, .inr (2, [.null, .null, .null]))] U.heap ∧ va_K (dC, dI) vwCl (tysL dA) U ∧ va_D (fun _ => True) [(h0, .inr (2, [.null, .null, .null]))])) (va_Qv (fun _ : Unit => True) (fun _ t => ∃ q1 q2 q3 : Nat, va_P (dC, dI) vwCl [(h0, .inr (2, [.ref q1, .ref q2, .ref q3])), (q1, .inl (dA 9, N, .inr (.inl (fun _ => 0)))), (q2, .inl (dA 9, N, .inr (.inl (fun _ => 0)))), (q3, .inl (dA 9, N, .inr (.inl (fun _ => 0))))] t.heap ∧ va_K (dC, dI) vwCl (tysL dA) t ∧ va_D (va_A [(h0, .inr (2, [.null, .null, .null]))] sz) [(h0, .inr (2, [.ref q1, .ref q2, .ref q3])), (q1, .inl (dA 9, N, .inr (.inl (fun _ => 0)))), (q2, .inl (dA 9, N, .inr (.inl (fun _ => 0)))), (q3, .inl (dA 9, N, .inr (.inl (fun _ => 0))))]) (va_A [(h0, .inr (2, [.null, .null, .null]))] sz)) 3 (3 * N) (va_A [(h0, .inr (2, [.null, .null, .null]))] sz) := by
  refine Met.ofW (cc := cX2_init) (maxL := 2) (ret := none) (by decide) rfl ?_
  intro p e s m args below meth c s₁ B hml hv
  obtain ⟨rfl, hsz, hP, hK, hD0⟩ := hv
  have hx := B.exec
  have hb := B.bytes
  have hr := B.returns
  have hlocks := B.notSynchronized
  have hts := atoms_spec (ws := wsX2_init) B.pre
  have hown : s.vm.findClass RX2 = some m.cls := findClass_of_methodNamed B.named
  have hin : meth.name = "<init>" := (name_of_methodNamed B.named B.method).1
  subst hsz
  have hD := hD0.self (sz := s.heap.size)
  generalize hAe : va_A [(h0, .inr (2, [.null, .null, .null]))] s.heap.size = A at hD ⊢
  have hA : ∀ q : Nat, s.heap.size ≤ q → A q := fun q h => by rw [← hAe]; exact Or.inr h
  have hS : va_S A s.heap s.heap [] := va_S.rf
  have hl := lv_entry ([.ref h0, .int x1]) (n := 2) (Nat.le_of_ble_eq_true rfl)
  rw [lg_entry_eq]
  generalize (lg_sl ([.ref h0, .int x1]) ++ List.replicate (2 - (lg_sl ([.ref h0, .int x1])).length) Slot.unset).toArray = ls at hl ⊢
  have hl : lv_has ls 2 [(0, .ref h0), (1, .int x1)] := hl
  refine lv_aload_n hx hb dX2_init_0 rfl (lv_at hl 0 rfl) ?_
  refine W.objInit hx hb hown (hts _ krX2_init_0) (hts _ krX2_init_1) (hts _ krX2_init_2) rfl (hl.1.trans hml.symm) rfl dX2_init_1 (Nat.le_of_ble_eq_true rfl) (Nat.le_of_ble_eq_true rfl) ?_
  refine W.eq (g2 := F0 m 4 ls []) rfl ?_
  refine lv_aload_n hx hb dX2_init_4 rfl (lv_at hl 0 rfl) ?_
  refine lv_iload_n hx hb dX2_init_5 rfl (lv_at hl 1 rfl) ?_
  refine w_newJ hx hb (hts _ krX2_init_3) hK hP hD hS hA (n := x1) (N' := N) hn0 hN0 hNb (Nat.le_of_ble_eq_true rfl) (by show _ ≤ 3 * N; omega) dX2_init_6 (fun q1 H hP hD hS => ?_)
  have hP : va_P (dC, dI) vwCl [(h0, .inr (2, [.null, .null, .null])), (q1, .inl (dA 9, N, .inr (.inl (fun _ => 0))))] H := hP
  have hD : va_D A [(h0, .inr (2, [.null, .null, .null])), (q1, .inl (dA 9, N, .inr (.inl (fun _ => 0))))] := hD
  refine W.widen (k := 1) (n := 1 * N) (Nat.le_of_ble_eq_true rfl) (by omega) ?_
  refine va_putF (D := (dC, dI)) (ci := 2) (v := .ref q1) (ty := tyX2 0) (C := RX2) (T := TX2) (N := 3) hx hb hts krX2_init_4 tyX2 tyX2_ok nmX2 hown hK hP hD hS 0 rfl rfl 0 (by decide) (hts _ krX2_init_5) (fun _ h9 => h9) rfl hin rfl (by decide +kernel) rfl rfl (Nat.le_of_ble_eq_true rfl) dX2_init_8 (fun H locs hP hD hS => ?_)
  have hP : va_P (dC, dI) vwCl [(h0, .inr (2, [.ref q1, .null, .null])), (q1, .inl (dA 9, N, .inr (.inl (fun _ => 0))))] H := hP
  have hD : va_D A [(h0, .inr (2, [.ref q1, .null, .null])), (q1, .inl (dA 9, N, .inr (.inl (fun _ => 0))))] := hD
  refine lv_aload_n hx hb dX2_init_11 rfl (lv_at hl 0 rfl) ?_
  refine lv_iload_n hx hb dX2_init_12 rfl (lv_at hl 1 rfl) ?_
  refine w_newJ hx hb (hts _ krX2_init_3) hK hP hD hS hA (n := x1) (N' := N) hn0 hN0 hNb (Nat.le_of_ble_eq_true rfl) (by show _ ≤ 3 * N; omega) dX2_init_13 (fun q2 H hP hD hS => ?_)
  have hP : va_P (dC, dI) vwCl [(h0, .inr (2, [.ref q1, .null, .null])), (q1, .inl (dA 9, N, .inr (.inl (fun _ => 0)))), (q2, .inl (dA 9, N, .inr (.inl (fun _ => 0))))] H := hP
  have hD : va_D A [(h0, .inr (2, [.ref q1, .null, .null])), (q1, .inl (dA 9, N, .inr (.inl (fun _ => 0)))), (q2, .inl (dA 9, N, .inr (.inl (fun _ => 0))))] := hD
  refine W.widen (k := 2) (n := 2 * N) (Nat.le_of_ble_eq_true rfl) (by omega) ?_
  refine va_putF (D := (dC, dI)) (ci := 2) (v := .ref q2) (ty := tyX2 1) (C := RX2) (T := TX2) (N := 3) hx hb hts krX2_init_4 tyX2 tyX2_ok nmX2 hown hK hP hD hS 0 rfl rfl 1 (by decide) (hts _ krX2_init_6) (fun _ h9 => h9) rfl hin rfl (by decide +kernel) rfl rfl (Nat.le_of_ble_eq_true rfl) dX2_init_15 (fun H locs hP hD hS => ?_)
  have hP : va_P (dC, dI) vwCl [(h0, .inr (2, [.ref q1, .ref q2, .null])), (q1, .inl (dA 9, N, .inr (.inl (fun _ => 0)))), (q2, .inl (dA 9, N, .inr (.inl (fun _ => 0))))] H := hP
  have hD : va_D A [(h0, .inr (2, [.ref q1, .ref q2, .null])), (q1, .inl (dA 9, N, .inr (.inl (fun _ => 0)))), (q2, .inl (dA 9, N, .inr (.inl (fun _ => 0))))] := hD
  refine lv_aload_n hx hb dX2_init_18 rfl (lv_at hl 0 rfl) ?_
  refine lv_iload_n hx hb dX2_init_19 rfl (lv_at hl 1 rfl) ?_
  refine w_newJ hx hb (hts _ krX2_init_3) hK hP hD hS hA (n := x1) (N' := N) hn0 hN0 hNb (Nat.le_of_ble_eq_true rfl) (by show _ ≤ 3 * N; omega) dX2_init_20 (fun q3 H hP hD hS => ?_)
  have hP : va_P (dC, dI) vwCl [(h0, .inr (2, [.ref q1, .ref q2, .null])), (q1, .inl (dA 9, N, .inr (.inl (fun _ => 0)))), (q2, .inl (dA 9, N, .inr (.inl (fun _ => 0)))), (q3, .inl (dA 9, N, .inr (.inl (fun _ => 0))))] H := hP
  have hD : va_D A [(h0, .inr (2, [.ref q1, .ref q2, .null])), (q1, .inl (dA 9, N, .inr (.inl (fun _ => 0)))), (q2, .inl (dA 9, N, .inr (.inl (fun _ => 0)))), (q3, .inl (dA 9, N, .inr (.inl (fun _ => 0))))] := hD
  refine W.widen (k := 3) (n := 3 * N) (Nat.le_of_ble_eq_true rfl) (by omega) ?_
  refine va_putF (D := (dC, dI)) (ci := 2) (v := .ref q3) (ty := tyX2 2) (C := RX2) (T := TX2) (N := 3) hx hb hts krX2_init_4 tyX2 tyX2_ok nmX2 hown hK hP hD hS 0 rfl rfl 2 (by decide) (hts _ krX2_init_7) (fun _ h9 => h9) rfl hin rfl (by decide +kernel) rfl rfl (Nat.le_of_ble_eq_true rfl) dX2_init_22 (fun H locs hP hD hS => ?_)
  have hP : va_P (dC, dI) vwCl [(h0, .inr (2, [.ref q1, .ref q2, .ref q3])), (q1, .inl (dA 9, N, .inr (.inl (fun _ => 0)))), (q2, .inl (dA 9, N, .inr (.inl (fun _ => 0)))), (q3, .inl (dA 9, N, .inr (.inl (fun _ => 0))))] H := hP
  have hD : va_D A [(h0, .inr (2, [.ref q1, .ref q2, .ref q3])), (q1, .inl (dA 9, N, .inr (.inl (fun _ => 0)))), (q2, .inl (dA 9, N, .inr (.inl (fun _ => 0)))), (q3, .inl (dA 9, N, .inr (.inl (fun _ => 0))))] := hD
  refine W.widen (k := 3) (n := 3 * N) (Nat.le_refl _) (Nat.le_refl _) ?_
  exact W.vret hx hb hr (fun t ht hW => ⟨⟨(), rfl, trivial, q1, q2, q3, by rw [ht]; exact hP, va_K.moved hW.alike hK, hD⟩, hS.F ht⟩) hS.2.2 dX2_init_25
theorem krX4_init_0 : (Cond.methodLink RX4 3 objectInit) ∈ wsX4_init := by decide +kernel
theorem krX4_init_1 : (Cond.instanceMethod objectInit) ∈ wsX4_init := by decide +kernel
theorem krX4_init_2 : (Cond.code objectInit ⟨#[0xb1]⟩ 1 none) ∈ wsX4_init := by decide +kernel
theorem krX4_init_3 : (Cond.arrayClass .int) ∈ wsX4_init := by decide +kernel
theorem krX4_init_4 : ∀ w ∈ u_ws RX4 TX4 7, w ∈ wsX4_init := by decide +kernel
theorem krX4_init_5 : (Cond.fieldLink RX4 9 "Divisionorder$Unit" "refusing" "[I") ∈ wsX4_init := by decide +kernel
theorem krX4_init_6 : (Cond.fieldLink RX4 15 "Divisionorder$Unit" "barrels" "[I") ∈ wsX4_init := by decide +kernel
theorem krX4_init_7 : (Cond.fieldLink RX4 18 "Divisionorder$Unit" "gross" "[I") ∈ wsX4_init := by decide +kernel
theorem krX4_init_8 : (Cond.fieldLink RX4 21 "Divisionorder$Unit" "costs" "[I") ∈ wsX4_init := by decide +kernel
theorem krX4_init_9 : (Cond.arrayClass .long) ∈ wsX4_init := by decide +kernel
theorem krX4_init_10 : (Cond.fieldLink RX4 24 "Divisionorder$Unit" "dues" "[J") ∈ wsX4_init := by decide +kernel
theorem krX4_init_11 : (Cond.fieldLink RX4 28 "Divisionorder$Unit" "balances" "[J") ∈ wsX4_init := by decide +kernel
theorem krX4_init_12 : (Cond.fieldLink RX4 31 "Divisionorder$Unit" "firstMonth" "I") ∈ wsX4_init := by decide +kernel
set_option maxHeartbeats 4000000 in
set_option maxRecDepth 100000 in
theorem cr_X4_init (l : Launch) (dC : Nat → ClassId) (dI : Nat → Nat → Nat) (dA : Nat → ClassId) (h0 sz : Nat) (x1 : Int32) : Met l yX4_init wsX4_init ({ frames := 1, cells := 6, slots := 1464, locals := 20 }) (va_Pc [.ref h0, .int x1] (fun U => U.heap.size = sz ∧ va_P (dC, dI) vwCl [(h0, .inr (4, [.int 0, .null, .null, .null, .null, .null, .null]))] U.heap ∧ va_K (dC, dI) vwCl (tysL dA) U ∧ va_D (fun _ => True) [(h0, .inr (4, [.int 0, .null, .null, .null, .null, .null, .null]))])) (va_Qv (fun _ : Unit => True) (fun _ t => ∃ q1 q2 q3 q4 q5 q6 : Nat, va_P (dC, dI) vwCl [(h0, .inr (4, [.int x1, .ref q1, .ref q2, .ref q3, .ref q4, .ref q5, .ref q6])), (q1, .inl (dA 8, 61, .inl (fun _ => 0))), (q2, .inl (dA 8, 61, .inl (fun _ => 0))), (q3, .inl (dA 8, 61, .inl (fun _ => 0))), (q4, .inl (dA 8, 61, .inl (fun _ => 0))), (q5, .inl (dA 9, 610, .inr (.inl (fun _ => 0)))), (q6, .inl (dA 9, 610, .inr (.inl (fun _ => 0))))] t.heap ∧ va_K (dC, dI) vwCl (tysL dA) t ∧ va_D (va_A [(h0, .inr (4, [.int 0, .null, .null, .null, .null, .null, .null]))] sz) [(h0, .inr (4, [.int x1, .ref q1, .ref q2, .ref q3, .ref q4, .ref q5, .ref q6])), (q1, .inl (dA 8, 61, .inl (fun _ => 0))), (q2, .inl (dA 8, 61, .inl (fun _ => 0))), (q3, .inl (dA 8, 61, .inl (fun _ => 0))), (q4, .inl (dA 8, 61, .inl (fun _ => 0))), (q5, .inl (dA 9, 610, .inr (.inl (fun _ => 0)))), (q6, .inl (dA 9, 610, .inr (.inl (fun _ => 0))))]) (va_A [(h0, .inr (4, [.int 0, .null, .null, .null, .null, .null, .null]))] sz)) 6 (1464) (va_A [(h0, .inr (4, [.int 0, .null, .null, .null, .null, .null, .null]))] sz) := by
  refine Met.ofW (cc := cX4_init) (maxL := 2) (ret := none) (by decide) rfl ?_
  intro p e s m args below meth c s₁ B hml hv
  obtain ⟨rfl, hsz, hP, hK, hD0⟩ := hv
  have hx := B.exec
  have hb := B.bytes
  have hr := B.returns
  have hlocks := B.notSynchronized
  have hts := atoms_spec (ws := wsX4_init) B.pre
  have hown : s.vm.findClass RX4 = some m.cls := findClass_of_methodNamed B.named
  have hin : meth.name = "<init>" := (name_of_methodNamed B.named B.method).1
  subst hsz
  have hD := hD0.self (sz := s.heap.size)
  generalize hAe : va_A [(h0, .inr (4, [.int 0, .null, .null, .null, .null, .null, .null]))] s.heap.size = A at hD ⊢
  have hA : ∀ q : Nat, s.heap.size ≤ q → A q := fun q h => by rw [← hAe]; exact Or.inr h
  have hS : va_S A s.heap s.heap [] := va_S.rf
  have hl := lv_entry ([.ref h0, .int x1]) (n := 2) (Nat.le_of_ble_eq_true rfl)
  rw [lg_entry_eq]
  generalize (lg_sl ([.ref h0, .int x1]) ++ List.replicate (2 - (lg_sl ([.ref h0, .int x1])).length) Slot.unset).toArray = ls at hl ⊢
  have hl : lv_has ls 2 [(0, .ref h0), (1, .int x1)] := hl
  refine lv_aload_n hx hb dX4_init_0 rfl (lv_at hl 0 rfl) ?_
  refine W.objInit hx hb hown (hts _ krX4_init_0) (hts _ krX4_init_1) (hts _ krX4_init_2) rfl (hl.1.trans hml.symm) rfl dX4_init_1 (Nat.le_of_ble_eq_true rfl) (Nat.le_of_ble_eq_true rfl) ?_
  refine W.eq (g2 := F0 m 4 ls []) rfl ?_
  refine lv_aload_n hx hb dX4_init_4 rfl (lv_at hl 0 rfl) ?_
  refine lv_bipush (v := 61) hx hb dX4_init_5 (by decide) ?_
  refine w_newI hx hb (hts _ krX4_init_3) hK hP hD hS hA (n := 61) (N' := 61) (by decide) rfl (Nat.le_of_ble_eq_true rfl) (Nat.le_of_ble_eq_true rfl) (Nat.le_of_ble_eq_true rfl) dX4_init_7 (fun q1 H hP hD hS => ?_)
  have hP : va_P (dC, dI) vwCl [(h0, .inr (4, [.int 0, .null, .null, .null, .null, .null, .null])), (q1, .inl (dA 8, 61, .inl (fun _ => 0)))] H := hP
  have hD : va_D A [(h0, .inr (4, [.int 0, .null, .null, .null, .null, .null, .null])), (q1, .inl (dA 8, 61, .inl (fun _ => 0)))] := hD
  refine W.widen (k := 1) (n := 61) (Nat.le_of_ble_eq_true rfl) (Nat.le_of_ble_eq_true rfl) ?_
  refine va_putF (D := (dC, dI)) (ci := 4) (v := .ref q1) (ty := tyX4 1) (C := RX4) (T := TX4) (N := 7) hx hb hts krX4_init_4 tyX4 tyX4_ok nmX4 hown hK hP hD hS 0 rfl rfl 1 (by decide) (hts _ krX4_init_5) (fun _ h9 => h9) rfl hin rfl (by decide +kernel) rfl rfl (Nat.le_of_ble_eq_true rfl) dX4_init_9 (fun H locs hP hD hS => ?_)
  have hP : va_P (dC, dI) vwCl [(h0, .inr (4, [.int 0, .ref q1, .null, .null, .null, .null, .null])), (q1, .inl (dA 8, 61, .inl (fun _ => 0)))] H := hP
  have hD : va_D A [(h0, .inr (4, [.int 0, .ref q1, .null, .null, .null, .null, .null])), (q1, .inl (dA 8, 61, .inl (fun _ => 0)))] := hD
  refine lv_aload_n hx hb dX4_init_12 rfl (lv_at hl 0 rfl) ?_
  refine lv_bipush (v := 61) hx hb dX4_init_13 (by decide) ?_
  refine w_newI hx hb (hts _ krX4_init_3) hK hP hD hS hA (n := 61) (N' := 61) (by decide) rfl (Nat.le_of_ble_eq_true rfl) (Nat.le_of_ble_eq_true rfl) (Nat.le_of_ble_eq_true rfl) dX4_init_15 (fun q2 H hP hD hS => ?_)
  have hP : va_P (dC, dI) vwCl [(h0, .inr (4, [.int 0, .ref q1, .null, .null, .null, .null, .null])), (q1, .inl (dA 8, 61, .inl (fun _ => 0))), (q2, .inl (dA 8, 61, .inl (fun _ => 0)))] H := hP
  have hD : va_D A [(h0, .inr (4, [.int 0, .ref q1, .null, .null, .null, .null, .null])), (q1, .inl (dA 8, 61, .inl (fun _ => 0))), (q2, .inl (dA 8, 61, .inl (fun _ => 0)))] := hD
  refine W.widen (k := 2) (n := 122) (Nat.le_of_ble_eq_true rfl) (Nat.le_of_ble_eq_true rfl) ?_
  refine va_putF (D := (dC, dI)) (ci := 4) (v := .ref q2) (ty := tyX4 2) (C := RX4) (T := TX4) (N := 7) hx hb hts krX4_init_4 tyX4 tyX4_ok nmX4 hown hK hP hD hS 0 rfl rfl 2 (by decide) (hts _ krX4_init_6) (fun _ h9 => h9) rfl hin rfl (by decide +kernel) rfl rfl (Nat.le_of_ble_eq_true rfl) dX4_init_17 (fun H locs hP hD hS => ?_)
  have hP : va_P (dC, dI) vwCl [(h0, .inr (4, [.int 0, .ref q1, .ref q2, .null, .null, .null, .null])), (q1, .inl (dA 8, 61, .inl (fun _ => 0))), (q2, .inl (dA 8, 61, .inl (fun _ => 0)))] H := hP
  have hD : va_D A [(h0, .inr (4, [.int 0, .ref q1, .ref q2, .null, .null, .null, .null])), (q1, .inl (dA 8, 61, .inl (fun _ => 0))), (q2, .inl (dA 8, 61, .inl (fun _ => 0)))] := hD
  refine lv_aload_n hx hb dX4_init_20 rfl (lv_at hl 0 rfl) ?_
  refine lv_bipush (v := 61) hx hb dX4_init_21 (by decide) ?_
  refine w_newI hx hb (hts _ krX4_init_3) hK hP hD hS hA (n := 61) (N' := 61) (by decide) rfl (Nat.le_of_ble_eq_true rfl) (Nat.le_of_ble_eq_true rfl) (Nat.le_of_ble_eq_true rfl) dX4_init_23 (fun q3 H hP hD hS => ?_)
  have hP : va_P (dC, dI) vwCl [(h0, .inr (4, [.int 0, .ref q1, .ref q2, .null, .null, .null, .null])), (q1, .inl (dA 8, 61, .inl (fun _ => 0))), (q2, .inl (dA 8, 61, .inl (fun _ => 0))), (q3, .inl (dA 8, 61, .inl (fun _ => 0)))] H := hP
  have hD : va_D A [(h0, .inr (4, [.int 0, .ref q1, .ref q2, .null, .null, .null, .null])), (q1, .inl (dA 8, 61, .inl (fun _ => 0))), (q2, .inl (dA 8, 61, .inl (fun _ => 0))), (q3, .inl (dA 8, 61, .inl (fun _ => 0)))] := hD
  refine W.widen (k := 3) (n := 183) (Nat.le_of_ble_eq_true rfl) (Nat.le_of_ble_eq_true rfl) ?_
  refine va_putF (D := (dC, dI)) (ci := 4) (v := .ref q3) (ty := tyX4 3) (C := RX4) (T := TX4) (N := 7) hx hb hts krX4_init_4 tyX4 tyX4_ok nmX4 hown hK hP hD hS 0 rfl rfl 3 (by decide) (hts _ krX4_init_7) (fun _ h9 => h9) rfl hin rfl (by decide +kernel) rfl rfl (Nat.le_of_ble_eq_true rfl) dX4_init_25 (fun H locs hP hD hS => ?_)
  have hP : va_P (dC, dI) vwCl [(h0, .inr (4, [.int 0, .ref q1, .ref q2, .ref q3, .null, .null, .null])), (q1, .inl (dA 8, 61, .inl (fun _ => 0))), (q2, .inl (dA 8, 61, .inl (fun _ => 0))), (q3, .inl (dA 8, 61, .inl (fun _ => 0)))] H := hP
  have hD : va_D A [(h0, .inr (4, [.int 0, .ref q1, .ref q2, .ref q3, .null, .null, .null])), (q1, .inl (dA 8, 61, .inl (fun _ => 0))), (q2, .inl (dA 8, 61, .inl (fun _ => 0))), (q3, .inl (dA 8, 61, .inl (fun _ => 0)))] := hD
  refine lv_aload_n hx hb dX4_init_28 rfl (lv_at hl 0 rfl) ?_
  refine lv_bipush (v := 61) hx hb dX4_init_29 (by decide) ?_
  refine w_newI hx hb (hts _ krX4_init_3) hK hP hD hS hA (n := 61) (N' := 61) (by decide) rfl (Nat.le_of_ble_eq_true rfl) (Nat.le_of_ble_eq_true rfl) (Nat.le_of_ble_eq_true rfl) dX4_init_31 (fun q4 H hP hD hS => ?_)
  have hP : va_P (dC, dI) vwCl [(h0, .inr (4, [.int 0, .ref q1, .ref q2, .ref q3, .null, .null, .null])), (q1, .inl (dA 8, 61, .inl (fun _ => 0))), (q2, .inl (dA 8, 61, .inl (fun _ => 0))), (q3, .inl (dA 8, 61, .inl (fun _ => 0))), (q4, .inl (dA 8, 61, .inl (fun _ => 0)))] H := hP
  have hD : va_D A [(h0, .inr (4, [.int 0, .ref q1, .ref q2, .ref q3, .null, .null, .null])), (q1, .inl (dA 8, 61, .inl (fun _ => 0))), (q2, .inl (dA 8, 61, .inl (fun _ => 0))), (q3, .inl (dA 8, 61, .inl (fun _ => 0))), (q4, .inl (dA 8, 61, .inl (fun _ => 0)))] := hD
  refine W.widen (k := 4) (n := 244) (Nat.le_of_ble_eq_true rfl) (Nat.le_of_ble_eq_true rfl) ?_
  refine va_putF (D := (dC, dI)) (ci := 4) (v := .ref q4) (ty := tyX4 4) (C := RX4) (T := TX4) (N := 7) hx hb hts krX4_init_4 tyX4 tyX4_ok nmX4 hown hK hP hD hS 0 rfl rfl 4 (by decide) (hts _ krX4_init_8) (fun _ h9 => h9) rfl hin rfl (by decide +kernel) rfl rfl (Nat.le_of_ble_eq_true rfl) dX4_init_33 (fun H locs hP hD hS => ?_)
  have hP : va_P (dC, dI) vwCl [(h0, .inr (4, [.int 0, .ref q1, .ref q2, .ref q3, .ref q4, .null, .null])), (q1, .inl (dA 8, 61, .inl (fun _ => 0))), (q2, .inl (dA 8, 61, .inl (fun _ => 0))), (q3, .inl (dA 8, 61, .inl (fun _ => 0))), (q4, .inl (dA 8, 61, .inl (fun _ => 0)))] H := hP
  have hD : va_D A [(h0, .inr (4, [.int 0, .ref q1, .ref q2, .ref q3, .ref q4, .null, .null])), (q1, .inl (dA 8, 61, .inl (fun _ => 0))), (q2, .inl (dA 8, 61, .inl (fun _ => 0))), (q3, .inl (dA 8, 61, .inl (fun _ => 0))), (q4, .inl (dA 8, 61, .inl (fun _ => 0)))] := hD
  refine lv_aload_n hx hb dX4_init_36 rfl (lv_at hl 0 rfl) ?_
  refine lv_sipush (v := 610) hx hb dX4_init_37 (by decide) ?_
  refine w_newJ hx hb (hts _ krX4_init_9) hK hP hD hS hA (n := 610) (N' := 610) (by decide) rfl (Nat.le_of_ble_eq_true rfl) (Nat.le_of_ble_eq_true rfl) (Nat.le_of_ble_eq_true rfl) dX4_init_40 (fun q5 H hP hD hS => ?_)
  have hP : va_P (dC, dI) vwCl [(h0, .inr (4, [.int 0, .ref q1, .ref q2, .ref q3, .ref q4, .null, .null])), (q1, .inl (dA 8, 61, .inl (fun _ => 0))), (q2, .inl (dA 8, 61, .inl (fun _ => 0))), (q3, .inl (dA 8, 61, .inl (fun _ => 0))), (q4, .inl (dA 8, 61, .inl (fun _ => 0))), (q5, .inl (dA 9, 610, .inr (.inl (fun _ => 0))))] H := hP
  have hD : va_D A [(h0, .inr (4, [.int 0, .ref q1, .ref q2, .ref q3, .ref q4, .null, .null])), (q1, .inl (dA 8, 61, .inl (fun _ => 0))), (q2, .inl (dA 8, 61, .inl (fun _ => 0))), (q3, .inl (dA 8, 61, .inl (fun _ => 0))), (q4, .inl (dA 8, 61, .inl (fun _ => 0))), (q5, .inl (dA 9, 610, .inr (.inl (fun _ => 0))))] := hD
  refine W.widen (k := 5) (n := 854) (Nat.le_of_ble_eq_true rfl) (Nat.le_of_ble_eq_true rfl) ?_
  refine va_putF (D := (dC, dI)) (ci := 4) (v := .ref q5) (ty := tyX4 5) (C := RX4) (T := TX4) (N := 7) hx hb hts krX4_init_4 tyX4 tyX4_ok nmX4 hown hK hP hD hS 0 rfl rfl 5 (by decide) (hts _ krX4_init_10) (fun _ h9 => h9) rfl hin rfl (by decide +kernel) rfl rfl (Nat.le_of_ble_eq_true rfl) dX4_init_42 (fun H locs hP hD hS => ?_)
  have hP : va_P (dC, dI) vwCl [(h0, .inr (4, [.int 0, .ref q1, .ref q2, .ref q3, .ref q4, .ref q5, .null])), (q1, .inl (dA 8, 61, .inl (fun _ => 0))), (q2, .inl (dA 8, 61, .inl (fun _ => 0))), (q3, .inl (dA 8, 61, .inl (fun _ => 0))), (q4, .inl (dA 8, 61, .inl (fun _ => 0))), (q5, .inl (dA 9, 610, .inr (.inl (fun _ => 0))))] H := hP
  have hD : va_D A [(h0, .inr (4, [.int 0, .ref q1, .ref q2, .ref q3, .ref q4, .ref q5, .null])), (q1, .inl (dA 8, 61, .inl (fun _ => 0))), (q2, .inl (dA 8, 61, .inl (fun _ => 0))), (q3, .inl (dA 8, 61, .inl (fun _ => 0))), (q4, .inl (dA 8, 61, .inl (fun _ => 0))), (q5, .inl (dA 9, 610, .inr (.inl (fun _ => 0))))] := hD
  refine lv_aload_n hx hb dX4_init_45 rfl (lv_at hl 0 rfl) ?_
  refine lv_sipush (v := 610) hx hb dX4_init_46 (by decide) ?_
  refine w_newJ hx hb (hts _ krX4_init_9) hK hP hD hS hA (n := 610) (N' := 610) (by decide) rfl (Nat.le_of_ble_eq_true rfl) (Nat.le_of_ble_eq_true rfl) (Nat.le_of_ble_eq_true rfl) dX4_init_49 (fun q6 H hP hD hS => ?_)
  have hP : va_P (dC, dI) vwCl [(h0, .inr (4, [.int 0, .ref q1, .ref q2, .ref q3, .ref q4, .ref q5, .null])), (q1, .inl (dA 8, 61, .inl (fun _ => 0))), (q2, .inl (dA 8, 61, .inl (fun _ => 0))), (q3, .inl (dA 8, 61, .inl (fun _ => 0))), (q4, .inl (dA 8, 61, .inl (fun _ => 0))), (q5, .inl (dA 9, 610, .inr (.inl (fun _ => 0)))), (q6, .inl (dA 9, 610, .inr (.inl (fun _ => 0))))] H := hP
  have hD : va_D A [(h0, .inr (4, [.int 0, .ref q1, .ref q2, .ref q3, .ref q4, .ref q5, .null])), (q1, .inl (dA 8, 61, .inl (fun _ => 0))), (q2, .inl (dA 8, 61, .inl (fun _ => 0))), (q3, .inl (dA 8, 61, .inl (fun _ => 0))), (q4, .inl (dA 8, 61, .inl (fun _ => 0))), (q5, .inl (dA 9, 610, .inr (.inl (fun _ => 0)))), (q6, .inl (dA 9, 610, .inr (.inl (fun _ => 0))))] := hD
  refine W.widen (k := 6) (n := 1464) (Nat.le_of_ble_eq_true rfl) (Nat.le_of_ble_eq_true rfl) ?_
  refine va_putF (D := (dC, dI)) (ci := 4) (v := .ref q6) (ty := tyX4 6) (C := RX4) (T := TX4) (N := 7) hx hb hts krX4_init_4 tyX4 tyX4_ok nmX4 hown hK hP hD hS 0 rfl rfl 6 (by decide) (hts _ krX4_init_11) (fun _ h9 => h9) rfl hin rfl (by decide +kernel) rfl rfl (Nat.le_of_ble_eq_true rfl) dX4_init_51 (fun H locs hP hD hS => ?_)
  have hP : va_P (dC, dI) vwCl [(h0, .inr (4, [.int 0, .ref q1, .ref q2, .ref q3, .ref q4, .ref q5, .ref q6])), (q1, .inl (dA 8, 61, .inl (fun _ => 0))), (q2, .inl (dA 8, 61, .inl (fun _ => 0))), (q3, .inl (dA 8, 61, .inl (fun _ => 0))), (q4, .inl (dA 8, 61, .inl (fun _ => 0))), (q5, .inl (dA 9, 610, .inr (.inl (fun _ => 0)))), (q6, .inl (dA 9, 610, .inr (.inl (fun _ => 0))))] H := hP
  have hD : va_D A [(h0, .inr (4, [.int 0, .ref q1, .ref q2, .ref q3, .ref q4, .ref q5, .ref q6])), (q1, .inl (dA 8, 61, .inl (fun _ => 0))), (q2, .inl (dA 8, 61, .inl (fun _ => 0))), (q3, .inl (dA 8, 61, .inl (fun _ => 0))), (q4, .inl (dA 8, 61, .inl (fun _ => 0))), (q5, .inl (dA 9, 610, .inr (.inl (fun _ => 0)))), (q6, .inl (dA 9, 610, .inr (.inl (fun _ => 0))))] := hD
  refine lv_aload_n hx hb dX4_init_54 rfl (lv_at hl 0 rfl) ?_
  refine lv_iload_n hx hb dX4_init_55 rfl (lv_at hl 1 rfl) ?_
  refine va_putF (D := (dC, dI)) (ci := 4) (v := .int x1) (ty := tyX4 0) (C := RX4) (T := TX4) (N := 7) hx hb hts krX4_init_4 tyX4 tyX4_ok nmX4 hown hK hP hD hS 0 rfl rfl 0 (by decide) (hts _ krX4_init_12) (fun _ h9 => h9) rfl hin rfl (by decide +kernel) rfl rfl (Nat.le_of_ble_eq_true rfl) dX4_init_56 (fun H locs hP hD hS => ?_)
  have hP : va_P (dC, dI) vwCl [(h0, .inr (4, [.int x1, .ref q1, .ref q2, .ref q3, .ref q4, .ref q5, .ref q6])), (q1, .inl (dA 8, 61, .inl (fun _ => 0))), (q2, .inl (dA 8, 61, .inl (fun _ => 0))), (q3, .inl (dA 8, 61, .inl (fun _ => 0))), (q4, .inl (dA 8, 61, .inl (fun _ => 0))), (q5, .inl (dA 9, 610, .inr (.inl (fun _ => 0)))), (q6, .inl (dA 9, 610, .inr (.inl (fun _ => 0))))] H := hP
  have hD : va_D A [(h0, .inr (4, [.int x1, .ref q1, .ref q2, .ref q3, .ref q4, .ref q5, .ref q6])), (q1, .inl (dA 8, 61, .inl (fun _ => 0))), (q2, .inl (dA 8, 61, .inl (fun _ => 0))), (q3, .inl (dA 8, 61, .inl (fun _ => 0))), (q4, .inl (dA 8, 61, .inl (fun _ => 0))), (q5, .inl (dA 9, 610, .inr (.inl (fun _ => 0)))), (q6, .inl (dA 9, 610, .inr (.inl (fun _ => 0))))] := hD
  refine W.widen (k := 6) (n := 1464) (Nat.le_refl _) (Nat.le_refl _) ?_
  exact W.vret hx hb hr (fun t ht hW => ⟨⟨(), rfl, trivial, q1, q2, q3, q4, q5, q6, by rw [ht]; exact hP, va_K.moved hW.alike hK, hD⟩, hS.F ht⟩) hS.2.2 dX4_init_59
theorem krX5_init_0 : (Cond.methodLink RX5 3 objectInit) ∈ wsX5_init := by decide +kernel
theorem krX5_init_1 : (Cond.instanceMethod objectInit) ∈ wsX5_init := by decide +kernel
theorem krX5_init_2 : (Cond.code objectInit ⟨#[0xb1]⟩ 1 none) ∈ wsX5_init := by decide +kernel
theorem krX5_init_3 : (Cond.arrayClass .int) ∈ wsX5_init := by decide +kernel
theorem krX5_init_4 : ∀ w ∈ u_ws RX5 TX5 4, w ∈ wsX5_init := by decide +kernel
theorem krX5_init_5 : (Cond.fieldLink RX5 9 "Divisionorder$Well" "barrels" "[I") ∈ wsX5_init := by decide +kernel
theorem krX5_init_6 : (Cond.fieldLink RX5 15 "Divisionorder$Well" "prices" "[I") ∈ wsX5_init := by decide +kernel
theorem krX5_init_7 : (Cond.fieldLink RX5 18 "Divisionorder$Well" "costs" "[I") ∈ wsX5_init := by decide +kernel
theorem krX5_init_8 : (Cond.fieldLink RX5 21 "Divisionorder$Well" "unit" "LDivisionorder$Unit;") ∈ wsX5_init := by decide +kernel
set_option maxHeartbeats 4000000 in
set_option maxRecDepth 100000 in
theorem cr_X5_init (l : Launch) (dC : Nat → ClassId) (dI : Nat → Nat → Nat) (dA : Nat → ClassId) (h0 sz : Nat) (x1 : Nat) : Met l yX5_init wsX5_init ({ frames := 1, cells := 3, slots := 183, locals := 20 }) (va_Pc [.ref h0, .ref x1] (fun U => U.heap.size = sz ∧ va_P (dC, dI) vwCl [(h0, .inr (5, [.null, .null, .null, .null]))] U.heap ∧ va_K (dC, dI) vwCl (tysL dA) U ∧ va_D (fun _ => True) [(h0, .inr (5, [.null, .null, .null, .null]))])) (va_Qv (fun _ : Unit => True) (fun _ t => ∃ q1 q2 q3 : Nat, va_P (dC, dI) vwCl [(h0, .inr (5, [.ref x1, .ref q1, .ref q2, .ref q3])), (q1, .inl (dA 8, 61, .inl (fun _ => 0))), (q2, .inl (dA 8, 61, .inl (fun _ => 0))), (q3, .inl (dA 8, 61, .inl (fun _ => 0)))] t.heap ∧ va_K (dC, dI) vwCl (tysL dA) t ∧ va_D (va_A [(h0, .inr (5, [.null, .null, .null, .null]))] sz) [(h0, .inr (5, [.ref x1, .ref q1, .ref q2, .ref q3])), (q1, .inl (dA 8, 61, .inl (fun _ => 0))), (q2, .inl (dA 8, 61, .inl (fun _ => 0))), (q3, .inl (dA 8, 61, .inl (fun _ => 0)))]) (va_A [(h0, .inr (5, [.null, .null, .null, .null]))] sz)) 3 (183) (va_A [(h0, .inr (5, [.null, .null, .null, .null]))] sz) := by
  refine Met.ofW (cc := cX5_init) (maxL := 2) (ret := none) (by decide) rfl ?_
  intro p e s m args below meth c s₁ B hml hv
  obtain ⟨rfl, hsz, hP, hK, hD0⟩ := hv
  have hx := B.exec
  have hb := B.bytes
  have hr := B.returns
  have hlocks := B.notSynchronized
  have hts := atoms_spec (ws := wsX5_init) B.pre
  have hown : s.vm.findClass RX5 = some m.cls := findClass_of_methodNamed B.named
  have hin : meth.name = "<init>" := (name_of_methodNamed B.named B.method).1
  subst hsz
  have hD := hD0.self (sz := s.heap.size)
  generalize hAe : va_A [(h0, .inr (5, [.null, .null, .null, .null]))] s.heap.size = A at hD ⊢
  have hA : ∀ q : Nat, s.heap.size ≤ q → A q := fun q h => by rw [← hAe]; exact Or.inr h
  have hS : va_S A s.heap s.heap [] := va_S.rf
  have hl := lv_entry ([.ref h0, .ref x1]) (n := 2) (Nat.le_of_ble_eq_true rfl)
  rw [lg_entry_eq]
  generalize (lg_sl ([.ref h0, .ref x1]) ++ List.replicate (2 - (lg_sl ([.ref h0, .ref x1])).length) Slot.unset).toArray = ls at hl ⊢
  have hl : lv_has ls 2 [(0, .ref h0), (1, .ref x1)] := hl
  refine lv_aload_n hx hb dX5_init_0 rfl (lv_at hl 0 rfl) ?_
  refine W.objInit hx hb hown (hts _ krX5_init_0) (hts _ krX5_init_1) (hts _ krX5_init_2) rfl (hl.1.trans hml.symm) rfl dX5_init_1 (Nat.le_of_ble_eq_true rfl) (Nat.le_of_ble_eq_true rfl) ?_
  refine W.eq (g2 := F0 m 4 ls []) rfl ?_
  refine lv_aload_n hx hb dX5_init_4 rfl (lv_at hl 0 rfl) ?_
  refine lv_bipush (v := 61) hx hb dX5_init_5 (by decide) ?_
  refine w_newI hx hb (hts _ krX5_init_3) hK hP hD hS hA (n := 61) (N' := 61) (by decide) rfl (Nat.le_of_ble_eq_true rfl) (Nat.le_of_ble_eq_true rfl) (Nat.le_of_ble_eq_true rfl) dX5_init_7 (fun q1 H hP hD hS => ?_)
  have hP : va_P (dC, dI) vwCl [(h0, .inr (5, [.null, .null, .null, .null])), (q1, .inl (dA 8, 61, .inl (fun _ => 0)))] H := hP
  have hD : va_D A [(h0, .inr (5, [.null, .null, .null, .null])), (q1, .inl (dA 8, 61, .inl (fun _ => 0)))] := hD
  refine W.widen (k := 1) (n := 61) (Nat.le_of_ble_eq_true rfl) (Nat.le_of_ble_eq_true rfl) ?_
  refine va_putF (D := (dC, dI)) (ci := 5) (v := .ref q1) (ty := tyX5 1) (C := RX5) (T := TX5) (N := 4) hx hb hts krX5_init_4 tyX5 tyX5_ok nmX5 hown hK hP hD hS 0 rfl rfl 1 (by decide) (hts _ krX5_init_5) (fun _ h9 => h9) rfl hin rfl (by decide +kernel) rfl rfl (Nat.le_of_ble_eq_true rfl) dX5_init_9 (fun H locs hP hD hS => ?_)
  have hP : va_P (dC, dI) vwCl [(h0, .inr (5, [.null, .ref q1, .null, .null])), (q1, .inl (dA 8, 61, .inl (fun _ => 0)))] H := hP
  have hD : va_D A [(h0, .inr (5, [.null, .ref q1, .null, .null])), (q1, .inl (dA 8, 61, .inl (fun _ => 0)))] := hD
  refine lv_aload_n hx hb dX5_init_12 rfl (lv_at hl 0 rfl) ?_
  refine lv_bipush (v := 61) hx hb dX5_init_13 (by decide) ?_
  refine w_newI hx hb (hts _ krX5_init_3) hK hP hD hS hA (n := 61) (N' := 61) (by decide) rfl (Nat.le_of_ble_eq_true rfl) (Nat.le_of_ble_eq_true rfl) (Nat.le_of_ble_eq_true rfl) dX5_init_15 (fun q2 H hP hD hS => ?_)
  have hP : va_P (dC, dI) vwCl [(h0, .inr (5, [.null, .ref q1, .null, .null])), (q1, .inl (dA 8, 61, .inl (fun _ => 0))), (q2, .inl (dA 8, 61, .inl (fun _ => 0)))] H := hP
  have hD : va_D A [(h0, .inr (5, [.null, .ref q1, .null, .null])), (q1, .inl (dA 8, 61, .inl (fun _ => 0))), (q2, .inl (dA 8, 61, .inl (fun _ => 0)))] := hD
  refine W.widen (k := 2) (n := 122) (Nat.le_of_ble_eq_true rfl) (Nat.le_of_ble_eq_true rfl) ?_
  refine va_putF (D := (dC, dI)) (ci := 5) (v := .ref q2) (ty := tyX5 2) (C := RX5) (T := TX5) (N := 4) hx hb hts krX5_init_4 tyX5 tyX5_ok nmX5 hown hK hP hD hS 0 rfl rfl 2 (by decide) (hts _ krX5_init_6) (fun _ h9 => h9) rfl hin rfl (by decide +kernel) rfl rfl (Nat.le_of_ble_eq_true rfl) dX5_init_17 (fun H locs hP hD hS => ?_)
  have hP : va_P (dC, dI) vwCl [(h0, .inr (5, [.null, .ref q1, .ref q2, .null])), (q1, .inl (dA 8, 61, .inl (fun _ => 0))), (q2, .inl (dA 8, 61, .inl (fun _ => 0)))] H := hP
  have hD : va_D A [(h0, .inr (5, [.null, .ref q1, .ref q2, .null])), (q1, .inl (dA 8, 61, .inl (fun _ => 0))), (q2, .inl (dA 8, 61, .inl (fun _ => 0)))] := hD
  refine lv_aload_n hx hb dX5_init_20 rfl (lv_at hl 0 rfl) ?_
  refine lv_bipush (v := 61) hx hb dX5_init_21 (by decide) ?_
  refine w_newI hx hb (hts _ krX5_init_3) hK hP hD hS hA (n := 61) (N' := 61) (by decide) rfl (Nat.le_of_ble_eq_true rfl) (Nat.le_of_ble_eq_true rfl) (Nat.le_of_ble_eq_true rfl) dX5_init_23 (fun q3 H hP hD hS => ?_)
  have hP : va_P (dC, dI) vwCl [(h0, .inr (5, [.null, .ref q1, .ref q2, .null])), (q1, .inl (dA 8, 61, .inl (fun _ => 0))), (q2, .inl (dA 8, 61, .inl (fun _ => 0))), (q3, .inl (dA 8, 61, .inl (fun _ => 0)))] H := hP
  have hD : va_D A [(h0, .inr (5, [.null, .ref q1, .ref q2, .null])), (q1, .inl (dA 8, 61, .inl (fun _ => 0))), (q2, .inl (dA 8, 61, .inl (fun _ => 0))), (q3, .inl (dA 8, 61, .inl (fun _ => 0)))] := hD
  refine W.widen (k := 3) (n := 183) (Nat.le_of_ble_eq_true rfl) (Nat.le_of_ble_eq_true rfl) ?_
  refine va_putF (D := (dC, dI)) (ci := 5) (v := .ref q3) (ty := tyX5 3) (C := RX5) (T := TX5) (N := 4) hx hb hts krX5_init_4 tyX5 tyX5_ok nmX5 hown hK hP hD hS 0 rfl rfl 3 (by decide) (hts _ krX5_init_7) (fun _ h9 => h9) rfl hin rfl (by decide +kernel) rfl rfl (Nat.le_of_ble_eq_true rfl) dX5_init_25 (fun H locs hP hD hS => ?_)
  have hP : va_P (dC, dI) vwCl [(h0, .inr (5, [.null, .ref q1, .ref q2, .ref q3])), (q1, .inl (dA 8, 61, .inl (fun _ => 0))), (q2, .inl (dA 8, 61, .inl (fun _ => 0))), (q3, .inl (dA 8, 61, .inl (fun _ => 0)))] H := hP
  have hD : va_D A [(h0, .inr (5, [.null, .ref q1, .ref q2, .ref q3])), (q1, .inl (dA 8, 61, .inl (fun _ => 0))), (q2, .inl (dA 8, 61, .inl (fun _ => 0))), (q3, .inl (dA 8, 61, .inl (fun _ => 0)))] := hD
  refine lv_aload_n hx hb dX5_init_28 rfl (lv_at hl 0 rfl) ?_
  refine lv_aload_n hx hb dX5_init_29 rfl (lv_at hl 1 rfl) ?_
  refine va_putF (D := (dC, dI)) (ci := 5) (v := .ref x1) (ty := tyX5 0) (C := RX5) (T := TX5) (N := 4) hx hb hts krX5_init_4 tyX5 tyX5_ok nmX5 hown hK hP hD hS 0 rfl rfl 0 (by decide) (hts _ krX5_init_8) (fun _ h9 => h9) rfl hin rfl (by decide +kernel) rfl rfl (Nat.le_of_ble_eq_true rfl) dX5_init_30 (fun H locs hP hD hS => ?_)
  have hP : va_P (dC, dI) vwCl [(h0, .inr (5, [.ref x1, .ref q1, .ref q2, .ref q3])), (q1, .inl (dA 8, 61, .inl (fun _ => 0))), (q2, .inl (dA 8, 61, .inl (fun _ => 0))), (q3, .inl (dA 8, 61, .inl (fun _ => 0)))] H := hP
  have hD : va_D A [(h0, .inr (5, [.ref x1, .ref q1, .ref q2, .ref q3])), (q1, .inl (dA 8, 61, .inl (fun _ => 0))), (q2, .inl (dA 8, 61, .inl (fun _ => 0))), (q3, .inl (dA 8, 61, .inl (fun _ => 0)))] := hD
  refine W.widen (k := 3) (n := 183) (Nat.le_refl _) (Nat.le_refl _) ?_
  exact W.vret hx hb hr (fun t ht hW => ⟨⟨(), rfl, trivial, q1, q2, q3, by rw [ht]; exact hP, va_K.moved hW.alike hK, hD⟩, hS.F ht⟩) hS.2.2 dX5_init_33
