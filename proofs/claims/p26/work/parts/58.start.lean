/-! THE START: the words at the entry, both objects made, then the loop -/
theorem st_arrP {s : State} {a : Array Value} {ty : FieldType} (hty : va_RA s = fun c t => va_RA s c t) (h : (Cond.arrayClass ty).before a s = true) (hn : ∀ cA, s.vm.findClass ("[" ++ ty.toString) = some cA → va_RA s cA ty) : ∃ cA, ArrOfT s cA ty ∧ va_RA s cA ty := by
  obtain ⟨c, k, comp, h1, h2, h3⟩ := Cond.arrayClass_spec h
  exact ⟨c, fun n z => ⟨(fun k h => by cases h), k, h2, comp, h3⟩, hn c h1⟩
theorem st_arrO {s : State} {a : Array Value} {C : String} (h : (Cond.arrayOver (.object C)).before a s = true) : ∃ cA, ArrOfT s cA (.object C) ∧ va_RA s cA (.object C) := by
  obtain ⟨comp, c, k, h1, h2, h3, h4, h5⟩ := Cond.arrayOver_spec h
  exact ⟨c, fun n z => ⟨(fun k h => by cases h), k, h3, comp, h4⟩, k, comp, h3, h4, h1, h5⟩
theorem st_ao {s : State} {a : Array Value} {C : String} (h : (Cond.arrayOver (.object C)).before a s = true) : va_AO C s := va_AO.of h
set_option maxRecDepth 100000 in
theorem st_K {s : State} {a : Array Value} (hts : ∀ w ∈ lw_tbl, w.before a s = true) : ∃ (dC : Nat → ClassId) (dI : Nat → Nat → Nat) (dA : Nat → ClassId), va_K (dC, dI) vwCl (tysL dA) s := by
  obtain ⟨c0, i0, k0⟩ := u_known (C := RX0) (T := TX0) (N := 5) (n := 5) hts inX0 (hts _ (mt_2 _ (List.mem_of_getElem? (i := 137) rfl)))
  obtain ⟨c1, i1, k1⟩ := u_known (C := RX1) (T := TX1) (N := 6) (n := 6) hts inX1 (hts _ (mt_2 _ (List.mem_of_getElem? (i := 184) rfl)))
  obtain ⟨c2, i2, k2⟩ := u_known (C := RX2) (T := TX2) (N := 3) (n := 3) hts inX2 (hts _ (mt_1 _ (List.mem_of_getElem? (i := 34) rfl)))
  obtain ⟨c3, i3, k3⟩ := u_known (C := RX3) (T := TX3) (N := 3) (n := 3) hts inX3 (hts _ (mt_2 _ (List.mem_of_getElem? (i := 89) rfl)))
  obtain ⟨c4, i4, k4⟩ := u_known (C := RX4) (T := TX4) (N := 7) (n := 7) hts inX4 (hts _ (mt_2 _ (List.mem_of_getElem? (i := 227) rfl)))
  obtain ⟨c5, i5, k5⟩ := u_known (C := RX5) (T := TX5) (N := 4) (n := 4) hts inX5 (hts _ (mt_3 _ (List.mem_of_getElem? (i := 36) rfl)))
  obtain ⟨c6, i6, k6⟩ := u_known (C := RX6) (T := TX6) (N := 20) (n := 20) hts inX6 (hts _ (mt_1 _ (List.mem_of_getElem? (i := 16) rfl)))
  obtain ⟨a8, p8⟩ := st_arrP (ty := .int) rfl (hts _ (mt_1 _ (List.mem_of_getElem? (i := 51) rfl))) (fun _ h => h)
  obtain ⟨a9, p9⟩ := st_arrP (ty := .long) rfl (hts _ (mt_1 _ (List.mem_of_getElem? (i := 52) rfl))) (fun _ h => h)
  obtain ⟨a10, p10⟩ := st_arrP (ty := .byte) rfl (hts _ (mt_2 _ (List.mem_of_getElem? (i := 43) rfl))) (fun _ h => h)
  obtain ⟨a11, p11⟩ := st_arrO (hts _ (mt_1 _ (List.mem_of_getElem? (i := 26) rfl)))
  obtain ⟨a12, p12⟩ := st_arrO (hts _ (mt_1 _ (List.mem_of_getElem? (i := 28) rfl)))
  obtain ⟨a13, p13⟩ := st_arrO (hts _ (mt_1 _ (List.mem_of_getElem? (i := 24) rfl)))
  obtain ⟨a14, p14⟩ := st_arrO (hts _ (mt_1 _ (List.mem_of_getElem? (i := 30) rfl)))
  obtain ⟨a15, p15⟩ := st_arrO (hts _ (mt_1 _ (List.mem_of_getElem? (i := 32) rfl)))
  refine ⟨fun k => if k = 0 then c0 else if k = 1 then c1 else if k = 2 then c2 else if k = 3 then c3 else if k = 4 then c4 else if k = 5 then c5 else c6, fun k => if k = 0 then i0 else if k = 1 then i1 else if k = 2 then i2 else if k = 3 then i3 else if k = 4 then i4 else if k = 5 then i5 else i6, fun k => if k = 8 then a8 else if k = 9 then a9 else if k = 10 then a10 else if k = 11 then a11 else if k = 12 then a12 else if k = 13 then a13 else if k = 14 then a14 else a15, ?_, ?_⟩
  · intro c q hq
    match c, hq with
    | 0, hq => cases hq; exact k0
    | 1, hq => cases hq; exact k1
    | 2, hq => cases hq; exact k2
    | 3, hq => cases hq; exact k3
    | 4, hq => cases hq; exact k4
    | 5, hq => cases hq; exact k5
    | 6, hq => cases hq; exact k6
    | c + 7, hq => simp [vwCl] at hq
  · intro c q hq
    match c, hq with
    | 0, hq => cases hq; exact p8
    | 1, hq => cases hq; exact p9
    | 2, hq => cases hq; exact p10
    | 3, hq => cases hq; exact p11
    | 4, hq => cases hq; exact p12
    | 5, hq => cases hq; exact p13
    | 6, hq => cases hq; exact p14
    | 7, hq => cases hq; exact p15
    | c + 8, hq => simp [tysL] at hq
theorem st_ds : ∀ x ∈ xDs, Cond.declares x ∈ lw_tbl := List.forall_mem_cons.mpr ⟨(mt_1 _ (List.mem_of_getElem? (i := 220) rfl)), List.forall_mem_cons.mpr ⟨(mt_1 _ (List.mem_of_getElem? (i := 222) rfl)), List.forall_mem_cons.mpr ⟨(mt_1 _ (List.mem_of_getElem? (i := 224) rfl)), fun _ h => absurd h List.not_mem_nil⟩⟩⟩
theorem st_cs : ∀ q ∈ xCs, Cond.castable q.1 q.2 ∈ lw_tbl := List.forall_mem_cons.mpr ⟨(mt_2 _ (List.mem_of_getElem? (i := 73) rfl)), List.forall_mem_cons.mpr ⟨(mt_1 _ (List.mem_of_getElem? (i := 218) rfl)), List.forall_mem_cons.mpr ⟨(mt_2 _ (List.mem_of_getElem? (i := 46) rfl)), fun _ h => absurd h List.not_mem_nil⟩⟩⟩
set_option maxRecDepth 100000 in
theorem st_ss : ∀ q ∈ xSs, Cond.stringRef RX6 q.1 q.2 ∈ lw_tbl := List.forall_mem_cons.mpr ⟨(mt_2 _ (List.mem_of_getElem? (i := 17) rfl)), List.forall_mem_cons.mpr ⟨(mt_2 _ (List.mem_of_getElem? (i := 53) rfl)), List.forall_mem_cons.mpr ⟨(mt_2 _ (List.mem_of_getElem? (i := 80) rfl)), List.forall_mem_cons.mpr ⟨(mt_2 _ (List.mem_of_getElem? (i := 87) rfl)), List.forall_mem_cons.mpr ⟨(mt_2 _ (List.mem_of_getElem? (i := 88) rfl)), List.forall_mem_cons.mpr ⟨(mt_2 _ (List.mem_of_getElem? (i := 123) rfl)), List.forall_mem_cons.mpr ⟨(mt_2 _ (List.mem_of_getElem? (i := 124) rfl)), List.forall_mem_cons.mpr ⟨(mt_2 _ (List.mem_of_getElem? (i := 136) rfl)), List.forall_mem_cons.mpr ⟨(mt_2 _ (List.mem_of_getElem? (i := 181) rfl)), List.forall_mem_cons.mpr ⟨(mt_2 _ (List.mem_of_getElem? (i := 182) rfl)), List.forall_mem_cons.mpr ⟨(mt_2 _ (List.mem_of_getElem? (i := 183) rfl)), List.forall_mem_cons.mpr ⟨(mt_2 _ (List.mem_of_getElem? (i := 221) rfl)), List.forall_mem_cons.mpr ⟨(mt_2 _ (List.mem_of_getElem? (i := 226) rfl)), List.forall_mem_cons.mpr ⟨(mt_3 _ (List.mem_of_getElem? (i := 34) rfl)), List.forall_mem_cons.mpr ⟨(mt_3 _ (List.mem_of_getElem? (i := 35) rfl)), List.forall_mem_cons.mpr ⟨(mt_3 _ (List.mem_of_getElem? (i := 68) rfl)), List.forall_mem_cons.mpr ⟨(mt_3 _ (List.mem_of_getElem? (i := 69) rfl)), List.forall_mem_cons.mpr ⟨(mt_3 _ (List.mem_of_getElem? (i := 70) rfl)), List.forall_mem_cons.mpr ⟨(mt_3 _ (List.mem_of_getElem? (i := 83) rfl)), List.forall_mem_cons.mpr ⟨(mt_3 _ (List.mem_of_getElem? (i := 85) rfl)), List.forall_mem_cons.mpr ⟨(mt_3 _ (List.mem_of_getElem? (i := 93) rfl)), List.forall_mem_cons.mpr ⟨(mt_3 _ (List.mem_of_getElem? (i := 94) rfl)), List.forall_mem_cons.mpr ⟨(mt_3 _ (List.mem_of_getElem? (i := 102) rfl)), List.forall_mem_cons.mpr ⟨(mt_3 _ (List.mem_of_getElem? (i := 129) rfl)), List.forall_mem_cons.mpr ⟨(mt_3 _ (List.mem_of_getElem? (i := 121) rfl)), fun _ h => absurd h List.not_mem_nil⟩⟩⟩⟩⟩⟩⟩⟩⟩⟩⟩⟩⟩⟩⟩⟩⟩⟩⟩⟩⟩⟩⟩⟩⟩
theorem st_ns : ∀ q ∈ xNs, Cond.not (.castable q.1 q.2) ∈ flatC (Jvm.Cond.and given_1 narrow_1) := by decide +kernel
theorem st_r1 : Cond.isRef (.static Bundle.tN "UNASSIGNED_STACK" Bundle.steD) ∈ flatC (Jvm.Cond.and given_1 narrow_1) := by decide +kernel
theorem st_r2 : Cond.isRef (.static Bundle.tN "SUPPRESSED_SENTINEL" Bundle.listD) ∈ flatC (Jvm.Cond.and given_1 narrow_1) := by decide +kernel
theorem st_X {s : State} {a : Array Value} (hts : ∀ w ∈ lw_tbl, w.before a s = true) (hgv : (Jvm.Cond.and given_1 narrow_1).before a s = true) {cC : ClassId} {iS : Nat → Nat} (hKn : u_Kn s RX6 TX6 20 cC iS) : xX (fun q => s.heap.size ≤ q) s := by
  have hfl := flat_of_before _ hgv
  have hA : ∀ q : Nat, q < s.heap.size → ¬ (fun q => s.heap.size ≤ q) q := fun q h1 h2 => absurd h1 (Nat.not_lt.mpr h2)
  have hcur := hKn.2.1
  refine ⟨vx_Zqof (hts _ (mt_2 _ (List.mem_of_getElem? (i := 3) rfl))) (hts _ (mt_1 _ (List.mem_of_getElem? (i := 3) rfl))) (hfl _ st_r1) hA, vx_Zqof (hts _ (mt_2 _ (List.mem_of_getElem? (i := 5) rfl))) (hts _ (mt_1 _ (List.mem_of_getElem? (i := 3) rfl))) (hfl _ st_r2) hA, fun x hx => va_Nw.of rfl (hts _ (st_ds x hx)), fun q hq => va_Nw.of rfl (hts _ (st_cs q hq)), fun q hq => va_Nc.of (hfl _ (st_ns q hq)), fun q hq => ?_⟩
  have h := hts _ (st_ss q hq)
  obtain ⟨k, cf, i, sa, h1, h2, h3, h4, h5, h6⟩ := Cond.stringRef_spec hcur h
  exact ⟨sa, vk_R.of h h6⟩
theorem st_f6 : ∀ j, j < 20 → defaultValue (tyX6 j) = vp_V [.int 0, .null, .int 0, .null, .int 0, .null, .int 0, .null, .int 0, .null, .int 0, .null, .int 0, .int 0, .int 0, .null, .int 0, .null, .null, .null] j := by
  intro j hj
  have h : ∀ j : Fin 20, defaultValue (tyX6 j.1) = vp_V [.int 0, .null, .int 0, .null, .int 0, .null, .int 0, .null, .int 0, .null, .int 0, .null, .int 0, .int 0, .int 0, .null, .int 0, .null, .null, .null] j.1 := by decide
  exact h ⟨j, hj⟩
def st_pure : Prop := wp_X6_init m0_X6_init (fun σ' => law_body (σ', [], 0))
set_option maxHeartbeats 8000000 in
set_option maxRecDepth 100000 in
theorem start_of {p : Program} {e : Env} {s : State} {m : MethodId} {below : List Frame} {meth : Method} {c : Code} (l : Launch) (hlf : l.stackTraces = false) {b L : Nat} {xs : Nat → Int32} (hL : L ≤ 260) (C0 : lw_At p s m meth c b L xs) (hp : st_pure) : W p l e room_1 s m #[Value.ref b] below meth c s.heap [] 0 0 (lw_Z below #[Value.ref b] s) (entryFrame m ([Value.ref b] : List Value).toArray 21) := by
  obtain ⟨hx, hb, hr, hml, hown, hts, hX, hbl, hlocks, hgv⟩ := id C0
  have hA : ∀ q : Nat, s.heap.size ≤ q → (fun q : Nat => s.heap.size ≤ q) q := fun _ h => h
  have hbA : ¬ (fun q : Nat => s.heap.size ≤ q) b := Nat.not_le.mpr hbl
  obtain ⟨dC, dI, dA, hK⟩ := st_K hts
  have hxX := st_X hts hgv (hK.1 6 _ rfl)
  have htsL : ∀ w ∈ wsL_law, w.before #[Value.ref b] s = true := fun w h => hts w (wsL_law_in w h)
  have hC : mC p s m #[Value.ref b] c code RL 21 wsL_law dC dI dA (fun q : Nat => s.heap.size ≤ q) := ⟨hx, hb, hml, hown, htsL, hK, hA⟩
  have hS : va_S (fun q : Nat => s.heap.size ≤ q) s.heap s.heap [] := va_S.rf
  have hP : va_P (dC, dI) vwCl [] s.heap := fun k q h => by simp at h
  have hD : va_D (fun q : Nat => s.heap.size ≤ q) [] := ⟨fun i j p q h => by simp at h, fun k q h => by simp at h⟩
  have hl := lv_entry ([.ref b]) (n := 21) (Nat.le_of_ble_eq_true rfl)
  rw [lg_entry_eq]
  generalize (lg_sl ([.ref b]) ++ List.replicate (21 - (lg_sl ([.ref b])).length) Slot.unset).toArray = ls at hl ⊢
  have hl : lv_has ls 21 [(0, .ref b)] := hl
  refine va_new (ci := 6) (fs := [.int 0, .null, .int 0, .null, .int 0, .null, .int 0, .null, .int 0, .null, .int 0, .null, .int 0, .int 0, .int 0, .null, .int 0, .null, .null, .null]) (C := RX6) (T := TX6) (N := 20) hx hb hts inX6 tyX6 tyX6_ok hown (hts _ (mt_1 _ (List.mem_of_getElem? (i := 15) rfl))) (hts _ (mt_1 _ (List.mem_of_getElem? (i := 16) rfl))) (hts _ (mt_1 _ (List.mem_of_getElem? (i := 1) rfl))) hK hP hD hS hA rfl st_f6 (Nat.le_of_ble_eq_true rfl) (Nat.le_of_ble_eq_true rfl) dL_law_0 (fun xa H hP hD hS => ?_)
  have hP : va_P (dC, dI) vwCl [(xa, .inr (6, [.int 0, .null, .int 0, .null, .int 0, .null, .int 0, .null, .int 0, .null, .int 0, .null, .int 0, .int 0, .int 0, .null, .int 0, .null, .null, .null]))] H := hP
  have hD : va_D (fun q : Nat => s.heap.size ≤ q) [(xa, .inr (6, [.int 0, .null, .int 0, .null, .int 0, .null, .int 0, .null, .int 0, .null, .int 0, .null, .int 0, .int 0, .int 0, .null, .int 0, .null, .null, .null]))] := hD
  refine lv_dup hx hb dL_law_3 rfl ?_
  have hfr := va_free (wc := [(xa, .inr (6, [.int 0, .null, .int 0, .null, .int 0, .null, .int 0, .null, .int 0, .null, .int 0, .null, .int 0, .int 0, .int 0, .null, .int 0, .null, .null, .null]))]) hD hS hA [0] rfl
  refine va_callv (va_runI (As := []) (rest := [.ref xa]) ⟨hx, hb, hml, hown, htsL⟩ (cr_X6_init l dC dI dA xa H.size _ hp) (cwI 0 htsL gL_law_X6_init rfl rfl rfl (hts _ (mt_1 _ (List.mem_of_getElem? (i := 1) rfl))) (hts _ (mt_1 _ (List.mem_of_getElem? (i := 17) rfl))) (hts _ (mt_1 _ (List.mem_of_getElem? (i := 18) rfl))) rfl (by decide +kernel) ⟨Nat.le_of_ble_eq_true rfl, Nat.le_of_ble_eq_true rfl⟩) ⟨fun a U g mk q => ⟨q.1, q.2.1, q.2.2.1, va_K.moved (u := U) (U := U.calling g mk a) (Vm.Alike.refl U.vm) q.2.2.2.1, q.2.2.2.2.1, va_AO.moved (u := U) (U := U.calling g mk a) (Vm.Alike.refl U.vm) q.2.2.2.2.2.1, va_AO.moved (u := U) (U := U.calling g mk a) (Vm.Alike.refl U.vm) q.2.2.2.2.2.2.1, va_AO.moved (u := U) (U := U.calling g mk a) (Vm.Alike.refl U.vm) q.2.2.2.2.2.2.2.1, va_AO.moved (u := U) (U := U.calling g mk a) (Vm.Alike.refl U.vm) q.2.2.2.2.2.2.2.2.1, va_AO.moved (u := U) (U := U.calling g mk a) (Vm.Alike.refl U.vm) q.2.2.2.2.2.2.2.2.2⟩, fun U hU hW => ⟨rfl, by rw [hU], by rw [hU]; exact hP, va_K.moved hW.alike hK, hD.weaken (fun _ _ _ _ => trivial), va_AO.moved hW.alike (st_ao (hts _ (mt_1 _ (List.mem_of_getElem? (i := 26) rfl)))), va_AO.moved hW.alike (st_ao (hts _ (mt_1 _ (List.mem_of_getElem? (i := 28) rfl)))), va_AO.moved hW.alike (st_ao (hts _ (mt_1 _ (List.mem_of_getElem? (i := 24) rfl)))), va_AO.moved hW.alike (st_ao (hts _ (mt_1 _ (List.mem_of_getElem? (i := 30) rfl)))), va_AO.moved hW.alike (st_ao (hts _ (mt_1 _ (List.mem_of_getElem? (i := 32) rfl))))⟩⟩ rfl rfl hl.1 rfl (lv_room (Nat.le_of_ble_eq_true rfl)) dL_law_4 ⟨Nat.le_of_ble_eq_true rfl, Nat.le_of_ble_eq_true rfl⟩) hS (fun q _ h => hfr q h) hfr (fun u t H1 locs1 ht hvm hw hB hz1 hk1 hS1 => ?_)
  obtain ⟨β, hβ, hP1, -, hD1⟩ := hB
  rw [ht] at hP1
  have hD1 := hD1.weaken (B := fun q : Nat => s.heap.size ≤ q) (fun _ _ _ h => hfr _ h)
  clear hk1 hz1 hvm ht hP hD
  rw [show Fe = Fc ++ [] from rfl] at hP1 hD1
  refine lv_astore_n (lv' := [(1, .ref xa), (0, .ref b)]) hx hb dL_law_7 rfl hl (by decide) rfl (fun ls1 hl1 => ?_)
  have hgl := law_goes (meth := meth) (below := below) (e := e) (xa := xa) hlf hC hxX hX hbl hbA hr hlocks (fun q h => h) rfl (by omega) (u, [], 0) hw
  exact W.widen (k := 64) (n := 8000) (Nat.le_of_ble_eq_true rfl) (Nat.le_of_ble_eq_true rfl) (hgl H1 _ ls1 ⟨β, hβ, hP1, hD1, hS1⟩ hl1)
