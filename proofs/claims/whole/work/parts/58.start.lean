/-! THE START: the words at the entry, both objects made, then the loop -/
theorem st_arrP {s : State} {a : Array Value} {ty : FieldType} (hty : va_RA s = fun c t => va_RA s c t) (h : (Cond.arrayClass ty).before a s = true) (hn : ∀ cA, s.vm.findClass ("[" ++ ty.toString) = some cA → va_RA s cA ty) : ∃ cA, ArrOfT s cA ty ∧ va_RA s cA ty := by
  obtain ⟨c, k, comp, h1, h2, h3⟩ := Cond.arrayClass_spec h
  exact ⟨c, fun n z => ⟨(fun k h => by cases h), k, h2, comp, h3⟩, hn c h1⟩
theorem st_arrO {s : State} {a : Array Value} {C : String} (h : (Cond.arrayOver (.object C)).before a s = true) : ∃ cA, ArrOfT s cA (.object C) ∧ va_RA s cA (.object C) := by
  obtain ⟨comp, c, k, h1, h2, h3, h4, h5⟩ := Cond.arrayOver_spec h
  exact ⟨c, fun n z => ⟨(fun k h => by cases h), k, h3, comp, h4⟩, k, comp, h3, h4, h1, h5⟩
theorem st_ao {s : State} {a : Array Value} {C : String} (h : (Cond.arrayOver (.object C)).before a s = true) : va_AO C s := va_AO.of h
set_option maxRecDepth 100000 in
theorem st_K {s : State} {a : Array Value} (hts : ∀ w ∈ lw_tbl, w.before a s = true) : ∃ (dC : Nat → ClassId) (dI : Nat → Nat → Nat) (dA : Nat → ClassId), va_K (dC, dI) vwCl (tysL dA) s := by
  obtain ⟨c0, i0, k0⟩ := u_known (C := RX0) (T := TX0) (N := 5) (n := 5) hts inX0 (hts _ (mt_2 _ (List.mem_of_getElem? (i := 133) rfl)))
  obtain ⟨c1, i1, k1⟩ := u_known (C := RX1) (T := TX1) (N := 6) (n := 6) hts inX1 (hts _ (mt_2 _ (List.mem_of_getElem? (i := 180) rfl)))
  obtain ⟨c2, i2, k2⟩ := u_known (C := RX2) (T := TX2) (N := 3) (n := 3) hts inX2 (hts _ (mt_1 _ (List.mem_of_getElem? (i := 35) rfl)))
  obtain ⟨c3, i3, k3⟩ := u_known (C := RX3) (T := TX3) (N := 3) (n := 3) hts inX3 (hts _ (mt_2 _ (List.mem_of_getElem? (i := 85) rfl)))
  obtain ⟨c4, i4, k4⟩ := u_known (C := RX4) (T := TX4) (N := 7) (n := 7) hts inX4 (hts _ (mt_2 _ (List.mem_of_getElem? (i := 231) rfl)))
  obtain ⟨c5, i5, k5⟩ := u_known (C := RX5) (T := TX5) (N := 4) (n := 4) hts inX5 (hts _ (mt_3 _ (List.mem_of_getElem? (i := 40) rfl)))
  obtain ⟨c6, i6, k6⟩ := u_known (C := RX6) (T := TX6) (N := 20) (n := 20) hts inX6 (hts _ (mt_1 _ (List.mem_of_getElem? (i := 17) rfl)))
  obtain ⟨c7, i7, k7⟩ := u_known (C := RX7) (T := TX7) (N := 40) (n := 40) hts inX7 (hts _ (mt_3 _ (List.mem_of_getElem? (i := 186) rfl)))
  obtain ⟨a8, p8⟩ := st_arrP (ty := .int) rfl (hts _ (mt_1 _ (List.mem_of_getElem? (i := 52) rfl))) (fun _ h => h)
  obtain ⟨a9, p9⟩ := st_arrP (ty := .long) rfl (hts _ (mt_1 _ (List.mem_of_getElem? (i := 53) rfl))) (fun _ h => h)
  obtain ⟨a10, p10⟩ := st_arrP (ty := .boolean) rfl (hts _ (mt_4 _ (List.mem_of_getElem? (i := 72) rfl))) (fun _ h => h)
  obtain ⟨a11, p11⟩ := st_arrO (hts _ (mt_1 _ (List.mem_of_getElem? (i := 27) rfl)))
  obtain ⟨a12, p12⟩ := st_arrO (hts _ (mt_1 _ (List.mem_of_getElem? (i := 29) rfl)))
  obtain ⟨a13, p13⟩ := st_arrO (hts _ (mt_1 _ (List.mem_of_getElem? (i := 25) rfl)))
  obtain ⟨a14, p14⟩ := st_arrO (hts _ (mt_1 _ (List.mem_of_getElem? (i := 31) rfl)))
  obtain ⟨a15, p15⟩ := st_arrO (hts _ (mt_1 _ (List.mem_of_getElem? (i := 33) rfl)))
  refine ⟨fun k => if k = 0 then c0 else if k = 1 then c1 else if k = 2 then c2 else if k = 3 then c3 else if k = 4 then c4 else if k = 5 then c5 else if k = 6 then c6 else c7, fun k => if k = 0 then i0 else if k = 1 then i1 else if k = 2 then i2 else if k = 3 then i3 else if k = 4 then i4 else if k = 5 then i5 else if k = 6 then i6 else i7, fun k => if k = 8 then a8 else if k = 9 then a9 else if k = 10 then a10 else if k = 11 then a11 else if k = 12 then a12 else if k = 13 then a13 else if k = 14 then a14 else a15, ?_, ?_⟩
  · intro c q hq
    match c, hq with
    | 0, hq => cases hq; exact k0
    | 1, hq => cases hq; exact k1
    | 2, hq => cases hq; exact k2
    | 3, hq => cases hq; exact k3
    | 4, hq => cases hq; exact k4
    | 5, hq => cases hq; exact k5
    | 6, hq => cases hq; exact k6
    | 7, hq => cases hq; exact k7
    | c + 8, hq => simp [vwCl] at hq
  · intro c q hq
    match c, hq with
    | 0, hq => cases hq; exact p8
    | 1, hq => cases hq; exact p9
    | 2, hq => cases hq; exact p10
    | 3, hq => cases hq; exact p11
    | 4, hq => cases hq; exact p12
    | 5, hq => cases hq; exact p13
    | 6, hq => cases hq; exact p14
    | 7, hq => cases hq; exact p15
    | c + 8, hq => simp [tysL] at hq
theorem st_ds : ∀ x ∈ xDs, Cond.declares x ∈ lw_tbl := List.forall_mem_cons.mpr ⟨(mt_1 _ (List.mem_of_getElem? (i := 216) rfl)), List.forall_mem_cons.mpr ⟨(mt_1 _ (List.mem_of_getElem? (i := 218) rfl)), List.forall_mem_cons.mpr ⟨(mt_1 _ (List.mem_of_getElem? (i := 220) rfl)), fun _ h => absurd h List.not_mem_nil⟩⟩⟩
theorem st_cs : ∀ q ∈ xCs, Cond.castable q.1 q.2 ∈ lw_tbl := List.forall_mem_cons.mpr ⟨(mt_2 _ (List.mem_of_getElem? (i := 69) rfl)), List.forall_mem_cons.mpr ⟨(mt_1 _ (List.mem_of_getElem? (i := 214) rfl)), List.forall_mem_cons.mpr ⟨(mt_2 _ (List.mem_of_getElem? (i := 42) rfl)), fun _ h => absurd h List.not_mem_nil⟩⟩⟩
set_option maxRecDepth 100000 in
theorem st_ss : ∀ q ∈ xSs, Cond.stringRef RX6 q.1 q.2 ∈ lw_tbl := List.forall_mem_cons.mpr ⟨(mt_2 _ (List.mem_of_getElem? (i := 13) rfl)), List.forall_mem_cons.mpr ⟨(mt_2 _ (List.mem_of_getElem? (i := 49) rfl)), List.forall_mem_cons.mpr ⟨(mt_2 _ (List.mem_of_getElem? (i := 76) rfl)), List.forall_mem_cons.mpr ⟨(mt_2 _ (List.mem_of_getElem? (i := 83) rfl)), List.forall_mem_cons.mpr ⟨(mt_2 _ (List.mem_of_getElem? (i := 84) rfl)), List.forall_mem_cons.mpr ⟨(mt_2 _ (List.mem_of_getElem? (i := 119) rfl)), List.forall_mem_cons.mpr ⟨(mt_2 _ (List.mem_of_getElem? (i := 120) rfl)), List.forall_mem_cons.mpr ⟨(mt_2 _ (List.mem_of_getElem? (i := 132) rfl)), List.forall_mem_cons.mpr ⟨(mt_2 _ (List.mem_of_getElem? (i := 177) rfl)), List.forall_mem_cons.mpr ⟨(mt_2 _ (List.mem_of_getElem? (i := 178) rfl)), List.forall_mem_cons.mpr ⟨(mt_2 _ (List.mem_of_getElem? (i := 179) rfl)), List.forall_mem_cons.mpr ⟨(mt_2 _ (List.mem_of_getElem? (i := 217) rfl)), List.forall_mem_cons.mpr ⟨(mt_2 _ (List.mem_of_getElem? (i := 225) rfl)), List.forall_mem_cons.mpr ⟨(mt_2 _ (List.mem_of_getElem? (i := 230) rfl)), List.forall_mem_cons.mpr ⟨(mt_3 _ (List.mem_of_getElem? (i := 38) rfl)), List.forall_mem_cons.mpr ⟨(mt_3 _ (List.mem_of_getElem? (i := 39) rfl)), List.forall_mem_cons.mpr ⟨(mt_3 _ (List.mem_of_getElem? (i := 72) rfl)), List.forall_mem_cons.mpr ⟨(mt_3 _ (List.mem_of_getElem? (i := 73) rfl)), List.forall_mem_cons.mpr ⟨(mt_3 _ (List.mem_of_getElem? (i := 74) rfl)), List.forall_mem_cons.mpr ⟨(mt_3 _ (List.mem_of_getElem? (i := 87) rfl)), List.forall_mem_cons.mpr ⟨(mt_3 _ (List.mem_of_getElem? (i := 89) rfl)), List.forall_mem_cons.mpr ⟨(mt_3 _ (List.mem_of_getElem? (i := 97) rfl)), List.forall_mem_cons.mpr ⟨(mt_3 _ (List.mem_of_getElem? (i := 98) rfl)), List.forall_mem_cons.mpr ⟨(mt_3 _ (List.mem_of_getElem? (i := 106) rfl)), List.forall_mem_cons.mpr ⟨(mt_3 _ (List.mem_of_getElem? (i := 125) rfl)), List.forall_mem_cons.mpr ⟨(mt_3 _ (List.mem_of_getElem? (i := 134) rfl)), fun _ h => absurd h List.not_mem_nil⟩⟩⟩⟩⟩⟩⟩⟩⟩⟩⟩⟩⟩⟩⟩⟩⟩⟩⟩⟩⟩⟩⟩⟩⟩⟩
theorem st_ns : ∀ q ∈ xNs, Cond.not (.castable q.1 q.2) ∈ flatC (Jvm.Cond.and given_1 narrow_1) := by decide +kernel
theorem st_r1 : Cond.isRef (.static Bundle.tN "UNASSIGNED_STACK" Bundle.steD) ∈ flatC (Jvm.Cond.and given_1 narrow_1) := by decide +kernel
theorem st_r2 : Cond.isRef (.static Bundle.tN "SUPPRESSED_SENTINEL" Bundle.listD) ∈ flatC (Jvm.Cond.and given_1 narrow_1) := by decide +kernel
theorem st_X {s : State} {a : Array Value} (hts : ∀ w ∈ lw_tbl, w.before a s = true) (hgv : (Jvm.Cond.and given_1 narrow_1).before a s = true) {cC : ClassId} {iS : Nat → Nat} (hKn : u_Kn s RX6 TX6 20 cC iS) : xX (fun q => s.heap.size ≤ q) s := by
  have hfl := flat_of_before _ hgv
  have hA : ∀ q : Nat, q < s.heap.size → ¬ (fun q => s.heap.size ≤ q) q := fun q h1 h2 => absurd h1 (Nat.not_lt.mpr h2)
  have hcur := hKn.2.1
  refine ⟨vx_Zqof (hts _ (mt_1 _ (List.mem_of_getElem? (i := 239) rfl))) (hts _ (mt_1 _ (List.mem_of_getElem? (i := 4) rfl))) (hfl _ st_r1) hA, vx_Zqof (hts _ (mt_2 _ (List.mem_of_getElem? (i := 1) rfl))) (hts _ (mt_1 _ (List.mem_of_getElem? (i := 4) rfl))) (hfl _ st_r2) hA, fun x hx => va_Nw.of rfl (hts _ (st_ds x hx)), fun q hq => va_Nw.of rfl (hts _ (st_cs q hq)), fun q hq => va_Nc.of (hfl _ (st_ns q hq)), fun q hq => ?_⟩
  have h := hts _ (st_ss q hq)
  obtain ⟨k, cf, i, sa, h1, h2, h3, h4, h5, h6⟩ := Cond.stringRef_spec hcur h
  exact ⟨sa, vk_R.of h h6⟩
theorem dd_app {A : Nat → Prop} {w1 w2 : va_W} (h : va_D A (w1 ++ w2)) : va_D A w1 ∧ va_D A w2 ∧ xap w1 w2 := by
  have e1 : ∀ (i : Nat) (p : Nat × va_E), w1[i]? = some p → (w1 ++ w2)[i]? = some p ∧ i < w1.length := fun i p hp => by
    have hl := (List.getElem?_eq_some_iff.mp hp).1
    exact ⟨by rw [List.getElem?_append_left hl]; exact hp, hl⟩
  have e2 : ∀ (i : Nat) (p : Nat × va_E), w2[i]? = some p → (w1 ++ w2)[w1.length + i]? = some p := fun i p hp => by
    rw [List.getElem?_append_right (by omega), Nat.add_sub_cancel_left]; exact hp
  refine ⟨⟨fun i j p q hp hq e => h.1 i j p q (e1 i p hp).1 (e1 j q hq).1 e, fun k q hq => h.2 k q (e1 k q hq).1⟩, ⟨fun i j p q hp hq e => ?_, fun k q hq => h.2 _ q (e2 k q hq)⟩, fun i j p q hp hq e => ?_⟩
  · have := h.1 _ _ p q (e2 i p hp) (e2 j q hq) e
    omega
  · have := h.1 _ _ p q (e1 i p hp).1 (e2 j q hq) e
    have := (e1 i p hp).2
    omega
theorem pp_app {D : va_G} {cl : List vw_C} {w1 w2 : va_W} {H : Heap} (h : va_P D cl (w1 ++ w2) H) : va_P D cl w1 H ∧ va_P D cl w2 H := by
  refine ⟨fun i p hp => ?_, fun i p hp => ?_⟩
  · exact h i p (by rw [List.getElem?_append_left (List.getElem?_eq_some_iff.mp hp).1]; exact hp)
  · exact h (w1.length + i) p (by rw [List.getElem?_append_right (by omega), Nat.add_sub_cancel_left]; exact hp)
theorem dd_mk {A : Nat → Prop} {w1 w2 : va_W} (h1 : va_D A w1) (h2 : va_D A w2) (hx : xap w1 w2) : va_D A (w1 ++ w2) := va_D.app h1 h2 (fun i j p q hp hq => hx i j p q hp hq)
def o17 (σ : Mm) : Mm := (σ.1, fun j => if j = 17 then fun _ => 0 else σ.2.1 j, σ.2.2)
theorem wl_out {dA : Nat → ClassId} {β : Nat → Nat} {σ : Mm} {q : Nat} (hR : ∀ j i, gR σ j i = none) : wl dA (Fc ++ []) (fun k => if k = 17 then q else β k) (o17 σ) = wl dA Fe β σ ++ [(q, .inl (dA 9, 1, .inr (.inl (fun _ => 0))))] := by
  have h : ∀ j ∈ Fe, ((fun k => if k = 17 then q else β k) j, ct dA (fun k => if k = 17 then q else β k) (o17 σ) j) = (β j, ct dA β σ j) := by
    intro j hj
    have hj17 : j ≠ 17 := fun e => by subst e; exact absurd hj (by decide)
    have hs : ∀ c ∈ sb j, c ≠ 17 := (show ∀ j ∈ Fe, ∀ c ∈ sb j, c ≠ 17 by decide +kernel) j hj
    have e1 : ct dA (fun k => if k = 17 then q else β k) (o17 σ) j = ct dA (fun k => if k = 17 then q else β k) σ j := ct_congr rfl (by show (if j = 17 then (fun _ => 0) else σ.2.1 j) = σ.2.1 j; rw [if_neg hj17]) rfl rfl
    have e2 : ct dA (fun k => if k = 17 then q else β k) σ j = ct dA β σ j := ct_frG (N := fun c => c = 17) (fun c hc => by subst hc; exact ⟨fun i h => (by rw [hR] at h; cases h), fun c hc => hs c hc⟩) (fun c hc => if_neg hc)
    rw [e1, e2]
    show ((if j = 17 then q else β j), _) = _
    rw [if_neg hj17]
  unfold wl
  rw [show Fc ++ [] = Fe ++ [17] from rfl, List.map_append]
  congr 1
  exact List.map_congr_left h
theorem w_stay {w1 w2 : va_W} {A1 : Nat → Prop} {D : va_G} {cl : List vw_C} {H H1 : Heap} (h2 : va_P D cl w2 H) (hx : xap w1 w2) (hk : ∀ q : Nat, q < H.size → ¬ va_A w1 H.size q → H1[q]? = H[q]?) : va_P D cl w2 H1 := xa_keep h2 hx hk
theorem st_f6 : ∀ j, j < 20 → defaultValue (tyX6 j) = vp_V [.int 0, .null, .int 0, .null, .int 0, .null, .int 0, .null, .int 0, .null, .int 0, .null, .int 0, .int 0, .int 0, .null, .int 0, .null, .null, .null] j := by
  intro j hj
  have h : ∀ j : Fin 20, defaultValue (tyX6 j.1) = vp_V [.int 0, .null, .int 0, .null, .int 0, .null, .int 0, .null, .int 0, .null, .int 0, .null, .int 0, .int 0, .int 0, .null, .int 0, .null, .null, .null] j.1 := by decide
  exact h ⟨j, hj⟩
theorem st_f7 : ∀ j, j < 40 → defaultValue (tyX7 j) = vp_V [.int 0, .int 0, .null, .null, .null, .int 0, .null, .null, .null, .null, .null, .int 0, .null, .null, .null, .null, .null, .null, .int 0, .null, .int 0, .null, .null, .null, .null, .null, .null, .int 0, .int 0, .null, .null, .null, .null, .null, .null, .null, .null, .null, .null, .int 0] j := by
  intro j hj
  have h : ∀ j : Fin 40, defaultValue (tyX7 j.1) = vp_V [.int 0, .int 0, .null, .null, .null, .int 0, .null, .null, .null, .null, .null, .int 0, .null, .null, .null, .null, .null, .null, .int 0, .null, .int 0, .null, .null, .null, .null, .null, .null, .int 0, .int 0, .null, .null, .null, .null, .null, .null, .null, .null, .null, .null, .int 0] j.1 := by decide
  exact h ⟨j, hj⟩
def st_pure (xs : Nat → Int32) (N : Nat) : Prop := wp_X6_init m0_X6_init (fun σ' => (∀ j i, gR σ' j i = none) ∧ wp_X7_init m0_X7_init (fun τ' => ∃ n, lpw (law_body xs N) n ((o17 σ', [], τ'), 0)))
set_option maxHeartbeats 8000000 in
set_option maxRecDepth 100000 in
theorem start_of {p : Program} {e : Env} {s : State} {m : MethodId} {below : List Frame} {meth : Method} {c : Code} (l : Launch) (hlf : l.stackTraces = false) {b L : Nat} {xs : Nat → Int32} (hL : L ≤ 3072) (C0 : lw_At p s m meth c b L xs) (hp : st_pure xs L) : W p l e room_1 s m #[Value.ref b] below meth c s.heap [] 0 0 (lw_Z below #[Value.ref b] s) (entryFrame m ([Value.ref b] : List Value).toArray 8) := by
  obtain ⟨hx, hb, hr, hml, hown, hts, hX, hbl, hlocks, hgv⟩ := id C0
  have hA : ∀ q : Nat, s.heap.size ≤ q → (fun q : Nat => s.heap.size ≤ q) q := fun _ h => h
  have hbA : ¬ (fun q : Nat => s.heap.size ≤ q) b := Nat.not_le.mpr hbl
  obtain ⟨dC, dI, dA, hK⟩ := st_K hts
  have hxX := st_X hts hgv (hK.1 6 _ rfl)
  have htsL : ∀ w ∈ wsL_law, w.before #[Value.ref b] s = true := fun w h => hts w (wsL_law_in w h)
  have hmL : mL p s m #[Value.ref b] c dC dI dA (fun q : Nat => s.heap.size ≤ q) b L xs := ⟨hx, hb, hml, hown, htsL, hK, hA, hX, hbl, hbA, hxX⟩
  have hS : va_S (fun q : Nat => s.heap.size ≤ q) s.heap s.heap [] := va_S.rf
  have hP : va_P (dC, dI) vwCl [] s.heap := fun k q h => by simp at h
  have hD : va_D (fun q : Nat => s.heap.size ≤ q) [] := ⟨fun i j p q h => by simp at h, fun k q h => by simp at h⟩
  have hl := lv_entry ([.ref b]) (n := 8) (Nat.le_of_ble_eq_true rfl)
  rw [lg_entry_eq]
  generalize (lg_sl ([.ref b]) ++ List.replicate (8 - (lg_sl ([.ref b])).length) Slot.unset).toArray = ls at hl ⊢
  have hl : lv_has ls 8 [(0, .ref b)] := hl
  refine va_new (ci := 6) (fs := [.int 0, .null, .int 0, .null, .int 0, .null, .int 0, .null, .int 0, .null, .int 0, .null, .int 0, .int 0, .int 0, .null, .int 0, .null, .null, .null]) (C := RX6) (T := TX6) (N := 20) hx hb hts inX6 tyX6 tyX6_ok hown (hts _ (mt_1 _ (List.mem_of_getElem? (i := 16) rfl))) (hts _ (mt_1 _ (List.mem_of_getElem? (i := 17) rfl))) (hts _ (mt_1 _ (List.mem_of_getElem? (i := 1) rfl))) hK hP hD hS hA rfl st_f6 (Nat.le_of_ble_eq_true rfl) (Nat.le_of_ble_eq_true rfl) dL_law_0 (fun xa H hP hD hS => ?_)
  have hP : va_P (dC, dI) vwCl [(xa, .inr (6, [.int 0, .null, .int 0, .null, .int 0, .null, .int 0, .null, .int 0, .null, .int 0, .null, .int 0, .int 0, .int 0, .null, .int 0, .null, .null, .null]))] H := hP
  have hD : va_D (fun q : Nat => s.heap.size ≤ q) [(xa, .inr (6, [.int 0, .null, .int 0, .null, .int 0, .null, .int 0, .null, .int 0, .null, .int 0, .null, .int 0, .int 0, .int 0, .null, .int 0, .null, .null, .null]))] := hD
  refine lv_dup hx hb dL_law_3 rfl ?_
  have hfr := va_free (wc := [(xa, .inr (6, [.int 0, .null, .int 0, .null, .int 0, .null, .int 0, .null, .int 0, .null, .int 0, .null, .int 0, .int 0, .int 0, .null, .int 0, .null, .null, .null]))]) hD hS hA [0] rfl
  refine va_callv (va_runI (As := []) (rest := [.ref xa]) ⟨hx, hb, hml, hown, htsL⟩ (cr_X6_init l dC dI dA xa H.size _ hp) (cwI 0 htsL gL_law_X6_init rfl rfl rfl (hts _ (mt_1 _ (List.mem_of_getElem? (i := 1) rfl))) (hts _ (mt_1 _ (List.mem_of_getElem? (i := 18) rfl))) (hts _ (mt_1 _ (List.mem_of_getElem? (i := 19) rfl))) rfl (by decide +kernel) ⟨Nat.le_of_ble_eq_true rfl, Nat.le_of_ble_eq_true rfl⟩) ⟨fun a U g mk q => ⟨q.1, q.2.1, q.2.2.1, va_K.moved (u := U) (U := U.calling g mk a) (Vm.Alike.refl U.vm) q.2.2.2.1, q.2.2.2.2.1, va_AO.moved (u := U) (U := U.calling g mk a) (Vm.Alike.refl U.vm) q.2.2.2.2.2.1, va_AO.moved (u := U) (U := U.calling g mk a) (Vm.Alike.refl U.vm) q.2.2.2.2.2.2.1, va_AO.moved (u := U) (U := U.calling g mk a) (Vm.Alike.refl U.vm) q.2.2.2.2.2.2.2.1, va_AO.moved (u := U) (U := U.calling g mk a) (Vm.Alike.refl U.vm) q.2.2.2.2.2.2.2.2.1, va_AO.moved (u := U) (U := U.calling g mk a) (Vm.Alike.refl U.vm) q.2.2.2.2.2.2.2.2.2⟩, fun U hU hW => ⟨rfl, by rw [hU], by rw [hU]; exact hP, va_K.moved hW.alike hK, hD.weaken (fun _ _ _ _ => trivial), va_AO.moved hW.alike (st_ao (hts _ (mt_1 _ (List.mem_of_getElem? (i := 27) rfl)))), va_AO.moved hW.alike (st_ao (hts _ (mt_1 _ (List.mem_of_getElem? (i := 29) rfl)))), va_AO.moved hW.alike (st_ao (hts _ (mt_1 _ (List.mem_of_getElem? (i := 25) rfl)))), va_AO.moved hW.alike (st_ao (hts _ (mt_1 _ (List.mem_of_getElem? (i := 31) rfl)))), va_AO.moved hW.alike (st_ao (hts _ (mt_1 _ (List.mem_of_getElem? (i := 33) rfl))))⟩⟩ rfl rfl hl.1 rfl (lv_room (Nat.le_of_ble_eq_true rfl)) dL_law_4 ⟨Nat.le_of_ble_eq_true rfl, Nat.le_of_ble_eq_true rfl⟩) hS (fun q _ h => hfr q h) hfr (fun u t H1 locs1 ht hvm hw hB hz1 hk1 hS1 => ?_)
  obtain ⟨β, hβ, hP1, -, hD1⟩ := hB
  rw [ht] at hP1
  obtain ⟨hgR, hp2⟩ := hw
  have hD1 := hD1.weaken (B := fun q : Nat => s.heap.size ≤ q) (fun _ _ _ h => hfr _ h)
  clear hk1 hz1 hvm ht hP hD
  refine lv_astore_n (lv' := [(1, .ref xa), (0, .ref b)]) hx hb dL_law_7 rfl hl (by decide) rfl (fun ls1 hl1 => ?_)
  refine va_new (ci := 7) (fs := [.int 0, .int 0, .null, .null, .null, .int 0, .null, .null, .null, .null, .null, .int 0, .null, .null, .null, .null, .null, .null, .int 0, .null, .int 0, .null, .null, .null, .null, .null, .null, .int 0, .int 0, .null, .null, .null, .null, .null, .null, .null, .null, .null, .null, .int 0]) (C := RX7) (T := TX7) (N := 40) hx hb hts inX7 tyX7 tyX7_ok hown (hts _ (mt_3 _ (List.mem_of_getElem? (i := 185) rfl))) (hts _ (mt_3 _ (List.mem_of_getElem? (i := 186) rfl))) (hts _ (mt_1 _ (List.mem_of_getElem? (i := 3) rfl))) hK hP1 hD1 hS1 hA rfl st_f7 (Nat.le_of_ble_eq_true rfl) (Nat.le_of_ble_eq_true rfl) dL_law_8 (fun ma H2 hP2 hD2 hS2 => ?_)
  obtain ⟨hPa, hPb⟩ := pp_app hP2
  obtain ⟨hDa, hDb, hxa⟩ := dd_app hD2
  refine lv_dup hx hb dL_law_11 rfl ?_
  have hfr2 := va_free (wc := [(ma, .inr (7, [.int 0, .int 0, .null, .null, .null, .int 0, .null, .null, .null, .null, .null, .int 0, .null, .null, .null, .null, .null, .null, .int 0, .null, .int 0, .null, .null, .null, .null, .null, .null, .int 0, .int 0, .null, .null, .null, .null, .null, .null, .null, .null, .null, .null, .int 0]))]) hDb hS2 hA [0] rfl
  refine va_callv (va_runI (As := []) (rest := [.ref ma]) ⟨hx, hb, hml, hown, htsL⟩ (cr_X7_init l dC dI dA ma H2.size _ hp2) (cwI 0 htsL gL_law_X7_init rfl rfl rfl (hts _ (mt_1 _ (List.mem_of_getElem? (i := 3) rfl))) (hts _ (mt_3 _ (List.mem_of_getElem? (i := 187) rfl))) (hts _ (mt_3 _ (List.mem_of_getElem? (i := 188) rfl))) rfl (by decide +kernel) ⟨Nat.le_of_ble_eq_true rfl, Nat.le_of_ble_eq_true rfl⟩) ⟨fun a U g mk q => ⟨q.1, q.2.1, q.2.2.1, va_K.moved (u := U) (U := U.calling g mk a) (Vm.Alike.refl U.vm) q.2.2.2.1, q.2.2.2.2⟩, fun U hU hW => ⟨rfl, by rw [hU], by rw [hU]; exact hPb, va_K.moved hW.alike hK, hDb.weaken (fun _ _ _ _ => trivial)⟩⟩ rfl rfl hl1.1 rfl (lv_room (Nat.le_of_ble_eq_true rfl)) dL_law_12 ⟨Nat.le_of_ble_eq_true rfl, Nat.le_of_ble_eq_true rfl⟩) hS2 (fun q _ h => hfr2 q h) hfr2 (fun u2 t2 H3 locs3 ht3 hvm3 hw3 hB3 hz3 hk3 hS3 => ?_)
  obtain ⟨β2, hβ2, hP3, -, hD3⟩ := hB3
  rw [ht3] at hP3
  have hP3a := xa_keep hPa (xap_sym hxa) hk3
  have hx3 := xa_apart hPa (xap_sym hxa) hD3
  have hD3 := hD3.weaken (B := fun q : Nat => s.heap.size ≤ q) (fun _ _ _ h => hfr2 _ h)
  clear hk3 hz3 hvm3 ht3 hP2 hD2
  refine lv_astore_n (lv' := [(2, .ref ma), (1, .ref xa), (0, .ref b)]) hx hb dL_law_15 rfl hl1 (by decide) rfl (fun ls2 hl2 => ?_)
  refine lv_iconst (v := 1) hx hb dL_law_16 (by decide) ?_
  refine w_newJ (N' := 1) (D := (dC, dI)) (cl := vwCl) (dA := dA) hx hb (hts _ (mt_1 _ (List.mem_of_getElem? (i := 53) rfl))) hK (va_P.app hP3 hP3a) (dd_mk hD3 hDa hx3) hS3 hA (by decide) rfl (by decide) (Nat.le_of_ble_eq_true rfl) (Nat.le_of_ble_eq_true rfl) dL_law_17 (fun oa H4 hP4 hD4 hS4 => ?_)
  rw [List.append_assoc] at hP4 hD4
  obtain ⟨hP4m, hP4c⟩ := pp_app hP4
  obtain ⟨hD4m, hD4c, hx4⟩ := dd_app hD4
  rw [← wl_out hgR] at hP4c hD4c hx4
  refine lv_astore_n (lv' := [(3, .ref oa), (2, .ref ma), (1, .ref xa), (0, .ref b)]) hx hb dL_law_19 rfl hl2 (by decide) rfl (fun ls3 hl3 => ?_)
  refine lv_iconst (v := 0) hx hb dL_law_20 (by decide) ?_
  refine lv_istore (lv' := [(4, .int 0), (3, .ref oa), (2, .ref ma), (1, .ref xa), (0, .ref b)]) hx hb dL_law_21 hl3 (by decide) rfl (fun ls4 hl4 => ?_)
  obtain ⟨n, hp3⟩ := hw3
  have hgl := law_loop (meth := meth) (below := below) (e := e) hlf hmL rfl hr hlocks (fun q h => h) rfl hL n _ hp3 0 rfl (by decide) (xa := xa) (oa := oa) (ma := ma)
  exact W.widen (k := 64) (n := 8000) (Nat.le_of_ble_eq_true rfl) (Nat.le_of_ble_eq_true rfl) (hgl H4 _ ls4 ⟨fun k => if k = 17 then oa else β k, β2, hβ, rfl, hβ2, hP4c, hP4m, hD4c, hD4m, xap_sym hx4, hS4⟩ (lv_sub hl4 [4, 3, 2, 1, 0] rfl))
