/-! THE FACE: methods that throw, that make objects -/
def xN : Nat → String
  | 1 => "java/lang/IndexOutOfBoundsException"
  | 2 => "java/lang/IllegalArgumentException"
  | _ => "java/lang/IllegalStateException"
abbrev xUp : List String := ["java/lang/RuntimeException", "java/lang/Exception"]
def xDs : List MethodName := [Bundle.initS "java/lang/RuntimeException", Bundle.initS "java/lang/Exception", Bundle.initS Bundle.tN]
def xCs : List (String × String) := [(xN 1, xN 1), (xN 2, xN 2), (xN 3, xN 3)]
def xNs : List (String × String) := [(xN 1, xN 2), (xN 1, xN 3), (xN 2, xN 1), (xN 2, xN 3), (xN 3, xN 1), (xN 3, xN 2)]
def xSs : List (Nat × String) := [(95, "months out of range"), (102, "behind the last month"), (111, "no such owner"), (114, "acres out of range"), (116, "no more tracts"), (128, "no such tract, owner or month"), (130, "the same owner, or parts out of range"), (136, "not so many parts, or no more deeds"), (147, "no such tract or owner"), (149, "the same owner, or royalty or term out of range"), (151, "no more leases"), (167, "none, or one that is no tract"), (172, "one is of a unit, or no more units"), (187, "no such unit"), (189, "no more wells"), (198, "no such well or month"), (200, "barrels or price out of range"), (204, "the unit was told behind that month"), (214, "cents out of range"), (220, "the unit was told behind that month, or costs too high"), (223, "no such month"), (225, "hundredths out of range"), (231, "no such unit or owner"), (244, "no such unit, month or owner"), (259, "no such unit or month")]
def xB : List Cond := xDs.map .declares ++ xCs.map (fun q => .castable q.1 q.2)
def xX (A : Nat → Prop) (U : State) : Prop :=
  vx_Zq Bundle.tN "UNASSIGNED_STACK" Bundle.steD A U U.heap ∧ vx_Zq Bundle.tN "SUPPRESSED_SENTINEL" Bundle.listD A U U.heap ∧ (∀ x ∈ xDs, va_Nw (.declares x) U) ∧ (∀ q ∈ xCs, va_Nw (.castable q.1 q.2) U) ∧ (∀ q ∈ xNs, va_Nc q.1 q.2 U) ∧ ∀ q ∈ xSs, ∃ sa : Nat, vk_R RX6 q.1 q.2 sa U
theorem xX.calling {A : Nat → Prop} {U : State} {g : JFrame} {mk : MethodId} {a : Array Value} (h : xX A U) : xX A (U.calling g mk a) :=
  ⟨vx_Zq.moved (u := U) (U := U.calling g mk a) (Vm.Alike.refl U.vm) h.1, vx_Zq.moved (u := U) (U := U.calling g mk a) (Vm.Alike.refl U.vm) h.2.1, fun x hx => va_Nw.same (u := U) (U := U.calling g mk a) rfl rfl (h.2.2.1 x hx), fun x hx => va_Nw.same (u := U) (U := U.calling g mk a) rfl rfl (h.2.2.2.1 x hx), fun q hq => va_Nc.moved (u := U) (U := U.calling g mk a) (Vm.Alike.refl U.vm) (h.2.2.2.2.1 q hq), fun q hq => by
    obtain ⟨sa, hs⟩ := h.2.2.2.2.2 q hq
    exact ⟨sa, vk_R.same (u := U) (U := U.calling g mk a) rfl hs⟩⟩
theorem xX.to {A A1 : Nat → Prop} {s U : State} {H : Heap} {locs : List Loc} (h : xX A s) (hS : va_S A s.heap H locs) (hU : U.heap = H) (hW : s.WarmedH U.vm) (hA : ∀ q, A1 q → A q) : xX A1 U := by
  have hk : ∀ a : Nat, a < s.heap.size → ¬ A a → U.heap[a]? = s.heap[a]? := fun a h1 h2 => by rw [hU]; exact hS.2.1 a h1 h2
  exact ⟨((h.1.kept hk).moved hW.alike).narrow hA, ((h.2.1.kept hk).moved hW.alike).narrow hA, fun x hx => va_Nw.warmD hW (h.2.2.1 x hx), fun x hx => va_Nw.warmC hW (h.2.2.2.1 x hx), fun q hq => va_Nc.moved hW.alike (h.2.2.2.2.1 q hq), fun q hq => by
    obtain ⟨sa, hs⟩ := h.2.2.2.2.2 q hq
    exact ⟨sa, vk_R.warm hW hs⟩⟩
theorem xX.bad {A : Nat → Prop} {s : State} {args : Array Value} (h : xX A s) : ∀ w ∈ xB, w.before args s = true := by
  intro w hw
  rcases List.mem_append.mp hw with hw | hw
  · obtain ⟨x, hx, rfl⟩ := List.mem_map.mp hw
    exact va_Nw.use rfl (h.2.2.1 x hx)
  · obtain ⟨q, hq, rfl⟩ := List.mem_map.mp hw
    exact va_Nw.use rfl (h.2.2.2.1 q hq)
def xP (dC : Nat → ClassId) (dI : Nat → Nat → Nat) (dA : Nat → ClassId) (L : List Nat) (α : Nat → Nat) (σ : Mm) (sz : Nat) (av : List Value) : Array Value → State → Prop := va_Pc av (fun U => U.heap.size = sz ∧ va_P (dC, dI) vwCl (wl dA (Fc ++ L) α σ) U.heap ∧ va_K (dC, dI) vwCl (tysL dA) U ∧ va_D (fun _ => True) (wl dA (Fc ++ L) α σ) ∧ xX (va_A (wl dA (Fc ++ L) α σ) sz) U)
theorem xP_blind {dC : Nat → ClassId} {dI : Nat → Nat → Nat} {dA : Nat → ClassId} {L : List Nat} {α : Nat → Nat} {σ : Mm} {sz : Nat} {av : List Value} : FrameBlind (xP dC dI dA L α σ sz av) := fun a U g mk q => ⟨q.1, q.2.1, q.2.2.1, va_K.moved (u := U) (U := U.calling g mk a) (Vm.Alike.refl U.vm) q.2.2.2.1, q.2.2.2.2.1, q.2.2.2.2.2.calling⟩
/-- the world behind a call of the face: the old slots lie where they lay -/
def cX (dC : Nat → ClassId) (dI : Nat → Nat → Nat) (dA : Nat → ClassId) (L0 : List Nat) (α0 : Nat → Nat) (w0 : va_W) (sz : Nat) (u : Mm × List Nat) (t : State) : Prop := ∃ α : Nat → Nat, (∀ k ∈ Fc ++ L0, α k = α0 k) ∧ va_P (dC, dI) vwCl (wl dA (Fc ++ u.2) α u.1) t.heap ∧ va_K (dC, dI) vwCl (tysL dA) t ∧ va_D (va_A w0 sz) (wl dA (Fc ++ u.2) α u.1)
def xXC (dC : Nat → ClassId) (dI : Nat → Nat → Nat) (dA : Nat → ClassId) (L0 : List Nat) (α0 : Nat → Nat) (w0 : va_W) (sz : Nat) (Xm : Nat → Mm → List Nat → Prop) : String → State → State → Prop := vx_X (fun u : Nat × Mm × List Nat => Xm u.1 u.2.1 u.2.2) (fun E u t => E = xN u.1 ∧ cX dC dI dA L0 α0 w0 sz u.2 t) (va_A w0 sz)
/-- the start of a method of the face -/
theorem m_xstart {l : Launch} {y : MethodName} {ws ws' : List Cond} {rm : Room} {dC : Nat → ClassId} {dI : Nat → Nat → Nat} {dA : Nat → ClassId} {L : List Nat} {α : Nat → Nat} {σ : Mm} {sz : Nat} {av : List Value} {Qc : Array Value → State → Outcome → State → Prop} {XC : String → State → State → Prop} {mc ms : Nat} {cc : ByteArray} {maxL : Nat} {ret : Option FieldType} {own : String} {lv : List (Nat × Value)}
    (hy : plainName y.cls = true) (hw : ws = Cond.code y cc maxL ret :: ws') (ho : y.cls = own) (hav : (lg_sl av).length ≤ maxL) (hlv : lv_args 0 av = lv)
    (body : ∀ (p : Program) (e : Env) (s : State) (m : MethodId) (below : List Frame) (meth : Method) (c : Code), s.heap.size = sz → mC p s m av.toArray c cc own maxL ws dC dI dA (va_A (wl dA (Fc ++ L) α σ) sz) → meth.sig.returnType = ret → meth.locks = false → (∀ x ∈ c.exceptionTable.toList, False) → xX (va_A (wl dA (Fc ++ L) α σ) sz) s →
      G p l e rm s m av.toArray below meth c 0 0 (vx_MQ below Qc XC av.toArray s mc ms (va_A (wl dA (Fc ++ L) α σ) sz)) dC dI dA (Fc ++ L) α (va_A (wl dA (Fc ++ L) α σ) sz) maxL σ 0 lv []) : vx_Met l y ws rm (xP dC dI dA L α σ sz av) Qc XC mc ms (va_A (wl dA (Fc ++ L) α σ) sz) := by
  refine vx_ofW (cc := cc) (maxL := maxL) (ret := ret) hy hw ?_
  intro p e s m args below meth c s₁ B hml htab hv
  obtain ⟨rfl, hsz, hP, hK, hD0, hX⟩ := hv
  have hts := atoms_spec (ws := ws) B.pre
  have hown : s.vm.findClass own = some m.cls := by rw [← ho]; exact findClass_of_methodNamed B.named
  subst hsz
  have hD := hD0.self (sz := s.heap.size)
  have hl := lv_entry av (n := maxL) hav
  rw [hlv] at hl
  rw [lg_entry_eq]
  have hA : ∀ q : Nat, s.heap.size ≤ q → va_A (wl dA (Fc ++ L) α σ) s.heap.size q := fun q h => Or.inr h
  exact body p e s m below meth c rfl ⟨B.exec, B.bytes, hml, hown, hts, hK, hA⟩ B.returns B.notSynchronized htab hX s.heap [] _ ⟨hP, hD, va_S.rf⟩ hl
theorem xh_113_1 : ∀ w ∈ (vx_atS RX6 113 (xN 1) xUp).filter (fun w => !goodWord w), w ∈ xB := by decide +kernel
theorem xgd_113_1 : ∀ w ∈ Cond.classLink RX6 109 (xN 1) :: Cond.initialized (xN 1) :: vx_atS RX6 113 (xN 1) xUp, vx_ot w = true := by decide +kernel
theorem xh_97_2 : ∀ w ∈ (vx_atS RX6 97 (xN 2) xUp).filter (fun w => !goodWord w), w ∈ xB := by decide +kernel
theorem xgd_97_2 : ∀ w ∈ Cond.classLink RX6 93 (xN 2) :: Cond.initialized (xN 2) :: vx_atS RX6 97 (xN 2) xUp, vx_ot w = true := by decide +kernel
theorem xh_104_3 : ∀ w ∈ (vx_atS RX6 104 (xN 3) xUp).filter (fun w => !goodWord w), w ∈ xB := by decide +kernel
theorem xgd_104_3 : ∀ w ∈ Cond.classLink RX6 100 (xN 3) :: Cond.initialized (xN 3) :: vx_atS RX6 104 (xN 3) xUp, vx_ot w = true := by decide +kernel
section XROWS
variable {p : Program} {l : Launch} {e : Env} {R : Room} {s : State} {m : MethodId} {args : Array Value} {below : List Frame} {meth : Method} {c : Code} {cells slots : Nat} {Q : State → Prop} {dC : Nat → ClassId} {dI : Nat → Nat → Nat} {dA : Nat → ClassId} {F L L0 : List Nat} {α α0 : Nat → Nat} {A : Nat → Prop} {nL : Nat} {σ : Mm} {pc : Nat} {lv lv' : List (Nat × Value)} {st : List Value} {cc : ByteArray} {own : String} {Ts : List Cond}
theorem fO_al {α1 : Nat → Nat} (h : ∀ k ∈ F, α1 k = α k) {k : Nat} (hk : k ∈ F) : fO α (some k) = fO α1 (some k) := by show va_rf (some (α k)) = va_rf (some (α1 k)); rw [h k hk]
theorem r_xiret (hC : mC p s m args c cc own nL Ts dC dI dA A) {Xm : Nat → Mm → List Nat → Prop} {w0 : va_W} {sz mc ms : Nat} (hA : A = va_A w0 sz) {Qm : Int32 → Mm → List Nat → Prop} (hr : meth.sig.returnType = some .int) (hlk : meth.locks = false) (hα : ∀ k ∈ Fc ++ L0, α k = α0 k) (hcs : cells ≤ mc ∧ slots ≤ ms) {x : Int32} (d : decode cc pc = .ok (.ireturn, 1)) (hq : Qm x σ L) : G p l e R s m args below meth c cells slots (vx_MQ below (va_Qi (fun r u => Qm r u.1 u.2) (cX dC dI dA L0 α0 w0 sz) A) (xXC dC dI dA L0 α0 w0 sz Xm) args s mc ms A) dC dI dA (Fc ++ L) α A nL σ pc lv [.int x] := by
  intro H locs ls hW hl
  exact vx_ret (W.widen hcs.1 hcs.2 (W.iret (v := x) hC.1 hC.2.1 hr (fun t ht hWd => ⟨⟨x, (σ, L), rfl, hq, ⟨α, hα, by rw [ht]; exact hW.1, va_K.moved hWd.alike hC.2.2.2.2.2.1, by rw [← hA]; exact hW.2.1⟩⟩, hW.2.2.F ht⟩) hW.2.2.2.2 d hlk))
theorem r_xzret (hC : mC p s m args c cc own nL Ts dC dI dA A) {Xm : Nat → Mm → List Nat → Prop} {w0 : va_W} {sz mc ms : Nat} (hA : A = va_A w0 sz) {Qm : Int32 → Mm → List Nat → Prop} (hr : meth.sig.returnType = some .boolean) (hlk : meth.locks = false) (hα : ∀ k ∈ Fc ++ L0, α k = α0 k) (hcs : cells ≤ mc ∧ slots ≤ ms) {x : Int32} (d : decode cc pc = .ok (.ireturn, 1)) (hz : zb x) (hq : Qm x σ L) : G p l e R s m args below meth c cells slots (vx_MQ below (va_Qi (fun r u => Qm r u.1 u.2) (cX dC dI dA L0 α0 w0 sz) A) (xXC dC dI dA L0 α0 w0 sz Xm) args s mc ms A) dC dI dA (Fc ++ L) α A nL σ pc lv [.int x] := by
  intro H locs ls hW hl
  exact vx_ret (W.widen hcs.1 hcs.2 (W.zret (v := x) hC.1 hC.2.1 hr hz (fun t ht hWd => ⟨⟨x, (σ, L), rfl, hq, ⟨α, hα, by rw [ht]; exact hW.1, va_K.moved hWd.alike hC.2.2.2.2.2.1, by rw [← hA]; exact hW.2.1⟩⟩, hW.2.2.F ht⟩) hW.2.2.2.2 d hlk))
theorem r_xlret (hC : mC p s m args c cc own nL Ts dC dI dA A) {Xm : Nat → Mm → List Nat → Prop} {w0 : va_W} {sz mc ms : Nat} (hA : A = va_A w0 sz) {Qm : Int64 → Mm → List Nat → Prop} (hr : meth.sig.returnType = some .long) (hlk : meth.locks = false) (hα : ∀ k ∈ Fc ++ L0, α k = α0 k) (hcs : cells ≤ mc ∧ slots ≤ ms) {x : Int64} (d : decode cc pc = .ok (.lreturn, 1)) (hq : Qm x σ L) : G p l e R s m args below meth c cells slots (vx_MQ below (va_Ql (fun r u => Qm r u.1 u.2) (cX dC dI dA L0 α0 w0 sz) A) (xXC dC dI dA L0 α0 w0 sz Xm) args s mc ms A) dC dI dA (Fc ++ L) α A nL σ pc lv [.long x] := by
  intro H locs ls hW hl
  exact vx_ret (W.widen hcs.1 hcs.2 (W.lret (v := x) hC.1 hC.2.1 hr (fun t ht hWd => ⟨⟨x, (σ, L), rfl, hq, ⟨α, hα, by rw [ht]; exact hW.1, va_K.moved hWd.alike hC.2.2.2.2.2.1, by rw [← hA]; exact hW.2.1⟩⟩, hW.2.2.F ht⟩) hW.2.2.2.2 d hlk))
theorem r_throw {cc : ByteArray} {nL : Nat} {Ts : List Cond} {mc ms : Nat} (hC : mC p s m args c cc RX6 nL Ts dC dI dA A) (hlf : l.stackTraces = false) (hX : xX A s) {Xm : Nat → Mm → List Nat → Prop} {w0 : va_W} {sz : Nat} {Qc : Array Value → State → Outcome → State → Prop} (hA : A = va_A w0 sz) {ik is ic en : Nat} {tx : String} (hfit : Bundle.fit (xN en) = true) (hk : Cond.classLink RX6 ik (xN en) ∈ Ts) (hini : Cond.initialized (xN en) ∈ Ts) (hstr : (is, tx) ∈ xSs) (hg : ∀ w ∈ (vx_atS RX6 ic (xN en) xUp).filter goodWord, w ∈ Ts) (hb : ∀ w ∈ (vx_atS RX6 ic (xN en) xUp).filter (fun w => !goodWord w), w ∈ xB)
    (hgood : ∀ w ∈ Cond.classLink RX6 ik (xN en) :: Cond.initialized (xN en) :: vx_atS RX6 ic (xN en) xUp, vx_ot w = true) (d0 : decode cc pc = .ok (.new ik, 3)) (d3 : decode cc (pc + 3) = .ok (.dup, 1)) (d4 : decode cc (pc + 4) = .ok (.ldc is, 2)) (d6 : decode cc (pc + 6) = .ok (.invokespecial ic, 3)) (d9 : decode cc (pc + 9) = .ok (.athrow, 1))
    (htab : ∀ x ∈ c.exceptionTable.toList, False) (hR : 5 < R.frames ∧ 82 ≤ R.locals ∧ 1 ≤ R.cells ∧ 6 ≤ R.slots) (hlk : meth.locks = false) (hm : 1 ≤ mc ∧ 6 ≤ ms) (hq : Xm en σ L) :
    G p l e R s m args below meth c 0 0 (vx_MQ below Qc (xXC dC dI dA L α w0 sz Xm) args s mc ms A) dC dI dA (Fc ++ L) α A nL σ pc lv [] := by
  intro H locs ls hW hl
  obtain ⟨sa, hsa⟩ := hX.2.2.2.2.2 _ hstr
  refine vx_throwS (names := xUp) hC.1 hC.2.1 hlf hC.2.2.2.1 hfit (by decide +kernel) (hC.2.2.2.2.1 _ hk) (hC.2.2.2.2.1 _ hini) hsa (vx_hat (fun w hw => hC.2.2.2.2.1 _ (hg w hw)) hb hX.bad) hgood hX.1 hX.2.1 hW.2.2 (hl.1.trans hC.2.2.1.symm) d0 d3 d4 d6 d9 (fun x hx => (htab x hx).elim) hR.1 hR.2.1 hR.2.2.1 hR.2.2.2 hlk (fun t hvm hsz hk2 => ?_) hW.2.2.2.2 hm.1 hm.2
  refine ⟨(en, σ, L), hq, ⟨rfl, α, fun _ _ => rfl, ?_, va_K.moved hvm hC.2.2.2.2.2.1, by rw [← hA]; exact hW.2.1⟩, ?_⟩
  · exact hW.1.kept (fun k q hkq => hk2 _ (vx_lt hW.1 hkq))
  · rw [← hA]
    exact ⟨Nat.le_trans hW.2.2.1 hsz, fun q h1 h2 => (hk2 q (Nat.lt_of_lt_of_le h1 hW.2.2.1)).trans (hW.2.2.2.1 q h1 h2)⟩
theorem r_throwW {cc : ByteArray} {nL : Nat} {Ts : List Cond} {mc ms : Nat} (hC : mC p s m args c cc RX6 nL Ts dC dI dA A) (hlf : l.stackTraces = false) (hX : xX A s) {Xm : Nat → Mm → List Nat → Prop} {w0 : va_W} {sz : Nat} {Qc : Array Value → State → Outcome → State → Prop} (hA : A = va_A w0 sz) {ik is ic en : Nat} {tx : String} (hfit : Bundle.fit (xN en) = true) (hk : Cond.classLink RX6 ik (xN en) ∈ Ts) (hini : Cond.initialized (xN en) ∈ Ts) (hstr : (is, tx) ∈ xSs) (hg : ∀ w ∈ (vx_atS RX6 ic (xN en) xUp).filter goodWord, w ∈ Ts) (hb : ∀ w ∈ (vx_atS RX6 ic (xN en) xUp).filter (fun w => !goodWord w), w ∈ xB)
    (hgood : ∀ w ∈ Cond.classLink RX6 ik (xN en) :: Cond.initialized (xN en) :: vx_atS RX6 ic (xN en) xUp, vx_ot w = true) (d0 : decode cc pc = .ok (.new ik, 3)) (d3 : decode cc (pc + 3) = .ok (.dup, 1)) (d4 : decode cc (pc + 4) = .ok (.ldc_w is, 3)) (d6 : decode cc (pc + 7) = .ok (.invokespecial ic, 3)) (d9 : decode cc (pc + 10) = .ok (.athrow, 1))
    (htab : ∀ x ∈ c.exceptionTable.toList, False) (hR : 5 < R.frames ∧ 82 ≤ R.locals ∧ 1 ≤ R.cells ∧ 6 ≤ R.slots) (hlk : meth.locks = false) (hm : 1 ≤ mc ∧ 6 ≤ ms) (hq : Xm en σ L) :
    G p l e R s m args below meth c 0 0 (vx_MQ below Qc (xXC dC dI dA L α w0 sz Xm) args s mc ms A) dC dI dA (Fc ++ L) α A nL σ pc lv [] := by
  intro H locs ls hW hl
  obtain ⟨sa, hsa⟩ := hX.2.2.2.2.2 _ hstr
  refine vx_throwSW (names := xUp) hC.1 hC.2.1 hlf hC.2.2.2.1 hfit (by decide +kernel) (hC.2.2.2.2.1 _ hk) (hC.2.2.2.2.1 _ hini) hsa (vx_hat (fun w hw => hC.2.2.2.2.1 _ (hg w hw)) hb hX.bad) hgood hX.1 hX.2.1 hW.2.2 (hl.1.trans hC.2.2.1.symm) d0 d3 d4 d6 d9 (fun x hx => (htab x hx).elim) hR.1 hR.2.1 hR.2.2.1 hR.2.2.2 hlk (fun t hvm hsz hk2 => ?_) hW.2.2.2.2 hm.1 hm.2
  refine ⟨(en, σ, L), hq, ⟨rfl, α, fun _ _ => rfl, ?_, va_K.moved hvm hC.2.2.2.2.2.1, by rw [← hA]; exact hW.2.1⟩, ?_⟩
  · exact hW.1.kept (fun k q hkq => hk2 _ (vx_lt hW.1 hkq))
  · rw [← hA]
    exact ⟨Nat.le_trans hW.2.2.1 hsz, fun q h1 h2 => (hk2 q (Nat.lt_of_lt_of_le h1 hW.2.2.1)).trans (hW.2.2.2.1 q h1 h2)⟩
end XROWS
/-- the slots that a slot names by the layout -/
def sb (j : Nat) : List Nat := match kd j with | 2 => [j + 1, j + 2, j + 3] | 4 => [j + 1, j + 2, j + 3, j + 4, j + 5, j + 6] | 5 => [j + 1, j + 2, j + 3] | 6 => [1, 2, 3, 4, 5, 6, 7, 8, 9, 13] | 7 => [201, 202, 203, 204, 205, 206, 207, 208, 209, 210, 211, 212, 213, 214, 215, 216, 217, 218, 219, 220, 221, 222, 223, 224, 225, 226, 227, 228, 229, 230, 231] | _ => []
def fr (σ : Mm) (k j : Nat) : Prop := (∀ i, gR σ j i ≠ some k) ∧ ∀ c ∈ sb j, c ≠ k
theorem ct_fr {dA : Nat → ClassId} {α : Nat → Nat} {σ : Mm} {k j q : Nat} (h : fr σ k j) : ct dA (va_up α k q) σ j = ct dA α σ j := by
  obtain ⟨h1, h2⟩ := h
  have hR : ∀ i, fO (va_up α k q) (gR σ j i) = fO α (gR σ j i) := by
    intro i
    unfold fO
    cases e : gR σ j i with
    | none => rfl
    | some a =>
      have : a ≠ k := fun z => h1 i (by rw [e, z])
      simp [va_up, this]
  have hc : ∀ c, c ≠ k → fO (va_up α k q) (some c) = fO α (some c) := by
    intro c hc
    simp [fO, va_up, hc]
  have hF : (fun i => (gR σ j i).map (va_up α k q)) = fun i => (gR σ j i).map α := by
    funext i
    cases e : gR σ j i with
    | none => rfl
    | some a =>
      have : a ≠ k := fun z => h1 i (by rw [e, z])
      simp [va_up, this]
  unfold sb at h2
  unfold ct
  generalize kd j = w at h2 ⊢
  match w, h2 with
  | 0, h2 => simp only [hR]
  | 1, h2 => simp only [hR]
  | 2, h2 => simp only [List.forall_mem_cons] at h2; simp only [hR, hc _ h2.1, hc _ h2.2.1, hc _ h2.2.2.1]
  | 3, h2 => simp only [hR]
  | 4, h2 => simp only [List.forall_mem_cons] at h2; simp only [hR, hc _ h2.1, hc _ h2.2.1, hc _ h2.2.2.1, hc _ h2.2.2.2.1, hc _ h2.2.2.2.2.1, hc _ h2.2.2.2.2.2.1]
  | 5, h2 => simp only [List.forall_mem_cons] at h2; simp only [hR, hc _ h2.1, hc _ h2.2.1, hc _ h2.2.2.1]
  | 6, h2 => simp only [List.forall_mem_cons] at h2; simp only [hR, hc _ h2.1, hc _ h2.2.1, hc _ h2.2.2.1, hc _ h2.2.2.2.1, hc _ h2.2.2.2.2.1, hc _ h2.2.2.2.2.2.1, hc _ h2.2.2.2.2.2.2.1, hc _ h2.2.2.2.2.2.2.2.1, hc _ h2.2.2.2.2.2.2.2.2.1, hc _ h2.2.2.2.2.2.2.2.2.2.1]
  | 7, h2 => simp only [List.forall_mem_cons] at h2; simp only [hR, hc _ h2.1, hc _ h2.2.1, hc _ h2.2.2.1, hc _ h2.2.2.2.1, hc _ h2.2.2.2.2.1, hc _ h2.2.2.2.2.2.1, hc _ h2.2.2.2.2.2.2.1, hc _ h2.2.2.2.2.2.2.2.1, hc _ h2.2.2.2.2.2.2.2.2.1, hc _ h2.2.2.2.2.2.2.2.2.2.1, hc _ h2.2.2.2.2.2.2.2.2.2.2.1, hc _ h2.2.2.2.2.2.2.2.2.2.2.2.1, hc _ h2.2.2.2.2.2.2.2.2.2.2.2.2.1, hc _ h2.2.2.2.2.2.2.2.2.2.2.2.2.2.1, hc _ h2.2.2.2.2.2.2.2.2.2.2.2.2.2.2.1, hc _ h2.2.2.2.2.2.2.2.2.2.2.2.2.2.2.2.1, hc _ h2.2.2.2.2.2.2.2.2.2.2.2.2.2.2.2.2.1, hc _ h2.2.2.2.2.2.2.2.2.2.2.2.2.2.2.2.2.2.1, hc _ h2.2.2.2.2.2.2.2.2.2.2.2.2.2.2.2.2.2.2.1, hc _ h2.2.2.2.2.2.2.2.2.2.2.2.2.2.2.2.2.2.2.2.1, hc _ h2.2.2.2.2.2.2.2.2.2.2.2.2.2.2.2.2.2.2.2.2.1, hc _ h2.2.2.2.2.2.2.2.2.2.2.2.2.2.2.2.2.2.2.2.2.2.1, hc _ h2.2.2.2.2.2.2.2.2.2.2.2.2.2.2.2.2.2.2.2.2.2.2.1, hc _ h2.2.2.2.2.2.2.2.2.2.2.2.2.2.2.2.2.2.2.2.2.2.2.2.1, hc _ h2.2.2.2.2.2.2.2.2.2.2.2.2.2.2.2.2.2.2.2.2.2.2.2.2.1, hc _ h2.2.2.2.2.2.2.2.2.2.2.2.2.2.2.2.2.2.2.2.2.2.2.2.2.2.1, hc _ h2.2.2.2.2.2.2.2.2.2.2.2.2.2.2.2.2.2.2.2.2.2.2.2.2.2.2.1, hc _ h2.2.2.2.2.2.2.2.2.2.2.2.2.2.2.2.2.2.2.2.2.2.2.2.2.2.2.2.1, hc _ h2.2.2.2.2.2.2.2.2.2.2.2.2.2.2.2.2.2.2.2.2.2.2.2.2.2.2.2.2.1, hc _ h2.2.2.2.2.2.2.2.2.2.2.2.2.2.2.2.2.2.2.2.2.2.2.2.2.2.2.2.2.2.1, hc _ h2.2.2.2.2.2.2.2.2.2.2.2.2.2.2.2.2.2.2.2.2.2.2.2.2.2.2.2.2.2.2.1]
  | 8, _ => rfl
  | 9, _ => rfl
  | 10, _ => rfl
  | n + 11, _ => simp only [hF]
theorem wl_app {dA : Nat → ClassId} {F1 F2 : List Nat} {α : Nat → Nat} {σ : Mm} : wl dA (F1 ++ F2) α σ = wl dA F1 α σ ++ wl dA F2 α σ := List.map_append
theorem wl_fr {dA : Nat → ClassId} {F : List Nat} {α : Nat → Nat} {σ σ' : Mm} {k q : Nat} (hk : k ∉ F) (hf : ∀ j ∈ F, fr σ k j) (ho : ∀ j, j ≠ k → gI σ' j = gI σ j ∧ gJ σ' j = gJ σ j ∧ gR σ' j = gR σ j) : wl dA F (va_up α k q) σ' = wl dA F α σ := by
  unfold wl
  refine List.map_congr_left (fun j hj => ?_)
  have hne : j ≠ k := fun z => hk (z ▸ hj)
  obtain ⟨a, b, c⟩ := ho j hne
  rw [va_up_ne _ _ hne, ct_congr a b c rfl, ct_fr (hf j hj)]
/-- a slot that is free, and nobody names -/
def nwS (L : List Nat) (σ : Mm) (k : Nat) : Prop := k ∉ Fc ++ L ∧ ∀ j ∈ Fc ++ L, fr σ k j
def z_4 (σ : Mm) (k : Nat) (m : Int32) : Mm := (fun a b => if a = k then (if b = 0 then m else 0) else if k < a ∧ a ≤ k + 4 then 0 else σ.1 a b, fun a b => if a = k + 5 ∨ a = k + 6 then 0 else σ.2.1 a b, σ.2.2)
def z_5 (σ : Mm) (k : Nat) (u : Option Nat) : Mm := (fun a b => if k < a ∧ a ≤ k + 3 then 0 else σ.1 a b, σ.2.1, fun a b => if a = k then (if b = 0 then u else none) else σ.2.2 a b)
section NEWS
variable {p : Program} {l : Launch} {e : Env} {R : Room} {s : State} {m : MethodId} {args : Array Value} {below : List Frame} {meth : Method} {c : Code} {cells slots : Nat} {Q : State → Prop} {dC : Nat → ClassId} {dI : Nat → Nat → Nat} {dA : Nat → ClassId} {F L L0 : List Nat} {α α0 : Nat → Nat} {A : Nat → Prop} {nL : Nat} {σ : Mm} {pc : Nat} {lv lv' : List (Nat × Value)} {st : List Value} {cc : ByteArray} {own : String} {Ts : List Cond}
def z_0 (σ : Mm) (k : Nat) : Mm := (sI (sI (sI (sI (sR σ k 0 none) k 1 0) k 2 0) k 3 0) k 4 0)
theorem r_new_0 (hC : mC p s m args c cc own nL Ts dC dI dA A) {idx k : Nat} (hin : ∀ w ∈ u_ws RX0 TX0 5, w ∈ Ts) (h1 : Cond.classLink own idx RX0 ∈ Ts) (h2 : Cond.instantiable RX0 5 ∈ Ts) (h3 : Cond.initialized RX0 ∈ Ts) (hk : k ∉ Fc ++ L) (hkd : kd k = 0) (hf : ∀ j ∈ Fc ++ L, fr σ k j) (hcs : cells + 1 ≤ R.cells ∧ slots + 5 ≤ R.slots) (d : decode cc pc = .ok (.new idx, 3))
    (kk : ∀ α1 : Nat → Nat, (∀ j ∈ Fc ++ L, α1 j = α j) → G p l e R s m args below meth c (cells + 1) (slots + 5) Q dC dI dA (Fc ++ (L ++ [k])) α1 A nL (z_0 σ k) (pc + 3) lv (fO α1 (some k) :: st)) : G p l e R s m args below meth c cells slots Q dC dI dA (Fc ++ L) α A nL σ pc lv st := by
  intro H locs ls hW hl
  refine va_new (ci := 0) (fs := [.null, .int 0, .int 0, .int 0, .int 0]) (C := RX0) (T := TX0) (N := 5) hC.1 hC.2.1 hC.2.2.2.2.1 hin tyX0 tyX0_ok hC.2.2.2.1 (hC.2.2.2.2.1 _ h1) (hC.2.2.2.2.1 _ h2) (hC.2.2.2.2.1 _ h3) hC.2.2.2.2.2.1 hW.1 hW.2.1 hW.2.2 hC.2.2.2.2.2.2 rfl (fun j hj => by rcases (show j = 0 ∨ j = 1 ∨ j = 2 ∨ j = 3 ∨ j = 4 by omega) with rfl | rfl | rfl | rfl | rfl <;> rfl) hcs.1 hcs.2 d (fun q H1 hP hD hS => ?_)
  have e : wl dA (Fc ++ L) α σ ++ [(q, .inr (0, [.null, .int 0, .int 0, .int 0, .int 0]))] = wl dA (Fc ++ (L ++ [k])) (va_up α k q) (z_0 σ k) := by
    rw [← List.append_assoc, wl_app (F1 := Fc ++ L) (F2 := [k]), wl_fr (σ' := z_0 σ k) hk hf (fun j hj => ⟨by unfold z_0; simp only [gI_ne hj, gI_sR], by unfold z_0; simp only [gJ_sI, gJ_sR], by unfold z_0; simp only [gR_ne hj, gR_sI]⟩)]
    congr 1
    show _ = [(va_up α k q k, ct dA (va_up α k q) (z_0 σ k) k)]
    rw [va_up_self, ct_0 hkd]
    simp [z_0, gI_sI, gI_sR, gR_sI, gR_sR, fO, va_rf]
  rw [e] at hP hD
  have e2 : fO (va_up α k q) (some k) = .ref q := by show Value.ref (va_up α k q k) = .ref q; rw [va_up_self]
  rw [← e2]
  exact kk (va_up α k q) (fun j hj => va_up_ne _ _ (fun z => hk (z ▸ hj))) H1 locs ls ⟨hP, hD, hS⟩ hl
def z_1 (σ : Mm) (k : Nat) : Mm := (sI (sI (sI (sI (sI (sR σ k 0 none) k 1 0) k 2 0) k 3 0) k 4 0) k 5 0)
theorem r_new_1 (hC : mC p s m args c cc own nL Ts dC dI dA A) {idx k : Nat} (hin : ∀ w ∈ u_ws RX1 TX1 6, w ∈ Ts) (h1 : Cond.classLink own idx RX1 ∈ Ts) (h2 : Cond.instantiable RX1 6 ∈ Ts) (h3 : Cond.initialized RX1 ∈ Ts) (hk : k ∉ Fc ++ L) (hkd : kd k = 1) (hf : ∀ j ∈ Fc ++ L, fr σ k j) (hcs : cells + 1 ≤ R.cells ∧ slots + 6 ≤ R.slots) (d : decode cc pc = .ok (.new idx, 3))
    (kk : ∀ α1 : Nat → Nat, (∀ j ∈ Fc ++ L, α1 j = α j) → G p l e R s m args below meth c (cells + 1) (slots + 6) Q dC dI dA (Fc ++ (L ++ [k])) α1 A nL (z_1 σ k) (pc + 3) lv (fO α1 (some k) :: st)) : G p l e R s m args below meth c cells slots Q dC dI dA (Fc ++ L) α A nL σ pc lv st := by
  intro H locs ls hW hl
  refine va_new (ci := 1) (fs := [.null, .int 0, .int 0, .int 0, .int 0, .int 0]) (C := RX1) (T := TX1) (N := 6) hC.1 hC.2.1 hC.2.2.2.2.1 hin tyX1 tyX1_ok hC.2.2.2.1 (hC.2.2.2.2.1 _ h1) (hC.2.2.2.2.1 _ h2) (hC.2.2.2.2.1 _ h3) hC.2.2.2.2.2.1 hW.1 hW.2.1 hW.2.2 hC.2.2.2.2.2.2 rfl (fun j hj => by rcases (show j = 0 ∨ j = 1 ∨ j = 2 ∨ j = 3 ∨ j = 4 ∨ j = 5 by omega) with rfl | rfl | rfl | rfl | rfl | rfl <;> rfl) hcs.1 hcs.2 d (fun q H1 hP hD hS => ?_)
  have e : wl dA (Fc ++ L) α σ ++ [(q, .inr (1, [.null, .int 0, .int 0, .int 0, .int 0, .int 0]))] = wl dA (Fc ++ (L ++ [k])) (va_up α k q) (z_1 σ k) := by
    rw [← List.append_assoc, wl_app (F1 := Fc ++ L) (F2 := [k]), wl_fr (σ' := z_1 σ k) hk hf (fun j hj => ⟨by unfold z_1; simp only [gI_ne hj, gI_sR], by unfold z_1; simp only [gJ_sI, gJ_sR], by unfold z_1; simp only [gR_ne hj, gR_sI]⟩)]
    congr 1
    show _ = [(va_up α k q k, ct dA (va_up α k q) (z_1 σ k) k)]
    rw [va_up_self, ct_1 hkd]
    simp [z_1, gI_sI, gI_sR, gR_sI, gR_sR, fO, va_rf]
  rw [e] at hP hD
  have e2 : fO (va_up α k q) (some k) = .ref q := by show Value.ref (va_up α k q k) = .ref q; rw [va_up_self]
  rw [← e2]
  exact kk (va_up α k q) (fun j hj => va_up_ne _ _ (fun z => hk (z ▸ hj))) H1 locs ls ⟨hP, hD, hS⟩ hl
def z_3 (σ : Mm) (k : Nat) : Mm := (sR (sI (sI σ k 0 0) k 1 0) k 2 none)
theorem r_new_3 (hC : mC p s m args c cc own nL Ts dC dI dA A) {idx k : Nat} (hin : ∀ w ∈ u_ws RX3 TX3 3, w ∈ Ts) (h1 : Cond.classLink own idx RX3 ∈ Ts) (h2 : Cond.instantiable RX3 3 ∈ Ts) (h3 : Cond.initialized RX3 ∈ Ts) (hk : k ∉ Fc ++ L) (hkd : kd k = 3) (hf : ∀ j ∈ Fc ++ L, fr σ k j) (hcs : cells + 1 ≤ R.cells ∧ slots + 3 ≤ R.slots) (d : decode cc pc = .ok (.new idx, 3))
    (kk : ∀ α1 : Nat → Nat, (∀ j ∈ Fc ++ L, α1 j = α j) → G p l e R s m args below meth c (cells + 1) (slots + 3) Q dC dI dA (Fc ++ (L ++ [k])) α1 A nL (z_3 σ k) (pc + 3) lv (fO α1 (some k) :: st)) : G p l e R s m args below meth c cells slots Q dC dI dA (Fc ++ L) α A nL σ pc lv st := by
  intro H locs ls hW hl
  refine va_new (ci := 3) (fs := [.int 0, .int 0, .null]) (C := RX3) (T := TX3) (N := 3) hC.1 hC.2.1 hC.2.2.2.2.1 hin tyX3 tyX3_ok hC.2.2.2.1 (hC.2.2.2.2.1 _ h1) (hC.2.2.2.2.1 _ h2) (hC.2.2.2.2.1 _ h3) hC.2.2.2.2.2.1 hW.1 hW.2.1 hW.2.2 hC.2.2.2.2.2.2 rfl (fun j hj => by rcases (show j = 0 ∨ j = 1 ∨ j = 2 by omega) with rfl | rfl | rfl <;> rfl) hcs.1 hcs.2 d (fun q H1 hP hD hS => ?_)
  have e : wl dA (Fc ++ L) α σ ++ [(q, .inr (3, [.int 0, .int 0, .null]))] = wl dA (Fc ++ (L ++ [k])) (va_up α k q) (z_3 σ k) := by
    rw [← List.append_assoc, wl_app (F1 := Fc ++ L) (F2 := [k]), wl_fr (σ' := z_3 σ k) hk hf (fun j hj => ⟨by unfold z_3; simp only [gI_ne hj, gI_sR], by unfold z_3; simp only [gJ_sI, gJ_sR], by unfold z_3; simp only [gR_ne hj, gR_sI]⟩)]
    congr 1
    show _ = [(va_up α k q k, ct dA (va_up α k q) (z_3 σ k) k)]
    rw [va_up_self, ct_3 hkd]
    simp [z_3, gI_sI, gI_sR, gR_sI, gR_sR, fO, va_rf]
  rw [e] at hP hD
  have e2 : fO (va_up α k q) (some k) = .ref q := by show Value.ref (va_up α k q k) = .ref q; rw [va_up_self]
  rw [← e2]
  exact kk (va_up α k q) (fun j hj => va_up_ne _ _ (fun z => hk (z ▸ hj))) H1 locs ls ⟨hP, hD, hS⟩ hl
end NEWS
