/-! CONTRACTS over the pure memory: starts, ends, calls; loops and joins of the pure side -/
def lpw {S : Type} (body : (S → Prop) → S → Prop) : Nat → S → Prop
  | 0, _ => False
  | n + 1, s => body (lpw body n) s
theorem lpw_ind {S : Type} {body : (S → Prop) → S → Prop} (Pp : S → Prop) (hs : ∀ rec : S → Prop, (∀ s, rec s → Pp s) → ∀ s, body rec s → Pp s) : ∀ (n : Nat) (s : S), lpw body n s → Pp s
  | 0, _, h => False.elim h
  | n + 1, s, h => hs (lpw body n) (lpw_ind Pp hs n) s h
def LV (F : List Nat) (k kind : Nat) : Prop := k ∈ F ∧ kd k = kind
def zb (x : Int32) : Prop := narrow .boolean (.int x) = .int x
def cP (dC : Nat → ClassId) (dI : Nat → Nat → Nat) (dA : Nat → ClassId) (F : List Nat) (α : Nat → Nat) (σ : Mm) (sz : Nat) (av : List Value) : Array Value → State → Prop := va_Pc av (fun U => U.heap.size = sz ∧ va_P (dC, dI) vwCl (wl dA F α σ) U.heap ∧ va_K (dC, dI) vwCl (tysL dA) U ∧ va_D (fun _ => True) (wl dA F α σ))
def cB (dC : Nat → ClassId) (dI : Nat → Nat → Nat) (dA : Nat → ClassId) (F : List Nat) (α : Nat → Nat) (w0 : va_W) (sz : Nat) (σ' : Mm) (t : State) : Prop := va_P (dC, dI) vwCl (wl dA F α σ') t.heap ∧ va_K (dC, dI) vwCl (tysL dA) t ∧ va_D (va_A w0 sz) (wl dA F α σ')
theorem cP_blind {dC : Nat → ClassId} {dI : Nat → Nat → Nat} {dA : Nat → ClassId} {F : List Nat} {α : Nat → Nat} {σ : Mm} {sz : Nat} {av : List Value} : FrameBlind (cP dC dI dA F α σ sz av) := fun a U g mk q => ⟨q.1, q.2.1, q.2.2.1, va_K.moved (u := U) (U := U.calling g mk a) (Vm.Alike.refl U.vm) q.2.2.2.1, q.2.2.2.2⟩
theorem lva_O {α : Nat → Nat} {o : Option Nat} {n : Nat} {vs : List Value} : lv_args n (fO α o :: vs) = (n, fO α o) :: lv_args (n + 1) vs := by cases o <;> rfl
theorem lva_I {x : Int32} {n : Nat} {vs : List Value} : lv_args n (.int x :: vs) = (n, .int x) :: lv_args (n + 1) vs := rfl
theorem lva_J {x : Int64} {n : Nat} {vs : List Value} : lv_args n (.long x :: vs) = (n, .long x) :: lv_args (n + 2) vs := rfl
theorem lva_N {n : Nat} : lv_args n [] = [] := rfl
theorem lgl_O {α : Nat → Nat} {o : Option Nat} {vs : List Value} : (lg_sl (fO α o :: vs)).length = (lg_sl vs).length + 1 := by cases o <;> rfl
theorem lgl_I {x : Int32} {vs : List Value} : (lg_sl (.int x :: vs)).length = (lg_sl vs).length + 1 := rfl
theorem lgl_J {x : Int64} {vs : List Value} : (lg_sl (.long x :: vs)).length = (lg_sl vs).length + 2 := rfl
theorem lgl_N : (lg_sl []).length = 0 := rfl
theorem w_self {dA : Nat → ClassId} {F : List Nat} {α : Nat → Nat} {σ : Mm} {A : Nat → Prop} {s : State} {H : Heap} {locs : List Loc} (hD : va_D A (wl dA F α σ)) (hS : va_S A s.heap H locs) (hA : ∀ q, s.heap.size ≤ q → A q) : ∀ q, va_A (wl dA F α σ) H.size q → A q := by
  intro q hq
  rcases hq with ⟨k, ee, hk⟩ | hq
  · exact hD.2 k _ hk
  · exact hA q (Nat.le_trans hS.1 hq)
/-- the start of a method that returns -/
theorem m_start {l : Launch} {y : MethodName} {ws ws' : List Cond} {rm : Room} {dC : Nat → ClassId} {dI : Nat → Nat → Nat} {dA : Nat → ClassId} {F : List Nat} {α : Nat → Nat} {σ : Mm} {sz : Nat} {av : List Value} {Qc : Array Value → State → Outcome → State → Prop} {mc ms : Nat} {cc : ByteArray} {maxL : Nat} {ret : Option FieldType} {own : String} {lv : List (Nat × Value)}
    (hy : plainName y.cls = true) (hw : ws = Cond.code y cc maxL ret :: ws') (ho : y.cls = own) (hav : (lg_sl av).length ≤ maxL) (hlv : lv_args 0 av = lv)
    (body : ∀ (p : Program) (e : Env) (s : State) (m : MethodId) (below : List Frame) (meth : Method) (c : Code), s.heap.size = sz → mC p s m av.toArray c cc own maxL ws dC dI dA (va_A (wl dA F α σ) sz) → meth.sig.returnType = ret → meth.locks = false →
      G p l e rm s m av.toArray below meth c 0 0 (MQ below Qc av.toArray s mc ms (va_A (wl dA F α σ) sz)) dC dI dA F α (va_A (wl dA F α σ) sz) maxL σ 0 lv []) : Met l y ws rm (cP dC dI dA F α σ sz av) Qc mc ms (va_A (wl dA F α σ) sz) := by
  refine Met.ofW (cc := cc) (maxL := maxL) (ret := ret) hy hw ?_
  intro p e s m args below meth c s₁ B hml hv
  obtain ⟨rfl, hsz, hP, hK, hD0⟩ := hv
  have hts := atoms_spec (ws := ws) B.pre
  have hown : s.vm.findClass own = some m.cls := by rw [← ho]; exact findClass_of_methodNamed B.named
  subst hsz
  have hD := hD0.self (sz := s.heap.size)
  have hl := lv_entry av (n := maxL) hav
  rw [hlv] at hl
  rw [lg_entry_eq]
  have hA : ∀ q : Nat, s.heap.size ≤ q → va_A (wl dA F α σ) s.heap.size q := fun q h => Or.inr h
  exact body p e s m below meth c rfl ⟨B.exec, B.bytes, hml, hown, hts, hK, hA⟩ B.returns B.notSynchronized s.heap [] _ ⟨hP, hD, va_S.rf⟩ hl
/-- the start of a constructor -/
theorem m_startI {l : Launch} {y : MethodName} {ws ws' : List Cond} {rm : Room} {dC : Nat → ClassId} {dI : Nat → Nat → Nat} {dA : Nat → ClassId} {F : List Nat} {α : Nat → Nat} {σ : Mm} {sz : Nat} {av : List Value} {Qc : Array Value → State → Outcome → State → Prop} {mc ms : Nat} {cc : ByteArray} {maxL : Nat} {ret : Option FieldType} {own : String} {lv : List (Nat × Value)}
    (hy : plainName y.cls = true) (hw : ws = Cond.code y cc maxL ret :: ws') (ho : y.cls = own) (hav : (lg_sl av).length ≤ maxL) (hlv : lv_args 0 av = lv)
    (body : ∀ (p : Program) (e : Env) (s : State) (m : MethodId) (below : List Frame) (meth : Method) (c : Code), s.heap.size = sz → mC p s m av.toArray c cc own maxL ws dC dI dA (va_A (wl dA F α σ) sz) → meth.sig.returnType = ret → meth.locks = false → meth.name = y.name →
      G p l e rm s m av.toArray below meth c 0 0 (MQ below Qc av.toArray s mc ms (va_A (wl dA F α σ) sz)) dC dI dA F α (va_A (wl dA F α σ) sz) maxL σ 0 lv []) : Met l y ws rm (cP dC dI dA F α σ sz av) Qc mc ms (va_A (wl dA F α σ) sz) := by
  refine Met.ofW (cc := cc) (maxL := maxL) (ret := ret) hy hw ?_
  intro p e s m args below meth c s₁ B hml hv
  obtain ⟨rfl, hsz, hP, hK, hD0⟩ := hv
  have hts := atoms_spec (ws := ws) B.pre
  have hown : s.vm.findClass own = some m.cls := by rw [← ho]; exact findClass_of_methodNamed B.named
  subst hsz
  have hD := hD0.self (sz := s.heap.size)
  have hl := lv_entry av (n := maxL) hav
  rw [hlv] at hl
  rw [lg_entry_eq]
  have hA : ∀ q : Nat, s.heap.size ≤ q → va_A (wl dA F α σ) s.heap.size q := fun q h => Or.inr h
  exact body p e s m below meth c rfl ⟨B.exec, B.bytes, hml, hown, hts, hK, hA⟩ B.returns B.notSynchronized (name_of_methodNamed B.named B.method).1 s.heap [] _ ⟨hP, hD, va_S.rf⟩ hl
section CALLS
variable {p : Program} {l : Launch} {e : Env} {R : Room} {s : State} {m : MethodId} {args : Array Value} {below : List Frame} {meth : Method} {c : Code} {cells slots : Nat} {Q : State → Prop} {dC : Nat → ClassId} {dI : Nat → Nat → Nat} {dA : Nat → ClassId} {F : List Nat} {α : Nat → Nat} {A : Nat → Prop} {nL : Nat} {σ : Mm} {pc : Nat} {lv lv' : List (Nat × Value)} {st : List Value} {cc : ByteArray} {own : String} {Ts : List Cond}
theorem r_topi {x : Int32} (kk : ∀ y : Int32, y = x → G p l e R s m args below meth c cells slots Q dC dI dA F α A nL σ pc lv (.int y :: st)) : G p l e R s m args below meth c cells slots Q dC dI dA F α A nL σ pc lv (.int x :: st) := kk x rfl
theorem r_topl {x : Int64} (kk : ∀ y : Int64, y = x → G p l e R s m args below meth c cells slots Q dC dI dA F α A nL σ pc lv (.long y :: st)) : G p l e R s m args below meth c cells slots Q dC dI dA F α A nL σ pc lv (.long x :: st) := kk x rfl
theorem r_topo {x : Option Nat} (kk : ∀ y : Option Nat, y = x → G p l e R s m args below meth c cells slots Q dC dI dA F α A nL σ pc lv (fO α y :: st)) : G p l e R s m args below meth c cells slots Q dC dI dA F α A nL σ pc lv (fO α x :: st) := kk x rfl
theorem r_topm (kk : ∀ σ1 : Mm, σ1 = σ → G p l e R s m args below meth c cells slots Q dC dI dA F α A nL σ1 pc lv st) : G p l e R s m args below meth c cells slots Q dC dI dA F α A nL σ pc lv st := kk σ rfl
theorem r_lvs (ks : List Nat) (h : lv_pick lv ks = lv') (kk : G p l e R s m args below meth c cells slots Q dC dI dA F α A nL σ pc lv' st) : G p l e R s m args below meth c cells slots Q dC dI dA F α A nL σ pc lv st := fun H locs ls hW hl => kk H locs ls hW (lv_sub hl ks h)
theorem r_iret (hC : mC p s m args c cc own nL Ts dC dI dA A) {Qm : Int32 → Mm → Prop} {w0 : va_W} {sz : Nat} (hA : A = va_A w0 sz) (hr : meth.sig.returnType = some .int) (hlk : meth.locks = false) {x : Int32} (d : decode cc pc = .ok (.ireturn, 1)) (hq : Qm x σ) : G p l e R s m args below meth c cells slots (MQ below (va_Qi Qm (cB dC dI dA F α w0 sz) A) args s cells slots A) dC dI dA F α A nL σ pc lv ([.int x]) := by
  intro H locs ls hW hl
  exact W.iret (v := x) hC.1 hC.2.1 hr (fun t ht hWd => ⟨⟨x, σ, rfl, hq, ⟨by rw [ht]; exact hW.1, va_K.moved hWd.alike hC.2.2.2.2.2.1, by rw [← hA]; exact hW.2.1⟩⟩, hW.2.2.F ht⟩) hW.2.2.2.2 d hlk
theorem r_zret (hC : mC p s m args c cc own nL Ts dC dI dA A) {Qm : Int32 → Mm → Prop} {w0 : va_W} {sz : Nat} (hA : A = va_A w0 sz) (hr : meth.sig.returnType = some .boolean) (hlk : meth.locks = false) {x : Int32} (d : decode cc pc = .ok (.ireturn, 1)) (hz : zb x) (hq : Qm x σ) : G p l e R s m args below meth c cells slots (MQ below (va_Qi Qm (cB dC dI dA F α w0 sz) A) args s cells slots A) dC dI dA F α A nL σ pc lv ([.int x]) := by
  intro H locs ls hW hl
  exact W.zret (v := x) hC.1 hC.2.1 hr hz (fun t ht hWd => ⟨⟨x, σ, rfl, hq, ⟨by rw [ht]; exact hW.1, va_K.moved hWd.alike hC.2.2.2.2.2.1, by rw [← hA]; exact hW.2.1⟩⟩, hW.2.2.F ht⟩) hW.2.2.2.2 d hlk
theorem r_lret (hC : mC p s m args c cc own nL Ts dC dI dA A) {Qm : Int64 → Mm → Prop} {w0 : va_W} {sz : Nat} (hA : A = va_A w0 sz) (hr : meth.sig.returnType = some .long) (hlk : meth.locks = false) {x : Int64} (d : decode cc pc = .ok (.lreturn, 1)) (hq : Qm x σ) : G p l e R s m args below meth c cells slots (MQ below (va_Ql Qm (cB dC dI dA F α w0 sz) A) args s cells slots A) dC dI dA F α A nL σ pc lv ([.long x]) := by
  intro H locs ls hW hl
  exact W.lret (v := x) hC.1 hC.2.1 hr (fun t ht hWd => ⟨⟨x, σ, rfl, hq, ⟨by rw [ht]; exact hW.1, va_K.moved hWd.alike hC.2.2.2.2.2.1, by rw [← hA]; exact hW.2.1⟩⟩, hW.2.2.F ht⟩) hW.2.2.2.2 d hlk
theorem r_vret (hC : mC p s m args c cc own nL Ts dC dI dA A) {Qm : Mm → Prop} {w0 : va_W} {sz : Nat} (hA : A = va_A w0 sz) (hr : meth.sig.returnType = none) (hlk : meth.locks = false) (d : decode cc pc = .ok (.return_, 1)) (hq : Qm σ) : G p l e R s m args below meth c cells slots (MQ below (va_Qv Qm (cB dC dI dA F α w0 sz) A) args s cells slots A) dC dI dA F α A nL σ pc lv ([]) := by
  intro H locs ls hW hl
  exact W.vret hC.1 hC.2.1 hr (fun t ht hWd => ⟨⟨σ, rfl, hq, ⟨by rw [ht]; exact hW.1, va_K.moved hWd.alike hC.2.2.2.2.2.1, by rw [← hA]; exact hW.2.1⟩⟩, hW.2.2.F ht⟩) hW.2.2.2.2 d hlk
theorem r_aret (hC : mC p s m args c cc own nL Ts dC dI dA A) {Qm : Option Nat → Mm → Prop} {w0 : va_W} {sz : Nat} (hA : A = va_A w0 sz) {rt : String} (hr : meth.sig.returnType = some (.object rt)) (hlk : meth.locks = false) {x : Option Nat} (d : decode cc pc = .ok (.areturn, 1)) (hq : Qm x σ) : G p l e R s m args below meth c cells slots (MQ below (va_Qe α Qm (cB dC dI dA F α w0 sz) A) args s cells slots A) dC dI dA F α A nL σ pc lv [fO α x] := by
  intro H locs ls hW hl
  exact W.aret (v := fO α x) hC.1 hC.2.1 hr (Or.inl ⟨_, rfl⟩) (va_rf_or _) (fun t ht hWd => ⟨⟨x, σ, by rw [va_re_rf]; rfl, hq, ⟨by rw [ht]; exact hW.1, va_K.moved hWd.alike hC.2.2.2.2.2.1, by rw [← hA]; exact hW.2.1⟩⟩, hW.2.2.F ht⟩) hW.2.2.2.2 d hlk
theorem m_runV (hC : mC p s m args c cc own nL Ts dC dI dA A) {y : MethodName} {C : String} {idx : Nat} {bytes : ByteArray} {maxL : Nat} {ret : Option FieldType} {ws ws' : List Cond} {rm : Room} {Qc : Nat → Array Value → State → Outcome → State → Prop} {k ci n : Nat} {fs : List Value} {T : u_T} {N : Nat} (As : List Value) (rest : List Value)
    (hM : ∀ sz, Met l y ws rm (cP dC dI dA F α σ sz (fO α (some k) :: As)) (Qc sz) 0 0 (va_A (wl dA F α σ) sz)) (hG : GoodIn Ts (wsV own idx C y ws)) (hw : ws = Cond.code y bytes maxL ret :: ws') (hrm : rm.cells = 0 ∧ rm.slots = 0)
    (hd : y.cls = C ∧ y.cls ≠ "java/lang/invoke/MethodHandle" ∧ y.cls ≠ "java/lang/invoke/VarHandle" ∧ (parseMethodDescriptor y.desc).map (fun d => d.parameters.length) = some n) (hR : rm.frames + 1 ≤ R.frames ∧ 8 + (maxL + 11) + rm.locals ≤ R.locals)
    (hk : k ∈ F) (hct : ct dA α σ k = .inr (ci, fs)) (hc : vwCl[ci]? = some (C, T, N)) (hn : As.length = n) (hrest : (rest.map fun v => v.category).sum ≤ 8) (hcs : cells ≤ R.cells ∧ slots ≤ R.slots) (d : decode cc pc = .ok (.invokevirtual idx, 3))
    (H : Heap) (locs : List Loc) (ls : Array Slot) (hW : mW s dC dI dA F α A σ H locs) (hl : lv_has ls nL lv) :
    va_Run p l e R s m args below meth c H locs cells slots 0 0 (F0 m pc ls (As.reverse ++ fO α (some k) :: rest)) rest (Qc H.size (fO α (some k) :: As).toArray) (va_A (wl dA F α σ) H.size) := by
  obtain ⟨q, hq⟩ := wl_mem hk
  have hq2 := wl_at (dA := dA) (α := α) (σ := σ) hq
  rw [hct] at hq2
  exact va_runV (As := As) (rest := rest) (b := α k) ⟨hC.1, hC.2.1, hC.2.2.1, hC.2.2.2.1, hC.2.2.2.2.1⟩ (hM H.size) (cwV n hC.2.2.2.2.1 hG hw hrm.1 hrm.2 hd hR)
    ⟨cP_blind, va_recv hC.2.2.2.2.2.1 hW.1 (ci := ci) (q0 := q) hc hq2, fun U hU hWd => ⟨rfl, by rw [hU], by rw [hU]; exact hW.1, va_K.moved hWd.alike hC.2.2.2.2.2.1, hW.2.1.weaken (fun _ _ _ _ => trivial)⟩⟩ rfl hn hl.1 rfl (lv_room hrest) d hcs
theorem m_runS (hC : mC p s m args c cc own nL Ts dC dI dA A) {y : MethodName} {idx : Nat} {bytes : ByteArray} {maxL : Nat} {ret : Option FieldType} {ws ws' : List Cond} {rm : Room} {Qc : Nat → Array Value → State → Outcome → State → Prop} {n : Nat} (As : List Value) (rest : List Value)
    (hM : ∀ sz, Met l y ws rm (cP dC dI dA F α σ sz As) (Qc sz) 0 0 (va_A (wl dA F α σ) sz)) (hG : GoodIn Ts (va_wsS own idx y ws)) (hw : ws = Cond.code y bytes maxL ret :: ws') (hrm : rm.cells = 0 ∧ rm.slots = 0)
    (hd : y.cls ≠ "java/lang/invoke/MethodHandle" ∧ y.cls ≠ "java/lang/invoke/VarHandle" ∧ (parseMethodDescriptor y.desc).map (fun d => d.parameters.length) = some n) (hR : rm.frames + 1 ≤ R.frames ∧ 8 + (maxL + 11) + rm.locals ≤ R.locals)
    (hn : As.length = n) (hrest : (rest.map fun v => v.category).sum ≤ 8) (hcs : cells ≤ R.cells ∧ slots ≤ R.slots) (d : decode cc pc = .ok (.invokestatic idx, 3))
    (H : Heap) (locs : List Loc) (ls : Array Slot) (hW : mW s dC dI dA F α A σ H locs) (hl : lv_has ls nL lv) :
    va_Run p l e R s m args below meth c H locs cells slots 0 0 (F0 m pc ls (As.reverse ++ rest)) rest (Qc H.size As.toArray) (va_A (wl dA F α σ) H.size) := by
  exact va_runS (As := As) (rest := rest) ⟨hC.1, hC.2.1, hC.2.2.1, hC.2.2.2.1, hC.2.2.2.2.1⟩ (hM H.size) (va_cwS n hC.2.2.2.2.1 hG hw hrm.1 hrm.2 hd hR)
    ⟨cP_blind, fun U hU hWd => ⟨rfl, by rw [hU], by rw [hU]; exact hW.1, va_K.moved hWd.alike hC.2.2.2.2.2.1, hW.2.1.weaken (fun _ _ _ _ => trivial)⟩⟩ rfl hn hl.1 rfl (lv_room hrest) d hcs
theorem m_runI (hC : mC p s m args c cc own nL Ts dC dI dA A) {y : MethodName} {idx : Nat} {bytes : ByteArray} {maxL : Nat} {ws ws' : List Cond} {rm : Room} {Qc : Nat → Array Value → State → Outcome → State → Prop} {k n : Nat} (As : List Value) (rest : List Value)
    (hM : ∀ sz, Met l y ws rm (cP dC dI dA F α σ sz (fO α (some k) :: As)) (Qc sz) 0 0 (va_A (wl dA F α σ) sz)) (hG : GoodIn Ts ws) (hw : ws = Cond.code y bytes maxL none :: ws') (hrm : rm.cells = 0 ∧ rm.slots = 0) (hini : Cond.initialized y.cls ∈ Ts) (hlk : Cond.methodLink own idx y ∈ Ts) (hin : Cond.instanceMethod y ∈ Ts) (hy1 : y.name = "<init>")
    (hd : y.cls ≠ "java/lang/invoke/MethodHandle" ∧ y.cls ≠ "java/lang/invoke/VarHandle" ∧ (parseMethodDescriptor y.desc).map (fun d => d.parameters.length) = some n) (hR : rm.frames + 1 ≤ R.frames ∧ 8 + (maxL + 11) + rm.locals ≤ R.locals)
    (hn : As.length = n) (hrest : (rest.map fun v => v.category).sum ≤ 8) (hcs : cells ≤ R.cells ∧ slots ≤ R.slots) (d : decode cc pc = .ok (.invokespecial idx, 3))
    (H : Heap) (locs : List Loc) (ls : Array Slot) (hW : mW s dC dI dA F α A σ H locs) (hl : lv_has ls nL lv) :
    va_Run p l e R s m args below meth c H locs cells slots 0 0 (F0 m pc ls (As.reverse ++ fO α (some k) :: rest)) rest (Qc H.size (fO α (some k) :: As).toArray) (va_A (wl dA F α σ) H.size) := by
  exact va_runI (As := As) (rest := rest) (b := α k) ⟨hC.1, hC.2.1, hC.2.2.1, hC.2.2.2.1, hC.2.2.2.2.1⟩ (hM H.size) (cwI n hC.2.2.2.2.1 hG hw hrm.1 hrm.2 (hC.2.2.2.2.1 _ hini) (hC.2.2.2.2.1 _ hlk) (hC.2.2.2.2.1 _ hin) hy1 hd hR)
    ⟨cP_blind, fun U hU hWd => ⟨rfl, by rw [hU], by rw [hU]; exact hW.1, va_K.moved hWd.alike hC.2.2.2.2.2.1, hW.2.1.weaken (fun _ _ _ _ => trivial)⟩⟩ rfl hn hl.1 rfl (lv_room hrest) d hcs
theorem r_objinit (hC : mC p s m args c cc own nL Ts dC dI dA A) {idx k : Nat} (h1 : Cond.methodLink own idx Lib.objectInit ∈ Ts) (h2 : Cond.instanceMethod Lib.objectInit ∈ Ts) (h3 : Cond.code Lib.objectInit ⟨#[0xb1]⟩ 1 none ∈ Ts) (hR : 1 ≤ R.frames ∧ (st.map fun v => v.category).sum + 12 ≤ R.locals) (d : decode cc pc = .ok (.invokespecial idx, 3)) (kk : G p l e R s m args below meth c cells slots Q dC dI dA F α A nL σ (pc + 3) lv st) : G p l e R s m args below meth c cells slots Q dC dI dA F α A nL σ pc lv (fO α (some k) :: st) := fun H locs ls hW hl => W.objInit hC.1 hC.2.1 hC.2.2.2.1 (hC.2.2.2.2.1 _ h1) (hC.2.2.2.2.1 _ h2) (hC.2.2.2.2.1 _ h3) rfl (hl.1.trans hC.2.2.1.symm) rfl d hR.1 (by show 2 * 0 + _ + 12 ≤ _; omega) (kk H locs ls hW hl)
theorem mem_al {k j : Nat} {L : List Nat} (h : k ∈ Fc ++ L) : k ∈ Fc ++ (L ++ [j]) := by rw [← List.append_assoc]; exact List.mem_append_left _ h
theorem mem_nw {j : Nat} {L : List Nat} : j ∈ Fc ++ (L ++ [j]) := by rw [← List.append_assoc]; exact List.mem_append_right _ List.mem_cons_self
theorem m_back {H H1 : Heap} {locs1 : List Loc} {t : State} {σ1 : Mm} {w0 : va_W} (hA0 : ∀ q, va_A w0 H.size q → A q) (ht : t.heap = H1) (hB : cB dC dI dA F α w0 H.size σ1 t) (hS : va_S A s.heap H1 locs1) : mW s dC dI dA F α A σ1 H1 locs1 := ⟨by rw [← ht]; exact hB.1, hB.2.2.weaken (fun _ _ _ h => hA0 _ h), hS⟩
theorem r_calli (hC : mC p s m args c cc own nL Ts dC dI dA A) {Qm : Int32 → Mm → Prop} {st0 : List Value} {a : Array Value} (rest : List Value)
    (hr : ∀ (H : Heap) (locs : List Loc) (ls : Array Slot), mW s dC dI dA F α A σ H locs → lv_has ls nL lv → va_Run p l e R s m args below meth c H locs cells slots 0 0 (F0 m pc ls st0) rest (va_Qi Qm (cB dC dI dA F α (wl dA F α σ) H.size) (va_A (wl dA F α σ) H.size) a) (va_A (wl dA F α σ) H.size))
    (kk : ∀ (r : Int32) (σ1 : Mm), Qm r σ1 → G p l e R s m args below meth c cells slots Q dC dI dA F α A nL σ1 (pc + 3) lv (.int r :: rest)) : G p l e R s m args below meth c cells slots Q dC dI dA F α A nL σ pc lv st0 := by
  intro H locs ls hW hl
  have hf := w_self hW.2.1 hW.2.2 hC.2.2.2.2.2.2
  refine va_calli (hr H locs ls hW hl) hW.2.2 (fun q _ h => hf q h) hf (fun r u t H1 locs1 ht hvm hw hB hz1 hk1 hS => ?_)
  exact kk r u hw H1 locs1 ls (m_back hf ht hB hS) hl
theorem r_calll (hC : mC p s m args c cc own nL Ts dC dI dA A) {Qm : Int64 → Mm → Prop} {st0 : List Value} {a : Array Value} (rest : List Value)
    (hr : ∀ (H : Heap) (locs : List Loc) (ls : Array Slot), mW s dC dI dA F α A σ H locs → lv_has ls nL lv → va_Run p l e R s m args below meth c H locs cells slots 0 0 (F0 m pc ls st0) rest (va_Ql Qm (cB dC dI dA F α (wl dA F α σ) H.size) (va_A (wl dA F α σ) H.size) a) (va_A (wl dA F α σ) H.size))
    (kk : ∀ (r : Int64) (σ1 : Mm), Qm r σ1 → G p l e R s m args below meth c cells slots Q dC dI dA F α A nL σ1 (pc + 3) lv (.long r :: rest)) : G p l e R s m args below meth c cells slots Q dC dI dA F α A nL σ pc lv st0 := by
  intro H locs ls hW hl
  have hf := w_self hW.2.1 hW.2.2 hC.2.2.2.2.2.2
  refine va_calll (hr H locs ls hW hl) hW.2.2 (fun q _ h => hf q h) hf (fun r u t H1 locs1 ht hvm hw hB hz1 hk1 hS => ?_)
  exact kk r u hw H1 locs1 ls (m_back hf ht hB hS) hl
theorem r_callo (hC : mC p s m args c cc own nL Ts dC dI dA A) {Qm : Option Nat → Mm → Prop} {st0 : List Value} {a : Array Value} (rest : List Value)
    (hr : ∀ (H : Heap) (locs : List Loc) (ls : Array Slot), mW s dC dI dA F α A σ H locs → lv_has ls nL lv → va_Run p l e R s m args below meth c H locs cells slots 0 0 (F0 m pc ls st0) rest (va_Qe α Qm (cB dC dI dA F α (wl dA F α σ) H.size) (va_A (wl dA F α σ) H.size) a) (va_A (wl dA F α σ) H.size))
    (kk : ∀ (r : Option Nat) (σ1 : Mm), Qm r σ1 → G p l e R s m args below meth c cells slots Q dC dI dA F α A nL σ1 (pc + 3) lv (fO α r :: rest)) : G p l e R s m args below meth c cells slots Q dC dI dA F α A nL σ pc lv st0 := by
  intro H locs ls hW hl
  have hf := w_self hW.2.1 hW.2.2 hC.2.2.2.2.2.2
  refine va_calle (hr H locs ls hW hl) hW.2.2 (fun q _ h => hf q h) hf (fun r u t H1 locs1 ht hvm hw hB hz1 hk1 hS => ?_)
  rw [va_re_rf]
  exact kk r u hw H1 locs1 ls (m_back hf ht hB hS) hl
theorem r_callv (hC : mC p s m args c cc own nL Ts dC dI dA A) {Qm : Mm → Prop} {st0 : List Value} {a : Array Value} (rest : List Value)
    (hr : ∀ (H : Heap) (locs : List Loc) (ls : Array Slot), mW s dC dI dA F α A σ H locs → lv_has ls nL lv → va_Run p l e R s m args below meth c H locs cells slots 0 0 (F0 m pc ls st0) rest (va_Qv Qm (cB dC dI dA F α (wl dA F α σ) H.size) (va_A (wl dA F α σ) H.size) a) (va_A (wl dA F α σ) H.size))
    (kk : ∀ (σ1 : Mm), Qm σ1 → G p l e R s m args below meth c cells slots Q dC dI dA F α A nL σ1 (pc + 3) lv rest) : G p l e R s m args below meth c cells slots Q dC dI dA F α A nL σ pc lv st0 := by
  intro H locs ls hW hl
  have hf := w_self hW.2.1 hW.2.2 hC.2.2.2.2.2.2
  refine va_callv (hr H locs ls hW hl) hW.2.2 (fun q _ h => hf q h) hf (fun u t H1 locs1 ht hvm hw hB hz1 hk1 hS => ?_)
  exact kk u hw H1 locs1 ls (m_back hf ht hB hS) hl
theorem r_min (hC : mC p s m args c cc own nL Ts dC dI dA A) {idx : Nat} (h1 : Cond.methodLink own idx Lib.Math.min.name ∈ Ts) (h2 : Cond.static Lib.Math.min.name ∈ Ts) (h3 : Cond.initialized "java/lang/Math" ∈ Ts) (h4 : Cond.code Lib.Math.min.name Lib.Math.min.code 2 (some .int) ∈ Ts) (hR : 1 ≤ R.frames ∧ (st.map fun v => v.category).sum + 13 ≤ R.locals) (hcs : cells ≤ R.cells ∧ slots ≤ R.slots) {x y : Int32} (d : decode cc pc = .ok (.invokestatic idx, 3)) (kk : G p l e R s m args below meth c cells slots Q dC dI dA F α A nL σ (pc + 3) lv (.int (if y < x then y else x) :: st)) : G p l e R s m args below meth c cells slots Q dC dI dA F α A nL σ pc lv (.int y :: .int x :: st) := fun H locs ls hW hl => va_mmin hC.1 hC.2.1 (hC.2.2.1.trans hl.1.symm) hC.2.2.2.1 (hC.2.2.2.2.1 _ h1) (hC.2.2.2.2.1 _ h2) (hC.2.2.2.2.1 _ h3) (hC.2.2.2.2.1 _ h4) hR.1 hR.2 hcs.1 hcs.2 d (kk H locs ls hW hl)
theorem r_minl (hC : mC p s m args c cc own nL Ts dC dI dA A) {idx : Nat} (h1 : Cond.methodLink own idx Lib.MathLoose.min_long.x ∈ Ts) (h2 : Cond.static Lib.MathLoose.min_long.x ∈ Ts) (h3 : Cond.initialized "java/lang/Math" ∈ Ts) (h4 : Cond.code Lib.MathLoose.min_long.x Lib.MathLoose.min_long.code 4 (some .long) ∈ Ts) (hR : 1 ≤ R.frames ∧ (st.map fun v => v.category).sum + 15 ≤ R.locals) (hcs : cells ≤ R.cells ∧ slots ≤ R.slots) {x y : Int64} (d : decode cc pc = .ok (.invokestatic idx, 3)) (kk : G p l e R s m args below meth c cells slots Q dC dI dA F α A nL σ (pc + 3) lv (.long (if y < x then y else x) :: st)) : G p l e R s m args below meth c cells slots Q dC dI dA F α A nL σ pc lv (.long y :: .long x :: st) := fun H locs ls hW hl => va_mmin_long hC.1 hC.2.1 (hC.2.2.1.trans hl.1.symm) hC.2.2.2.1 (hC.2.2.2.2.1 _ h1) (hC.2.2.2.2.1 _ h2) (hC.2.2.2.2.1 _ h3) (hC.2.2.2.2.1 _ h4) hR.1 hR.2 hcs.1 hcs.2 d (kk H locs ls hW hl)
end CALLS
