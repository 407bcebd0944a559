/-! CALLS that may throw, and their catching -/
section WROWS
variable {p : Program} {l : Launch} {e : Env} {R : Room} {s : State} {m : MethodId} {args : Array Value} {below : List Frame} {meth : Method} {c : Code} {cells slots : Nat} {Q : State → Prop} {dC : Nat → ClassId} {dI : Nat → Nat → Nat} {dA : Nat → ClassId} {L L0 : List Nat} {α α0 : Nat → Nat} {A : Nat → Prop} {nL : Nat} {σ : Mm} {pc : Nat} {lv lv' : List (Nat × Value)} {st : List Value} {cc : ByteArray} {own : String} {Ts : List Cond}
theorem m_xrunV (hC : mC p s m args c cc own nL Ts dC dI dA A) (hX : xX A s) {y : MethodName} {C : String} {idx : Nat} {bytes : ByteArray} {maxL : Nat} {ret : Option FieldType} {ws ws' : List Cond} {rm : Room} {Qc : Nat → Array Value → State → Outcome → State → Prop} {XC : Nat → String → State → State → Prop} {k ci n : Nat} {fs : List Value} {T : u_T} {N : Nat} (As : List Value) (rest : List Value)
    (hM : ∀ sz, vx_Met l y ws rm (xP dC dI dA L α σ sz (fO α (some k) :: As)) (Qc sz) (XC sz) 16 2000 (va_A (wl dA (Fc ++ L) α σ) sz)) (hG : GoodIn Ts (wsV own idx C y ws)) (hw : ws = Cond.code y bytes maxL ret :: ws') (hrm : rm.cells = 16 ∧ rm.slots = 2000)
    (hd : y.cls = C ∧ y.cls ≠ "java/lang/invoke/MethodHandle" ∧ y.cls ≠ "java/lang/invoke/VarHandle" ∧ (parseMethodDescriptor y.desc).map (fun d => d.parameters.length) = some n) (hR : rm.frames + 1 ≤ R.frames ∧ 8 + (maxL + 11) + rm.locals ≤ R.locals)
    (hk : k ∈ Fc ++ L) (hct : ct dA α σ k = .inr (ci, fs)) (hc : vwCl[ci]? = some (C, T, N)) (hn : As.length = n) (hrest : (rest.map fun v => v.category).sum ≤ 8) (hcs : cells + 16 ≤ R.cells ∧ slots + 2000 ≤ R.slots) (d : decode cc pc = .ok (.invokevirtual idx, 3))
    (H : Heap) (locs : List Loc) (ls : Array Slot) (hW : mW s dC dI dA (Fc ++ L) α A σ H locs) (hl : lv_has ls nL lv) :
    vx_Run p l e R s m args below meth c H locs cells slots 16 2000 (F0 m pc ls (As.reverse ++ fO α (some k) :: rest)) rest (Qc H.size (fO α (some k) :: As).toArray) (XC H.size) (va_A (wl dA (Fc ++ L) α σ) H.size) := by
  obtain ⟨q, hq⟩ := wl_mem hk
  have hq2 := wl_at (dA := dA) (α := α) (σ := σ) hq
  rw [hct] at hq2
  have hf := w_self hW.2.1 hW.2.2 hC.2.2.2.2.2.2
  exact vx_runV (As := As) (rest := rest) (b := α k) ⟨hC.1, hC.2.1, hC.2.2.1, hC.2.2.2.1, hC.2.2.2.2.1⟩ (hM H.size) (cwV n hC.2.2.2.2.1 hG hw hrm.1 hrm.2 hd hR)
    ⟨xP_blind, va_recv hC.2.2.2.2.2.1 hW.1 (ci := ci) (q0 := q) hc hq2, fun U hU hWd => ⟨rfl, by rw [hU], by rw [hU]; exact hW.1, va_K.moved hWd.alike hC.2.2.2.2.2.1, hW.2.1.weaken (fun _ _ _ _ => trivial), xX.to hX hW.2.2 hU hWd hf⟩⟩ rfl hn hl.1 rfl (lv_room hrest) d hcs
theorem m_xback {H H1 : Heap} {locs1 : List Loc} {t : State} {u : Mm × List Nat} {w0 : va_W} (hA0 : ∀ q, va_A w0 H.size q → A q) (ht : t.heap = H1) (hB : cX dC dI dA L α w0 H.size u t) (hS : va_S A s.heap H1 locs1) : ∃ α1 : Nat → Nat, (∀ k ∈ Fc ++ L, α1 k = α k) ∧ mW s dC dI dA (Fc ++ u.2) α1 A u.1 H1 locs1 := by
  obtain ⟨α1, h1, h2, h3, h4⟩ := hB
  exact ⟨α1, h1, by rw [← ht]; exact h2, h4.weaken (fun _ _ _ h => hA0 _ h), hS⟩
/-- the handler's side: what is thrown lies in the heap -/
def GX (p : Program) (l : Launch) (e : Env) (R : Room) (s : State) (m : MethodId) (args : Array Value) (below : List Frame) (meth : Method) (c : Code) (cells slots : Nat) (Q : State → Prop) (dC : Nat → ClassId) (dI : Nat → Nat → Nat) (dA : Nat → ClassId) (F : List Nat) (α : Nat → Nat) (A : Nat → Prop) (nL : Nat) (σ : Mm) (pc : Nat) (lv : List (Nat × Value)) (rest : List Value) (E : String) : Prop :=
  ∀ (H : Heap) (locs : List Loc) (ls : Array Slot) (q : Addr) (ce : Cell), mW s dC dI dA F α A σ H locs → lv_has ls nL lv → H[q]? = some ce → ce.vm = .none → s.vm.findClass E = some ce.cls → vx_W p l e R s m args below meth c H locs cells slots Q (F0 m pc ls rest) q
theorem r_xcalli (hC : mC p s m args c cc own nL Ts dC dI dA A) {Qp : Int32 → Mm × List Nat → Prop} {Xm : Nat → Mm → List Nat → Prop} {st0 : List Value} {a : Array Value} (rest : List Value)
    (hr : ∀ (H : Heap) (locs : List Loc) (ls : Array Slot), mW s dC dI dA (Fc ++ L) α A σ H locs → lv_has ls nL lv → vx_Run p l e R s m args below meth c H locs cells slots 16 2000 (F0 m pc ls st0) rest (va_Qi Qp (cX dC dI dA L α (wl dA (Fc ++ L) α σ) H.size) (va_A (wl dA (Fc ++ L) α σ) H.size) a) (xXC dC dI dA L α (wl dA (Fc ++ L) α σ) H.size Xm) (va_A (wl dA (Fc ++ L) α σ) H.size))
    (kk : ∀ (r : Int32) (σ1 : Mm) (L1 : List Nat) (α1 : Nat → Nat), (∀ k ∈ Fc ++ L, α1 k = α k) → Qp r (σ1, L1) → G p l e R s m args below meth c (cells + 16) (slots + 2000) Q dC dI dA (Fc ++ L1) α1 A nL σ1 (pc + 3) lv (.int r :: rest))
    (kx : ∀ (en : Nat) (σ1 : Mm) (L1 : List Nat) (α1 : Nat → Nat), (∀ k ∈ Fc ++ L, α1 k = α k) → Xm en σ1 L1 → GX p l e R s m args below meth c (cells + 16) (slots + 2000) Q dC dI dA (Fc ++ L1) α1 A nL σ1 pc lv rest (xN en)) : G p l e R s m args below meth c cells slots Q dC dI dA (Fc ++ L) α A nL σ pc lv st0 := by
  intro H locs ls hW hl
  have hf := w_self hW.2.1 hW.2.2 hC.2.2.2.2.2.2
  refine vx_calli (hr H locs ls hW hl) hW.2.2 (fun q _ h => hf q h) hf (fun q _ h => hf q h) ?_ ?_
  · intro E ce q9 u t H1 locs1 ht hvm hw hB hz1 hk1 hS1 hce hcv hcl
    obtain ⟨hE, hB⟩ := hB
    subst hE
    obtain ⟨α1, hα, hW1⟩ := m_xback hf ht hB hS1
    exact kx u.1 u.2.1 u.2.2 α1 hα hw H1 locs1 ls q9 ce hW1 hl hce hcv hcl
  · intro r u t H1 locs1 ht hvm hw hB hz1 hk1 hS1
    obtain ⟨α1, hα, hW1⟩ := m_xback hf ht hB hS1
    exact kk r u.1 u.2 α1 hα hw H1 locs1 ls hW1 hl
theorem r_xcalll (hC : mC p s m args c cc own nL Ts dC dI dA A) {Qp : Int64 → Mm × List Nat → Prop} {Xm : Nat → Mm → List Nat → Prop} {st0 : List Value} {a : Array Value} (rest : List Value)
    (hr : ∀ (H : Heap) (locs : List Loc) (ls : Array Slot), mW s dC dI dA (Fc ++ L) α A σ H locs → lv_has ls nL lv → vx_Run p l e R s m args below meth c H locs cells slots 16 2000 (F0 m pc ls st0) rest (va_Ql Qp (cX dC dI dA L α (wl dA (Fc ++ L) α σ) H.size) (va_A (wl dA (Fc ++ L) α σ) H.size) a) (xXC dC dI dA L α (wl dA (Fc ++ L) α σ) H.size Xm) (va_A (wl dA (Fc ++ L) α σ) H.size))
    (kk : ∀ (r : Int64) (σ1 : Mm) (L1 : List Nat) (α1 : Nat → Nat), (∀ k ∈ Fc ++ L, α1 k = α k) → Qp r (σ1, L1) → G p l e R s m args below meth c (cells + 16) (slots + 2000) Q dC dI dA (Fc ++ L1) α1 A nL σ1 (pc + 3) lv (.long r :: rest))
    (kx : ∀ (en : Nat) (σ1 : Mm) (L1 : List Nat) (α1 : Nat → Nat), (∀ k ∈ Fc ++ L, α1 k = α k) → Xm en σ1 L1 → GX p l e R s m args below meth c (cells + 16) (slots + 2000) Q dC dI dA (Fc ++ L1) α1 A nL σ1 pc lv rest (xN en)) : G p l e R s m args below meth c cells slots Q dC dI dA (Fc ++ L) α A nL σ pc lv st0 := by
  intro H locs ls hW hl
  have hf := w_self hW.2.1 hW.2.2 hC.2.2.2.2.2.2
  refine vx_calll (hr H locs ls hW hl) hW.2.2 (fun q _ h => hf q h) hf (fun q _ h => hf q h) ?_ ?_
  · intro E ce q9 u t H1 locs1 ht hvm hw hB hz1 hk1 hS1 hce hcv hcl
    obtain ⟨hE, hB⟩ := hB
    subst hE
    obtain ⟨α1, hα, hW1⟩ := m_xback hf ht hB hS1
    exact kx u.1 u.2.1 u.2.2 α1 hα hw H1 locs1 ls q9 ce hW1 hl hce hcv hcl
  · intro r u t H1 locs1 ht hvm hw hB hz1 hk1 hS1
    obtain ⟨α1, hα, hW1⟩ := m_xback hf ht hB hS1
    exact kk r u.1 u.2 α1 hα hw H1 locs1 ls hW1 hl
theorem r_catch (hC : mC p s m args c cc own nL Ts dC dI dA A) (hX : xX A s) {en : Nat} {rest : List Value} (pre : List ExceptionTableEntry) (x : ExceptionTableEntry) (suf : List ExceptionTableEntry) (hsplit : c.exceptionTable.toList = pre ++ x :: suf) (hpass : ∀ z ∈ pre, ∃ nm : String, z.catchType ≠ 0 ∧ Cond.classLink own z.catchType nm ∈ Ts ∧ (xN en, nm) ∈ xNs) (hx : covers x pc = true) (h0 : x.catchType ≠ 0) (hlink : Cond.classLink own x.catchType (xN en) ∈ Ts) (hcs : (xN en, xN en) ∈ xCs) (kk : ∀ q : Nat, G p l e R s m args below meth c cells slots Q dC dI dA (Fc ++ L) α A nL σ x.handlerPc lv [.ref q]) : GX p l e R s m args below meth c cells slots Q dC dI dA (Fc ++ L) α A nL σ pc lv rest (xN en) := fun H locs ls q ce hW hl hce hcv hcl => vx_catch hC.2.2.2.1 pre x suf hsplit (fun z hz => by
    obtain ⟨nm, z0, z1, z2⟩ := hpass z hz
    exact Or.inr ⟨z0, nm, hC.2.2.2.2.1 _ z1, hX.2.2.2.2.1 _ z2⟩) hx h0 (hC.2.2.2.2.1 _ hlink) (va_Nw.use rfl (hX.2.2.2.1 _ hcs)) hce hcv hcl (kk q H locs ls hW hl)
theorem r_astoreQ (hC : mC p s m args c cc own nL Ts dC dI dA A) {i q : Nat} (d : decode cc pc = .ok (.astore i, 2)) (hn : i < nL) (h2 : (i, Value.ref q) :: lv.filter (fun q => !(q.1 == i) && !(q.1 + 1 == i && q.2.category == 2)) = lv') (kk : G p l e R s m args below meth c cells slots Q dC dI dA (Fc ++ L) α A nL σ (pc + 2) lv' st) : G p l e R s m args below meth c cells slots Q dC dI dA (Fc ++ L) α A nL σ pc lv (.ref q :: st) := fun H locs ls hW hl => lv_astore hC.1 hC.2.1 d hl hn h2 (fun ls hl => kk H locs ls hW hl)
theorem r_astoreQ_n (hC : mC p s m args c cc own nL Ts dC dI dA A) {k : Fin 4} {i q : Nat} (d : decode cc pc = .ok (.astore_n k, 1)) (hi : (k : Nat) = i) (hn : i < nL) (h2 : (i, Value.ref q) :: lv.filter (fun q => !(q.1 == i) && !(q.1 + 1 == i && q.2.category == 2)) = lv') (kk : G p l e R s m args below meth c cells slots Q dC dI dA (Fc ++ L) α A nL σ (pc + 1) lv' st) : G p l e R s m args below meth c cells slots Q dC dI dA (Fc ++ L) α A nL σ pc lv (.ref q :: st) := fun H locs ls hW hl => lv_astore_n hC.1 hC.2.1 d hi hl hn h2 (fun ls hl => kk H locs ls hW hl)
theorem m_wstart {l : Launch} {y : MethodName} {ws ws' : List Cond} {rm : Room} {dC : Nat → ClassId} {dI : Nat → Nat → Nat} {dA : Nat → ClassId} {L : List Nat} {α : Nat → Nat} {σ : Mm} {sz : Nat} {av : List Value} {Qc : Array Value → State → Outcome → State → Prop} {XC : String → State → State → Prop} {mc ms : Nat} {cc : ByteArray} {maxL : Nat} {ret : Option FieldType} {hh : List (Nat × Nat × Nat × Nat)} {own : String} {lv : List (Nat × Value)}
    (hy : plainName y.cls = true) (hw : ws = Cond.codeWith y cc maxL ret hh :: ws') (ho : y.cls = own) (hav : (lg_sl av).length ≤ maxL) (hlv : lv_args 0 av = lv)
    (body : ∀ (p : Program) (e : Env) (s : State) (m : MethodId) (below : List Frame) (meth : Method) (c : Code), s.heap.size = sz → mC p s m av.toArray c cc own maxL ws dC dI dA (va_A (wl dA (Fc ++ L) α σ) sz) → meth.sig.returnType = ret → meth.locks = false → c.exceptionTable.toList = tableOf hh → xX (va_A (wl dA (Fc ++ L) α σ) sz) s →
      G p l e rm s m av.toArray below meth c 0 0 (vx_MQ below Qc XC av.toArray s mc ms (va_A (wl dA (Fc ++ L) α σ) sz)) dC dI dA (Fc ++ L) α (va_A (wl dA (Fc ++ L) α σ) sz) maxL σ 0 lv []) : vx_Met l y ws rm (xP dC dI dA L α σ sz av) Qc XC mc ms (va_A (wl dA (Fc ++ L) α σ) sz) := by
  refine vx_ofWH (cc := cc) (maxL := maxL) (ret := ret) (hh := hh) hy hw ?_
  intro p e s m args below meth c s₁ B hml hv
  obtain ⟨rfl, hsz, hP, hK, hD0, hX⟩ := hv
  have hts := atoms_spec (ws := ws) B.pre
  have htab := vx_table (x := y) B (hts _ (by rw [hw]; exact List.mem_cons_self))
  have hown : s.vm.findClass own = some m.cls := by rw [← ho]; exact findClass_of_methodNamed B.named
  subst hsz
  have hD := hD0.self (sz := s.heap.size)
  have hl := lv_entry av (n := maxL) hav
  rw [hlv] at hl
  rw [lg_entry_eq]
  have hA : ∀ q : Nat, s.heap.size ≤ q → va_A (wl dA (Fc ++ L) α σ) s.heap.size q := fun q h => Or.inr h
  exact body p e s m below meth c rfl ⟨B.exec, B.bytes, hml, hown, hts, hK, hA⟩ B.returns B.notSynchronized htab hX s.heap [] _ ⟨hP, hD, va_S.rf⟩ hl
end WROWS
