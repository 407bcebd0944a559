section
-- ===== PART A: goes FIRST, ahead of the names: the tables' words, and 'selects' of the private methods out of them =====
/-- a private method of a class that the tables say can be made, by its rows of tables_1 -/
def lw_okq (q : MethodName × Nat) : Prop := (q.1.cls ≠ "java/lang/invoke/MethodHandle" ∧ q.1.cls ≠ "java/lang/invoke/VarHandle") ∧ Cond.instantiable q.1.cls q.2 ∈ tables_1 ∧ Cond.privateMethod q.1 ∈ tables_1 ∧ Cond.instanceMethod q.1 ∈ tables_1
theorem lw_p0 : lw_okq (⟨"Divisionorder", "settle", "()V"⟩, 20) := ⟨⟨by decide +kernel, by decide +kernel⟩, List.mem_of_getElem? (i := 16) (by decide +kernel), List.mem_of_getElem? (i := 119) (by decide +kernel), List.mem_of_getElem? (i := 120) (by decide +kernel)⟩
theorem lw_p1 : lw_okq (⟨"Divisionorder", "settleMonth", "(LDivisionorder$Unit;I)V"⟩, 20) := ⟨⟨by decide +kernel, by decide +kernel⟩, List.mem_of_getElem? (i := 16) (by decide +kernel), List.mem_of_getElem? (i := 123) (by decide +kernel), List.mem_of_getElem? (i := 124) (by decide +kernel)⟩
theorem lw_p2 : lw_okq (⟨"Divisionorder", "layDeck", "(LDivisionorder$Unit;I)V"⟩, 20) := ⟨⟨by decide +kernel, by decide +kernel⟩, List.mem_of_getElem? (i := 16) (by decide +kernel), List.mem_of_getElem? (i := 131) (by decide +kernel), List.mem_of_getElem? (i := 132) (by decide +kernel)⟩
theorem lw_p3 : lw_okq (⟨"Divisionorder", "layTract", "(LDivisionorder$Tract;I)V"⟩, 20) := ⟨⟨by decide +kernel, by decide +kernel⟩, List.mem_of_getElem? (i := 16) (by decide +kernel), List.mem_of_getElem? (i := 139) (by decide +kernel), List.mem_of_getElem? (i := 140) (by decide +kernel)⟩
theorem lw_p4 : lw_okq (⟨"Divisionorder", "readTitles", "(LDivisionorder$Tract;I)V"⟩, 20) := ⟨⟨by decide +kernel, by decide +kernel⟩, List.mem_of_getElem? (i := 16) (by decide +kernel), List.mem_of_getElem? (i := 143) (by decide +kernel), List.mem_of_getElem? (i := 144) (by decide +kernel)⟩
theorem lw_p5 : lw_okq (⟨"Divisionorder", "leaseThatCounts", "(LDivisionorder$Tract;II)LDivisionorder$Lease;"⟩, 20) := ⟨⟨by decide +kernel, by decide +kernel⟩, List.mem_of_getElem? (i := 16) (by decide +kernel), List.mem_of_getElem? (i := 147) (by decide +kernel), List.mem_of_getElem? (i := 148) (by decide +kernel)⟩
theorem lw_p6 : lw_okq (⟨"Divisionorder", "carriedOwners", "(LDivisionorder$Unit;I)I"⟩, 20) := ⟨⟨by decide +kernel, by decide +kernel⟩, List.mem_of_getElem? (i := 16) (by decide +kernel), List.mem_of_getElem? (i := 156) (by decide +kernel), List.mem_of_getElem? (i := 157) (by decide +kernel)⟩
theorem lw_p7 : lw_okq (⟨"Divisionorder", "bookCosts", "(LDivisionorder$Unit;II)V"⟩, 20) := ⟨⟨by decide +kernel, by decide +kernel⟩, List.mem_of_getElem? (i := 16) (by decide +kernel), List.mem_of_getElem? (i := 166) (by decide +kernel), List.mem_of_getElem? (i := 167) (by decide +kernel)⟩
theorem lw_p8 : lw_okq (⟨"Divisionorder", "partByWorking", "(JI)V"⟩, 20) := ⟨⟨by decide +kernel, by decide +kernel⟩, List.mem_of_getElem? (i := 16) (by decide +kernel), List.mem_of_getElem? (i := 170) (by decide +kernel), List.mem_of_getElem? (i := 171) (by decide +kernel)⟩
theorem lw_p9 : lw_okq (⟨"Divisionorder$Parting", "giveOne", "()V"⟩, 3) := ⟨⟨by decide +kernel, by decide +kernel⟩, List.mem_of_getElem? (i := 34) (by decide +kernel), List.mem_of_getElem? (i := 178) (by decide +kernel), List.mem_of_getElem? (i := 179) (by decide +kernel)⟩
theorem lw_p10 : lw_okq (⟨"Divisionorder", "bookRevenue", "(LDivisionorder$Unit;II)V"⟩, 20) := ⟨⟨by decide +kernel, by decide +kernel⟩, List.mem_of_getElem? (i := 16) (by decide +kernel), List.mem_of_getElem? (i := 184) (by decide +kernel), List.mem_of_getElem? (i := 185) (by decide +kernel)⟩
theorem lw_p11 : lw_okq (⟨"Divisionorder", "revenueOf", "(LDivisionorder$Unit;I)J"⟩, 20) := ⟨⟨by decide +kernel, by decide +kernel⟩, List.mem_of_getElem? (i := 16) (by decide +kernel), List.mem_of_getElem? (i := 188) (by decide +kernel), List.mem_of_getElem? (i := 189) (by decide +kernel)⟩
theorem lw_p12 : lw_okq (⟨"Divisionorder", "taxIn", "(I)I"⟩, 20) := ⟨⟨by decide +kernel, by decide +kernel⟩, List.mem_of_getElem? (i := 16) (by decide +kernel), List.mem_of_getElem? (i := 192) (by decide +kernel), List.mem_of_getElem? (i := 193) (by decide +kernel)⟩
theorem lw_p13 : lw_okq (⟨"Divisionorder", "settledOwed", "(I)J"⟩, 20) := ⟨⟨by decide +kernel, by decide +kernel⟩, List.mem_of_getElem? (i := 16) (by decide +kernel), List.mem_of_getElem? (i := 199) (by decide +kernel), List.mem_of_getElem? (i := 200) (by decide +kernel)⟩
theorem lw_p14 : lw_okq (⟨"java/lang/Throwable", "fillInStackTrace", "(I)Ljava/lang/Throwable;"⟩, 6) := ⟨⟨by decide +kernel, by decide +kernel⟩, List.mem_of_getElem? (i := 255) (by decide +kernel), List.mem_of_getElem? (i := 253) (by decide +kernel), List.mem_of_getElem? (i := 254) (by decide +kernel)⟩
theorem lw_p15 : lw_okq (⟨"Divisionorder", "tractAt", "(I)LDivisionorder$Tract;"⟩, 20) := ⟨⟨by decide +kernel, by decide +kernel⟩, List.mem_of_getElem? (i := 16) (by decide +kernel), List.mem_of_getElem? (i := 356) (by decide +kernel), List.mem_of_getElem? (i := 357) (by decide +kernel)⟩
def lw_privs_1 : List (MethodName × Nat) := [(⟨"Divisionorder", "settle", "()V"⟩, 20), (⟨"Divisionorder", "settleMonth", "(LDivisionorder$Unit;I)V"⟩, 20), (⟨"Divisionorder", "layDeck", "(LDivisionorder$Unit;I)V"⟩, 20), (⟨"Divisionorder", "layTract", "(LDivisionorder$Tract;I)V"⟩, 20), (⟨"Divisionorder", "readTitles", "(LDivisionorder$Tract;I)V"⟩, 20), (⟨"Divisionorder", "leaseThatCounts", "(LDivisionorder$Tract;II)LDivisionorder$Lease;"⟩, 20), (⟨"Divisionorder", "carriedOwners", "(LDivisionorder$Unit;I)I"⟩, 20), (⟨"Divisionorder", "bookCosts", "(LDivisionorder$Unit;II)V"⟩, 20), (⟨"Divisionorder", "partByWorking", "(JI)V"⟩, 20), (⟨"Divisionorder$Parting", "giveOne", "()V"⟩, 3), (⟨"Divisionorder", "bookRevenue", "(LDivisionorder$Unit;II)V"⟩, 20), (⟨"Divisionorder", "revenueOf", "(LDivisionorder$Unit;I)J"⟩, 20), (⟨"Divisionorder", "taxIn", "(I)I"⟩, 20), (⟨"Divisionorder", "settledOwed", "(I)J"⟩, 20), (⟨"java/lang/Throwable", "fillInStackTrace", "(I)Ljava/lang/Throwable;"⟩, 6), (⟨"Divisionorder", "tractAt", "(I)LDivisionorder$Tract;"⟩, 20)]
theorem lw_r1 : ∀ q ∈ lw_privs_1, lw_okq q := List.forall_mem_cons.mpr ⟨lw_p0, List.forall_mem_cons.mpr ⟨lw_p1, List.forall_mem_cons.mpr ⟨lw_p2, List.forall_mem_cons.mpr ⟨lw_p3, List.forall_mem_cons.mpr ⟨lw_p4, List.forall_mem_cons.mpr ⟨lw_p5, List.forall_mem_cons.mpr ⟨lw_p6, List.forall_mem_cons.mpr ⟨lw_p7, List.forall_mem_cons.mpr ⟨lw_p8, List.forall_mem_cons.mpr ⟨lw_p9, List.forall_mem_cons.mpr ⟨lw_p10, List.forall_mem_cons.mpr ⟨lw_p11, List.forall_mem_cons.mpr ⟨lw_p12, List.forall_mem_cons.mpr ⟨lw_p13, List.forall_mem_cons.mpr ⟨lw_p14, List.forall_mem_cons.mpr ⟨lw_p15, fun _ h => absurd h List.not_mem_nil⟩⟩⟩⟩⟩⟩⟩⟩⟩⟩⟩⟩⟩⟩⟩⟩
theorem lw_p16 : lw_okq (⟨"Divisionorder", "isMonth", "(I)Z"⟩, 20) := ⟨⟨by decide +kernel, by decide +kernel⟩, List.mem_of_getElem? (i := 16) (by decide +kernel), List.mem_of_getElem? (i := 360) (by decide +kernel), List.mem_of_getElem? (i := 361) (by decide +kernel)⟩
theorem lw_p17 : lw_okq (⟨"Divisionorder", "leastTitle", "(LDivisionorder$Tract;II)I"⟩, 20) := ⟨⟨by decide +kernel, by decide +kernel⟩, List.mem_of_getElem? (i := 16) (by decide +kernel), List.mem_of_getElem? (i := 366) (by decide +kernel), List.mem_of_getElem? (i := 367) (by decide +kernel)⟩
theorem lw_p18 : lw_okq (⟨"Divisionorder", "titleOf", "(LDivisionorder$Tract;II)I"⟩, 20) := ⟨⟨by decide +kernel, by decide +kernel⟩, List.mem_of_getElem? (i := 16) (by decide +kernel), List.mem_of_getElem? (i := 370) (by decide +kernel), List.mem_of_getElem? (i := 371) (by decide +kernel)⟩
theorem lw_p19 : lw_okq (⟨"Divisionorder", "unsettle", "(I)V"⟩, 20) := ⟨⟨by decide +kernel, by decide +kernel⟩, List.mem_of_getElem? (i := 16) (by decide +kernel), List.mem_of_getElem? (i := 404) (by decide +kernel), List.mem_of_getElem? (i := 405) (by decide +kernel)⟩
theorem lw_p20 : lw_okq (⟨"Divisionorder", "hasTractOfUnit", "(I)Z"⟩, 20) := ⟨⟨by decide +kernel, by decide +kernel⟩, List.mem_of_getElem? (i := 16) (by decide +kernel), List.mem_of_getElem? (i := 463) (by decide +kernel), List.mem_of_getElem? (i := 464) (by decide +kernel)⟩
theorem lw_p21 : lw_okq (⟨"Divisionorder", "unitAt", "(I)LDivisionorder$Unit;"⟩, 20) := ⟨⟨by decide +kernel, by decide +kernel⟩, List.mem_of_getElem? (i := 16) (by decide +kernel), List.mem_of_getElem? (i := 511) (by decide +kernel), List.mem_of_getElem? (i := 512) (by decide +kernel)⟩
theorem lw_p22 : lw_okq (⟨"Divisionorder", "wellAt", "(I)LDivisionorder$Well;"⟩, 20) := ⟨⟨by decide +kernel, by decide +kernel⟩, List.mem_of_getElem? (i := 16) (by decide +kernel), List.mem_of_getElem? (i := 545) (by decide +kernel), List.mem_of_getElem? (i := 546) (by decide +kernel)⟩
theorem lw_p23 : lw_okq (⟨"Divisionorder", "unitIn", "(II)LDivisionorder$Unit;"⟩, 20) := ⟨⟨by decide +kernel, by decide +kernel⟩, List.mem_of_getElem? (i := 16) (by decide +kernel), List.mem_of_getElem? (i := 598) (by decide +kernel), List.mem_of_getElem? (i := 599) (by decide +kernel)⟩
def lw_privs_2 : List (MethodName × Nat) := [(⟨"Divisionorder", "isMonth", "(I)Z"⟩, 20), (⟨"Divisionorder", "leastTitle", "(LDivisionorder$Tract;II)I"⟩, 20), (⟨"Divisionorder", "titleOf", "(LDivisionorder$Tract;II)I"⟩, 20), (⟨"Divisionorder", "unsettle", "(I)V"⟩, 20), (⟨"Divisionorder", "hasTractOfUnit", "(I)Z"⟩, 20), (⟨"Divisionorder", "unitAt", "(I)LDivisionorder$Unit;"⟩, 20), (⟨"Divisionorder", "wellAt", "(I)LDivisionorder$Well;"⟩, 20), (⟨"Divisionorder", "unitIn", "(II)LDivisionorder$Unit;"⟩, 20)]
theorem lw_r2 : ∀ q ∈ lw_privs_2, lw_okq q := List.forall_mem_cons.mpr ⟨lw_p16, List.forall_mem_cons.mpr ⟨lw_p17, List.forall_mem_cons.mpr ⟨lw_p18, List.forall_mem_cons.mpr ⟨lw_p19, List.forall_mem_cons.mpr ⟨lw_p20, List.forall_mem_cons.mpr ⟨lw_p21, List.forall_mem_cons.mpr ⟨lw_p22, List.forall_mem_cons.mpr ⟨lw_p23, fun _ h => absurd h List.not_mem_nil⟩⟩⟩⟩⟩⟩⟩⟩
def lw_privs : List (MethodName × Nat) := lw_privs_1 ++ (lw_privs_2)
def lw_tbl : List Cond := k2_sels lw_privs ++ tables_1
theorem lw_privs_ok : ∀ q ∈ lw_privs, lw_okq q := by
  show ∀ q ∈ lw_privs_1 ++ (lw_privs_2), lw_okq q
  exact List.forall_mem_append.mpr ⟨lw_r1, lw_r2⟩
end
section
/-! ===== BEGIN words of one list among another's, by their places ===== -/
theorem goodIn_r {big : List Cond} (ws : List Cond) (ps : List Nat) (hp : ws = ps.filterMap (fun i => big[i]?)) (h : ws.all goodWord = true) : GoodIn big ws := by
  intro w hw
  have h1 := List.all_eq_true.mp h w hw
  rw [hp] at hw
  obtain ⟨i, -, hi⟩ := List.mem_filterMap.mp hw
  have hm : w ∈ big := by first | exact List.mem_of_getElem? hi | exact List.getElem?_mem hi
  exact ⟨hm, good_of_word h1⟩
theorem goodIn_app {big a b : List Cond} (ha : GoodIn big a) (hb : GoodIn big b) : GoodIn big (a ++ b) := fun w h => (List.mem_append.mp h).elim (ha w) (hb w)
theorem goodIn_ca {big a b : List Cond} {c : Cond} (ha : GoodIn big (c :: a)) (hb : GoodIn big b) : GoodIn big (c :: (a ++ b)) := fun w h => (List.mem_cons.mp h).elim (fun e => ha w (List.mem_cons.mpr (Or.inl e))) (fun h => (List.mem_append.mp h).elim (fun h => ha w (List.mem_cons.mpr (Or.inr h))) (hb w))
theorem goodIn_sub {big ws : List Cond} (hm : ∀ w ∈ ws, w ∈ big) (h : ws.all goodWord = true) : GoodIn big ws := fun w hw => ⟨hm w hw, good_of_word (List.all_eq_true.mp h w hw)⟩
/-! ===== END ===== -/

/-! ===== BEGIN exceptions that leave a method, and their catching by the caller (launches without stack traces) ===== -/
section VXA
/-! The laws vx_back, vx_callV, vx_callS, vx_callSW, vx_throw0, vx_throwS follow proofs of the library, with one case more: JvmDerived/Free/Laws.lean (Back.of_free), Shelf42/LK1.lean (callV, callS), Shelf/KitTraced.lean (throwNew0V, throwNewS). -/
/-- where a method has thrown q: the class by its name, the cell, what was written, the world -/
def vx_T (XC : String → State → State → Prop) (st : State) (q : Addr) (t : State) (mc ms : Nat) (free : Addr → Prop) : Prop :=
  ∃ (E : String) (ce : Cell) (L : List Loc), XC E st t ∧ t.heap[q]? = some ce ∧ ce.vm = .none ∧ st.vm.findClass E = some ce.cls ∧ st.WarmedH t.vm ∧ st.sameButNew ({ t with vm := st.vm } : State) L mc ms ∧ ∀ z ∈ L, free z.base
def vx_Q (Qc : Array Value → State → Outcome → State → Prop) (XC : String → State → State → Prop) (mc ms : Nat) (free : Addr → Prop) : Array Value → State → Outcome → State → Prop := fun a st o t =>
  (Qc a st o t ∧ ∃ L, FrameEnd st o t L mc ms ∧ ∀ q ∈ L, free q.base) ∨ ∃ q, o = .threw q ∧ vx_T XC st q t mc ms free
/-- a callee that returns or throws -/
def vx_Met (l : Launch) (y : MethodName) (ws : List Cond) (rm : Room) (Pc : Array Value → State → Prop) (Qc : Array Value → State → Outcome → State → Prop) (XC : String → State → State → Prop) (mc ms : Nat) (free : Addr → Prop) : Prop :=
  MetFree l y (headSpec ws rm) Pc (fun _ _ _ _ _ => True) (vx_Q Qc XC mc ms free)
def vx_Post (XC : String → State → State → Prop) (mc ms : Nat) (free : Addr → Prop) : Pt → Array Value → Addr → Pt → Prop := fun A a q B =>
  ∃ (g : JFrame) (mk : MethodId) (t : State) (L : List Loc) (E : String) (ce : Cell), B.U.heap = t.heap ∧ B.U.vm = t.vm ∧ XC E (A.U.calling g mk a) t ∧ t.heap[q]? = some ce ∧ ce.vm = .none ∧ A.U.vm.findClass E = some ce.cls ∧ B.locs = A.locs ++ L ∧ (∀ z ∈ L, free z.base) ∧ B.cells = A.cells + mc ∧ B.slots = A.slots + ms
def vx_Back (l : Launch) (R : Room) (p : Program) (e : Env) (below : List Frame) (s : State) (sargs : Array Value) (y : MethodName) (len W9 : Nat)
    (Pre : Pt → Array Value → Prop) (Post : Pt → Array Value → Option Value → Pt → Prop) (PostX : Pt → Array Value → Addr → Pt → Prop) : Prop :=
  ∀ (m : MethodId) (meth : Method) (c : Code) (A : Pt) (g : JFrame) (ig : Instr) (mk : MethodId) (a : Array Value),
    Stand p l e R s m sargs below meth c A.U A.locs A.cells A.slots → g.method = m → g.locals.size = c.maxLocals → decode c.code g.pc = .ok (ig, len) →
    2 * g.monitorRoom + (g.stack.map fun v => v.category).sum ≤ W9 → A.U.methodNamed? y = some mk → Pre A a →
    (∃ (v : Option Value) (B : Pt), Stand p l e R s m sargs below meth c B.U B.locs B.cells B.slots ∧ Post A a v B ∧
      Steps p.tables e below (doInvoke e (A.U.setTop g) [] mk a).1 (B.U.setTop { g with pc := g.pc + len, stack := v.toList ++ g.stack })) ∨
    (∃ (q : Addr) (B : Pt), Stand p l e R s m sargs below meth c B.U B.locs B.cells B.slots ∧ PostX A a q B ∧
      Steps p.tables e below (doInvoke e (A.U.setTop g) [] mk a).1 ((B.U.setTop g).pushFrame (.throwing q)))
section Payer
variable {l : Launch} {R : Room} {p : Program} {e : Env} {below : List Frame} {s : State} {sargs : Array Value} {y : MethodName} {len W9 : Nat}
theorem vx_back {ws : List Cond} {rm : Room} {Pc : Array Value → State → Prop} {Qc : Array Value → State → Outcome → State → Prop} {XC : String → State → State → Prop} {mc ms : Nat} {free : Addr → Prop} {bytes : ByteArray} {maxL : Nat} {ret : Option FieldType}
    (hM : vx_Met l y ws rm Pc Qc XC mc ms free) (hblind : FrameBlind Pc) (hrc : rm.cells = mc) (hrs : rm.slots = ms)
    (hframes : rm.frames + 1 ≤ R.frames) (hlocals : W9 + (maxL + 11) + rm.locals ≤ R.locals)
    (hws : ∀ w ∈ ws, ∀ a' U, s.WarmedH U.vm → w.before a' U = true) (hcode : Cond.code y bytes maxL ret ∈ ws) (hinit : ∀ a' U, s.WarmedH U.vm → (Cond.initialized y.cls).before a' U = true) :
    vx_Back l R p e below s sargs y len W9 (PreOf R mc ms Pc) (PostOf Qc mc ms free) (vx_Post XC mc ms free) := by
  intro m meth c A g ig mk a X hg hsize hdg hW hn hp
  have h1 : (headSpec ws rm).pre.before a A.U = true := atoms_intro fun w hw => hws w hw _ _ X.warmed
  have h2 : (Cond.code y bytes maxL ret).before a A.U = true := hws _ hcode _ _ X.warmed
  have h3 : (Cond.initialized y.cls).before a A.U = true := hinit _ _ X.warmed
  have h4 : A.cells + (headSpec ws rm).room.cells ≤ R.cells := by rw [show (headSpec ws rm).room.cells = mc from hrc]; exact hp.1
  have h5 : A.slots + (headSpec ws rm).room.slots ≤ R.slots := by rw [show (headSpec ws rm).room.slots = ms from hrs]; exact hp.2.1
  have hPc : Pc a (A.U.calling g mk a) := hblind _ _ _ _ hp.2.2
  obtain ⟨U, Ls, c0, s0⟩ := A
  dsimp only [Pt.U, Pt.locs, Pt.cells, Pt.slots] at h1 h2 h3 h4 h5 X hn hPc ⊢
  obtain ⟨methY, cY, hmY, hcY, -, hlY, -, -, -, -⟩ := Cond.code_spec hn h2
  obtain ⟨kY, hkY, -⟩ := className_of_methodNamed hn
  have hinitY : kY.init = .initialized := Cond.initialized_spec (findClass_of_methodNamed hn) hkY h3
  have h : At U g.method c below := by rw [hg]; exact X.here
  have hlocals9 : W9 + (maxL + 11) + (headSpec ws rm).room.locals ≤ R.locals := hlocals
  have happ : (headSpec ws rm).appliesLoose y e.platform (U.calling g mk a) = true :=
    Spec.appliesLoose_calling (g := g) h hdg hn hkY hinitY
      (X.room_calling (g := g) (R' := (headSpec ws rm).room) hsize hmY hcY hframes (by rw [hlY]; omega) h4 h5) h1
  obtain ⟨mid, hmid⟩ := h.above
  have hfr : (U.setTop g).frames = (.java g :: mid) ++ below := by rw [State.frames_setTop' g h.top, hmid]; rfl
  obtain ⟨o, s₂, hsteps, -, hend, hq⟩ := Steps.callFree hM p X.admits X.cas X.clock (acts := []) hfr happ hPc trivial
  have hq' : vx_Q Qc XC mc ms free a (U.calling g mk a) o s₂ := hq
  rw [State.frames_setTop' g h.top] at hend
  obtain ⟨g₀, hg0⟩ := Option.isSome_iff_exists.mp h.top
  obtain ⟨r, hr⟩ := State.topJava?_eq_some.mp hg0
  have hr' : (({ U with heap := s₂.heap, slotsUsed := s₂.slotsUsed } : State).setVm s₂.vm).frames = .java g₀ :: r := hr
  rcases hq' with ⟨hqc, L, hfe, hL⟩ | ⟨q, rfl, E, ce, L, hx, hce, hcv, hcl, hW₂, hsm, hL⟩
  · obtain ⟨⟨v, rfl⟩, hW₂, e2, q2, q3, q4, q5, q6⟩ := id hfe
    have e3 : s₂ = ({ (U.calling g mk a).setFrames s₂.frames with heap := s₂.heap, slotsUsed := s₂.slotsUsed } : State).setVm s₂.vm := by
      have : s₂ = ({ s₂ with vm := (U.calling g mk a).vm } : State).setVm s₂.vm := rfl
      rw [e2] at this
      exact this
    obtain ⟨c₂, i₂, len₂, hc₂, hd₂, hf₂⟩ := hend
    have hW' : U.WarmedH s₂.vm := hW₂
    have hcc : c₂ = c := by
      have h1 : s₂.code? g.method = U.code? g.method := by
        rw [State.code?_eq, State.code?_eq, hW'.alike.method?]
      exact Option.some.inj (hc₂.symm.trans (h1.trans h.code))
    subst hcc
    have hlen : len₂ = len := by rw [hdg] at hd₂; cases hd₂; rfl
    subst hlen
    have hs₂ : s₂ = (({ U with heap := s₂.heap, slotsUsed := s₂.slotsUsed } : State).setVm s₂.vm).setTop { g with pc := g.pc + len₂, stack := v.toList ++ g.stack } := by
      refine e3.trans ?_
      rw [hf₂, State.calling_eq h.top, State.setFrames_setFrames, State.setTop_of_frames _ hr', hr]
      rfl
    have hsame : U.sameButNew ({ U with heap := s₂.heap, slotsUsed := s₂.slotsUsed } : State) L mc ms := by
      refine ⟨?_, q2, q3, q4, q5, q6⟩
      obtain ⟨t, ht, -⟩ := State.frames_cons hr
      show ({ U with heap := s₂.heap, slotsUsed := s₂.slotsUsed } : State) = { U.setFrames U.frames with heap := s₂.heap, slotsUsed := s₂.slotsUsed }
      rw [State.setFrames_self ht]
    subst hg
    refine Or.inl ⟨v, ⟨(({ U with heap := s₂.heap, slotsUsed := s₂.slotsUsed } : State).setVm s₂.vm), Ls ++ L, c0 + mc, s0 + ms⟩,
      ⟨X.admits, X.cas, X.clock, X.frames, X.room, X.hears, X.method, X.code, (X.here.setHeapUsed s₂.heap s₂.slotsUsed).setVm hW'.alike, X.tail, State.WarmedH.trans X.warmed hW', X.limits, X.bytes, X.same.trans (hsame.setVm s.vm)⟩,
      ⟨g, mk, s₂, L, rfl, rfl, hqc, rfl, hL, rfl, rfl⟩, ?_⟩
    show Steps p.tables e below _ ((({ U with heap := s₂.heap, slotsUsed := s₂.slotsUsed } : State).setVm s₂.vm).setTop { g with pc := g.pc + len₂, stack := v.toList ++ g.stack })
    rw [← hs₂]
    exact hsteps
  · obtain ⟨e2, q2, q3, q4, q5, q6⟩ := id hsm
    have e3 : s₂ = ({ (U.calling g mk a).setFrames s₂.frames with heap := s₂.heap, slotsUsed := s₂.slotsUsed } : State).setVm s₂.vm := by
      have : s₂ = ({ s₂ with vm := (U.calling g mk a).vm } : State).setVm s₂.vm := rfl
      rw [e2] at this
      exact this
    have hf₂ : s₂.frames = .throwing q :: .java g :: U.frames.tail := hend
    have hW' : U.WarmedH s₂.vm := hW₂
    have hs₂ : s₂ = ((({ U with heap := s₂.heap, slotsUsed := s₂.slotsUsed } : State).setVm s₂.vm).setTop g).pushFrame (.throwing q) := by
      refine e3.trans ?_
      rw [hf₂, State.calling_eq h.top, State.setFrames_setFrames, State.pushFrame, State.frames_setTop _ hr', State.setTop_of_frames _ hr', State.setFrames_setFrames, hr]
      rfl
    have hsame : U.sameButNew ({ U with heap := s₂.heap, slotsUsed := s₂.slotsUsed } : State) L mc ms := by
      refine ⟨?_, q2, q3, q4, q5, q6⟩
      obtain ⟨t, ht, -⟩ := State.frames_cons hr
      show ({ U with heap := s₂.heap, slotsUsed := s₂.slotsUsed } : State) = { U.setFrames U.frames with heap := s₂.heap, slotsUsed := s₂.slotsUsed }
      rw [State.setFrames_self ht]
    subst hg
    refine Or.inr ⟨q, ⟨(({ U with heap := s₂.heap, slotsUsed := s₂.slotsUsed } : State).setVm s₂.vm), Ls ++ L, c0 + mc, s0 + ms⟩,
      ⟨X.admits, X.cas, X.clock, X.frames, X.room, X.hears, X.method, X.code, (X.here.setHeapUsed s₂.heap s₂.slotsUsed).setVm hW'.alike, X.tail, State.WarmedH.trans X.warmed hW', X.limits, X.bytes, X.same.trans (hsame.setVm s.vm)⟩,
      ⟨g, mk, s₂, L, E, ce, rfl, rfl, hx, hce, hcv, hcl, rfl, hL, rfl, rfl⟩, ?_⟩
    show Steps p.tables e below _ (((({ U with heap := s₂.heap, slotsUsed := s₂.slotsUsed } : State).setVm s₂.vm).setTop g).pushFrame (.throwing q))
    rw [← hs₂]
    exact hsteps
end Payer
section Calls
variable {p : Program} {l : Launch} {e : Env} {R : Room} {s : State} {m : MethodId} {args : Array Value} {below : List Frame} {meth : Method} {c : Code} {T : State} {locs : List Loc} {cells slots : Nat}
theorem vx_callV (X : Stand p l e R s m args below meth c T locs cells slots) (hexec : p.tables.exec = Jvm.exec) {own C : String} {index : Nat} {y : MethodName} {bytes : ByteArray} {maxL : Nat} {ret : Option FieldType}
    (hown : s.vm.findClass own = some m.cls) (hlink : (Cond.methodLink own index y).before args s = true) (hinst : (Cond.instanceMethod y).before args s = true) (hsel : (Cond.selects C y y).before args s = true)
    (hcode : (Cond.code y bytes maxL ret).before args s = true) (hy : y.cls ≠ "java/lang/invoke/MethodHandle" ∧ y.cls ≠ "java/lang/invoke/VarHandle")
    {W9 : Nat} {Pre : Pt → Array Value → Prop} {Post : Pt → Array Value → Option Value → Pt → Prop} {PostX : Pt → Array Value → Addr → Pt → Prop} (hK : vx_Back l R p e below s args y 3 W9 Pre Post PostX)
    {b : Addr} {cellB : Cell} (hcell : T.heap[b]? = some cellB) (hobj : cellB.vm.isStatics = false) (hcls : s.vm.findClass C = some cellB.cls)
    {g : JFrame} (hg : g.method = m) (hsize : g.locals.size = c.maxLocals) {argsL rest : List Value} (hlen : ∀ sig, parseMethodDescriptor y.desc = some sig → argsL.length = sig.parameters.length)
    (hstack : g.stack = argsL.reverse ++ .ref b :: rest) (hW : 2 * g.monitorRoom + (rest.map fun v => v.category).sum ≤ W9) (hdg : decode c.code g.pc = .ok (.invokevirtual index, 3))
    (hpre : ∀ vm₁, s.WarmedH vm₁ → Pre ⟨T.setVm vm₁, locs, cells, slots⟩ (Value.ref b :: argsL).toArray) :
    (∃ (v : Option Value) (vm₁ : Vm) (B : Pt), s.WarmedH vm₁ ∧ Stand p l e R s m args below meth c B.U B.locs B.cells B.slots ∧ Post ⟨T.setVm vm₁, locs, cells, slots⟩ (Value.ref b :: argsL).toArray v B ∧
      ∀ target, Steps p.tables e below (B.U.setTop { g with pc := g.pc + 3, stack := v.toList ++ rest }) target → Steps p.tables e below (T.setTop g) target) ∨
    (∃ (q : Addr) (vm₁ : Vm) (B : Pt), s.WarmedH vm₁ ∧ Stand p l e R s m args below meth c B.U B.locs B.cells B.slots ∧ PostX ⟨T.setVm vm₁, locs, cells, slots⟩ (Value.ref b :: argsL).toArray q B ∧
      Steps p.tables e below (T.setTop g) ((B.U.setTop { g with stack := rest }).pushFrame (.throwing q))) := by
  obtain ⟨mk, methM, hnamed, hmethM, hstM, habM⟩ := Cond.instanceMethod_spec hinst
  obtain ⟨methM', cM, hmethM', -, -, -, -, -, -, hsigM⟩ := Cond.code_spec hnamed hcode
  cases hmethM.symm.trans hmethM'
  obtain ⟨c2, r2, m2, q1, q2, q3, q4, kP, hkP, hkPi⟩ := Cond.selects_spec hsel
  cases hcls.symm.trans q1
  cases (State.methodFound?_of_named hnamed hy).symm.trans q2
  cases hnamed.symm.trans q3
  have hselP : selectMethod e.platform s.vm cellB.cls mk = .method mk := by rw [Launch.admits_selectMethod X.admits]; exact q4
  obtain ⟨vm₁, X₁, hstep₁⟩ := X.invokevirtual hexec hown hlink hnamed hmethM hstM hkP hkPi hy (a := b) (cell := cellB) hcell
    (fun z h => by rw [h] at hobj; cases hobj) hselP hmethM habM hkP hkPi (g := g) hg (argsL := argsL) (rest := rest) (hlen _ hsigM) hstack hdg
  rcases hK m meth c ⟨T.setVm vm₁, locs, cells, slots⟩ { g with stack := rest } (.invokevirtual index) mk (Value.ref b :: argsL).toArray X₁ hg hsize hdg hW (X₁.named hnamed) (hpre vm₁ X₁.warmed) with ⟨v, B, X', hpost, hsteps⟩ | ⟨q, B, X', hpost, hsteps⟩
  · exact Or.inl ⟨v, vm₁, B, X₁.warmed, X', hpost, fun target h => hstep₁ _ fun acts => by rw [doInvoke_state]; exact hsteps.trans h⟩
  · exact Or.inr ⟨q, vm₁, B, X₁.warmed, X', hpost, hstep₁ _ fun acts => by rw [doInvoke_state]; exact hsteps⟩
theorem vx_callS (X : Stand p l e R s m args below meth c T locs cells slots) (hexec : p.tables.exec = Jvm.exec) {own : String} {index : Nat} {y : MethodName} {bytes : ByteArray} {maxL : Nat} {ret : Option FieldType}
    (hown : s.vm.findClass own = some m.cls) (hlink : (Cond.methodLink own index y).before args s = true) (hstat : (Cond.static y).before args s = true) (hinit : (Cond.initialized y.cls).before args s = true)
    (hcode : (Cond.code y bytes maxL ret).before args s = true) (hy : y.cls ≠ "java/lang/invoke/MethodHandle" ∧ y.cls ≠ "java/lang/invoke/VarHandle")
    {W9 : Nat} {Pre : Pt → Array Value → Prop} {Post : Pt → Array Value → Option Value → Pt → Prop} {PostX : Pt → Array Value → Addr → Pt → Prop} (hK : vx_Back l R p e below s args y 3 W9 Pre Post PostX)
    {g : JFrame} (hg : g.method = m) (hsize : g.locals.size = c.maxLocals) {argsL rest : List Value} (hlen : ∀ sig, parseMethodDescriptor y.desc = some sig → argsL.length = sig.parameters.length)
    (hstack : g.stack = argsL.reverse ++ rest) (hW : 2 * g.monitorRoom + (rest.map fun v => v.category).sum ≤ W9) (hdg : decode c.code g.pc = .ok (.invokestatic index, 3))
    (hpre : ∀ vm₁, s.WarmedH vm₁ → Pre ⟨T.setVm vm₁, locs, cells, slots⟩ argsL.toArray) :
    (∃ (v : Option Value) (vm₁ : Vm) (B : Pt), s.WarmedH vm₁ ∧ Stand p l e R s m args below meth c B.U B.locs B.cells B.slots ∧ Post ⟨T.setVm vm₁, locs, cells, slots⟩ argsL.toArray v B ∧
      ∀ target, Steps p.tables e below (B.U.setTop { g with pc := g.pc + 3, stack := v.toList ++ rest }) target → Steps p.tables e below (T.setTop g) target) ∨
    (∃ (q : Addr) (vm₁ : Vm) (B : Pt), s.WarmedH vm₁ ∧ Stand p l e R s m args below meth c B.U B.locs B.cells B.slots ∧ PostX ⟨T.setVm vm₁, locs, cells, slots⟩ argsL.toArray q B ∧
      Steps p.tables e below (T.setTop g) ((B.U.setTop { g with stack := rest }).pushFrame (.throwing q))) := by
  obtain ⟨mk, hnamed⟩ := Cond.code_named hcode
  obtain ⟨methM, cM, hmethM, -, -, -, -, -, -, hsigM⟩ := Cond.code_spec hnamed hcode
  have hstatic : methM.isStatic = true := Cond.static_spec hnamed hmethM hstat
  obtain ⟨kP, hkP, -⟩ := className_of_methodNamed hnamed
  have hinitP : kP.init = .initialized := Cond.initialized_spec (findClass_of_methodNamed hnamed) hkP hinit
  obtain ⟨vm₁, X₁, hstep₁⟩ := X.invokestatic hexec hown hlink hnamed hmethM hstatic hkP hinitP hy (g := g) hg (argsL := argsL) (rest := rest) (hlen _ hsigM) hstack hdg
  rcases hK m meth c ⟨T.setVm vm₁, locs, cells, slots⟩ { g with stack := rest } (.invokestatic index) mk argsL.toArray X₁ hg hsize hdg hW (X₁.named hnamed) (hpre vm₁ X₁.warmed) with ⟨v, B, X', hpost, hsteps⟩ | ⟨q, B, X', hpost, hsteps⟩
  · exact Or.inl ⟨v, vm₁, B, X₁.warmed, X', hpost, fun target h => hstep₁ _ fun acts => by rw [doInvoke_state]; exact hsteps.trans h⟩
  · exact Or.inr ⟨q, vm₁, B, X₁.warmed, X', hpost, hstep₁ _ fun acts => by rw [doInvoke_state]; exact hsteps⟩
end Calls
theorem vx_cls {s : State} {T : State} {vm₁ : Vm} {E : String} {k : ClassId} (hW : s.WarmedH vm₁) (h : (T.setVm vm₁).vm.findClass E = some k) : s.vm.findClass E = some k := by
  have h1 : vm₁.findClass E = some k := h
  rw [hW.alike.findClass] at h1
  exact h1
/-- the method's frame g, with q thrown over it -/
def vx_W (p : Program) (l : Launch) (e : Env) (R : Room) (s : State) (m : MethodId) (args : Array Value) (below : List Frame) (meth : Method) (c : Code) (H : Heap) (locs : List Loc) (cells slots : Nat) (Q : State → Prop) (g : JFrame) (q : Addr) : Prop :=
  ∀ T : State, T.heap = H → Stand p l e R s m args below meth c T locs cells slots → ∃ t, Steps p.tables e below ((T.setTop g).pushFrame (.throwing q)) t ∧ Q t
def vx_Run (p : Program) (l : Launch) (e : Env) (R : Room) (s : State) (m : MethodId) (args : Array Value) (below : List Frame) (meth : Method) (c : Code) (H : Heap) (locs : List Loc) (cells slots mc ms : Nat) (g : JFrame) (rest : List Value) (Qa : State → Outcome → State → Prop) (XC : String → State → State → Prop) (free : Addr → Prop) : Prop :=
  ∀ T : State, T.heap = H → Stand p l e R s m args below meth c T locs cells slots →
    (∃ (v : Option Value) (st₀ t T' : State) (L : List Loc), st₀.heap = H ∧ Stand p l e R s m args below meth c T' (locs ++ L) (cells + mc) (slots + ms) ∧ (∀ q ∈ L, free q.base) ∧ T'.heap = t.heap ∧ T'.vm = t.vm ∧ Qa st₀ (.returned v) t ∧
      Goes p e below T g T' { g with pc := g.pc + 3, stack := v.toList ++ rest }) ∨
    (∃ (q : Addr) (st₀ t T' : State) (L : List Loc) (E : String) (ce : Cell), st₀.heap = H ∧ Stand p l e R s m args below meth c T' (locs ++ L) (cells + mc) (slots + ms) ∧ (∀ z ∈ L, free z.base) ∧ T'.heap = t.heap ∧ T'.vm = t.vm ∧ XC E st₀ t ∧ t.heap[q]? = some ce ∧ ce.vm = .none ∧ s.vm.findClass E = some ce.cls ∧
      Steps p.tables e below (T.setTop g) ((T'.setTop { g with stack := rest }).pushFrame (.throwing q)))
def vx_X {S : Type} (px : S → Prop) (B : String → S → State → Prop) (A : Nat → Prop) : String → State → State → Prop := fun E st t => ∃ u : S, px u ∧ B E u t ∧ va_F A st t
section Runs
variable {p : Program} {l : Launch} {e : Env} {R : Room} {s : State} {m : MethodId} {args : Array Value} {below : List Frame} {meth : Method} {c : Code} {H : Heap} {locs : List Loc} {cells slots : Nat}
variable {y : MethodName} {bytes cc : ByteArray} {maxL nL mc ms n index : Nat} {ret : Option FieldType} {ws : List Cond} {rm : Room} {Pc : Array Value → State → Prop} {Qc : Array Value → State → Outcome → State → Prop} {XC : String → State → State → Prop} {free : Addr → Prop} {Ts : List Cond} {own C : String} {b : Addr} {As rest : List Value} {g : JFrame}
theorem vx_callBack (cb : CallB R s args own index y bytes maxL ret ws rm mc ms n) (hM : vx_Met l y ws rm Pc Qc XC mc ms free) (hbl : FrameBlind Pc) : vx_Back l R p e below s args y 3 8 (PreOf R mc ms Pc) (PostOf Qc mc ms free) (vx_Post XC mc ms free) := by
  obtain ⟨hrc, hrs, hfr, hlo, hws, hcw, -, hini, -⟩ := cb
  exact vx_back (bytes := bytes) (maxL := maxL) (ret := ret) hM hbl hrc hrs hfr hlo hws hcw (fun a' U hW => word_at hW (Or.inl (by first | rfl | simp [Cond.onTables, Cond.keeps, Cond.steady])) hini)
theorem vx_runV (S : CallFix p m c cc nL s args Ts own) (hM : vx_Met l y ws rm Pc Qc XC mc ms free) (cw : CallW R s args own C index y bytes maxL ret ws rm mc ms n) (hp : PreV s H C b Pc As)
    (hg : g.method = m) (hn : As.length = n) (hsize : g.locals.size = nL) (hstack : g.stack = As.reverse ++ .ref b :: rest) (hW : 2 * g.monitorRoom + (rest.map fun v => v.category).sum ≤ 8) (hdg : decode cc g.pc = .ok (.invokevirtual index, 3)) (hf : cells + mc ≤ R.cells ∧ slots + ms ≤ R.slots) :
    vx_Run p l e R s m args below meth c H locs cells slots mc ms g rest (Qc (Value.ref b :: As).toArray) XC free := by
  have hK : vx_Back l R p e below s args y 3 8 (PreOf R mc ms Pc) (PostOf Qc mc ms free) (vx_Post XC mc ms free) := vx_callBack cw.1 hM hp.1
  obtain ⟨⟨-, -, -, -, -, -, hcode, -, hy, hlen, hl⟩, hin, hse⟩ := cw
  obtain ⟨hx, hb, hml, ho, -⟩ := S
  obtain ⟨-, ⟨cellB, hcB, hoB, hclB⟩, hPc⟩ := hp
  intro T hT X
  rcases vx_callV X hx (C := C) (bytes := bytes) (maxL := maxL) (ret := ret) ho hl hin hse hcode hy hK (by rw [hT]; exact hcB) hoB hclB hg (hsize.trans hml.symm) (argsL := As) (rest := rest) (fun sig h => hn.trans (hlen sig h)) hstack hW (by rw [hb]; exact hdg)
    (fun vm₁ hW₁ => ⟨hf.1, hf.2, hPc (T.setVm vm₁) hT hW₁⟩) with ⟨v, vm₁, ⟨U', l2, c2, s2⟩, hW₁, X', ⟨g', mk, t, L, e1, e2, hq, h1, hL, h2, h3⟩, st⟩ | ⟨q, vm₁, ⟨U', l2, c2, s2⟩, hW₁, X', ⟨g', mk, t, L, E, ce, e1, e2, hq, hce, hcv, hcl, h1, hL, h2, h3⟩, st⟩
  · dsimp only [Pt.U, Pt.locs, Pt.cells, Pt.slots] at X' e1 e2 h1 h2 h3 st
    subst h1; subst h2; subst h3
    exact Or.inl ⟨v, (T.setVm vm₁).calling g' mk (Value.ref b :: As).toArray, t, U', L, hT, X', hL, e1, e2, hq, st⟩
  · dsimp only [Pt.U, Pt.locs, Pt.cells, Pt.slots] at X' e1 e2 h1 h2 h3 st hcl
    subst h1; subst h2; subst h3
    exact Or.inr ⟨q, (T.setVm vm₁).calling g' mk (Value.ref b :: As).toArray, t, U', L, E, ce, hT, X', hL, e1, e2, hq, hce, hcv, vx_cls hW₁ hcl, st⟩
theorem vx_runS (S : CallFix p m c cc nL s args Ts own) (hM : vx_Met l y ws rm Pc Qc XC mc ms free) (cw : CallB R s args own index y bytes maxL ret ws rm mc ms n ∧ (Cond.static y).before args s = true) (hp : PreS s H Pc As)
    (hg : g.method = m) (hn : As.length = n) (hsize : g.locals.size = nL) (hstack : g.stack = As.reverse ++ rest) (hW : 2 * g.monitorRoom + (rest.map fun v => v.category).sum ≤ 8) (hdg : decode cc g.pc = .ok (.invokestatic index, 3)) (hf : cells + mc ≤ R.cells ∧ slots + ms ≤ R.slots) :
    vx_Run p l e R s m args below meth c H locs cells slots mc ms g rest (Qc As.toArray) XC free := by
  have hK : vx_Back l R p e below s args y 3 8 (PreOf R mc ms Pc) (PostOf Qc mc ms free) (vx_Post XC mc ms free) := vx_callBack cw.1 hM hp.1
  obtain ⟨⟨-, -, -, -, -, -, hcode, hini, hy, hlen, hl⟩, hstt⟩ := cw
  obtain ⟨hx, hb, hml, ho, -⟩ := S
  intro T hT X
  rcases vx_callS X hx (bytes := bytes) (maxL := maxL) (ret := ret) ho hl hstt hini hcode hy hK hg (hsize.trans hml.symm) (argsL := As) (rest := rest) (fun sig h => hn.trans (hlen sig h)) hstack hW (by rw [hb]; exact hdg)
    (fun vm₁ hW₁ => ⟨hf.1, hf.2, hp.2 (T.setVm vm₁) hT hW₁⟩) with ⟨v, vm₁, ⟨U', l2, c2, s2⟩, hW₁, X', ⟨g', mk, t, L, e1, e2, hq, h1, hL, h2, h3⟩, st⟩ | ⟨q, vm₁, ⟨U', l2, c2, s2⟩, hW₁, X', ⟨g', mk, t, L, E, ce, e1, e2, hq, hce, hcv, hcl, h1, hL, h2, h3⟩, st⟩
  · dsimp only [Pt.U, Pt.locs, Pt.cells, Pt.slots] at X' e1 e2 h1 h2 h3 st
    subst h1; subst h2; subst h3
    exact Or.inl ⟨v, (T.setVm vm₁).calling g' mk As.toArray, t, U', L, hT, X', hL, e1, e2, hq, st⟩
  · dsimp only [Pt.U, Pt.locs, Pt.cells, Pt.slots] at X' e1 e2 h1 h2 h3 st hcl
    subst h1; subst h2; subst h3
    exact Or.inr ⟨q, (T.setVm vm₁).calling g' mk As.toArray, t, U', L, E, ce, hT, X', hL, e1, e2, hq, hce, hcv, vx_cls hW₁ hcl, st⟩
end Runs
section Rows
variable {p : Program} {l : Launch} {e : Env} {R : Room} {s : State} {m : MethodId} {args : Array Value} {below : List Frame} {meth : Method} {c : Code} {H : Heap} {locs : List Loc} {cells slots : Nat} {Q : State → Prop}
variable {mc ms : Nat} {free : Addr → Prop} {A0 A1 : Nat → Prop} {H0 : Heap} {a : Array Value} {pc : Nat} {ls : Array Slot} {st0 rest : List Value}
theorem vx_keep {st₀ t T' : State} {L : List Loc} (h0 : st₀.heap = H) (e1 : T'.heap = t.heap) (hS : va_S A0 H0 H locs) (hA : ∀ q, q < H.size → A1 q → A0 q) (hf : ∀ q, free q → A0 q) (hL : ∀ q ∈ L, free q.base) (hF : va_F A1 st₀ t) :
    H.size ≤ T'.heap.size ∧ (∀ q : Nat, q < H.size → ¬ A1 q → T'.heap[q]? = H[q]?) ∧ va_S A0 H0 T'.heap (locs ++ L) := by
  obtain ⟨hz, hk⟩ := hF
  rw [h0] at hz hk
  exact ⟨by rw [e1]; exact hz, fun q h1 h2 => by rw [e1]; exact hk q h1 h2,
    ⟨Nat.le_trans hS.1 (by rw [e1]; exact hz), fun q h1 h2 => by rw [e1, hk q (Nat.lt_of_lt_of_le h1 hS.1) (fun z => h2 (hA q (Nat.lt_of_lt_of_le h1 hS.1) z))]; exact hS.2.1 q h1 h2, fun q hq => by
      rcases List.mem_append.mp hq with h | h
      · exact hS.2.2 q h
      · exact hf _ (hL q h)⟩⟩
theorem vx_calli {S SX : Type} {post : Int32 → S → Prop} {px : SX → Prop} {B : S → State → Prop} {BX : String → SX → State → Prop} {AX : Nat → Prop} (hr : vx_Run p l e R s m args below meth c H locs cells slots mc ms (F0 m pc ls st0) rest (va_Qi post B A1 a) (vx_X px BX AX) free) (hS : va_S A0 H0 H locs) (hA : ∀ q, q < H.size → A1 q → A0 q) (hf : ∀ q, free q → A0 q) (hAX : ∀ q, q < H.size → AX q → A0 q)
    (kx : ∀ (E : String) (ce : Cell) (q9 : Addr) (u : SX) (t : State) (H1 : Heap) (locs1 : List Loc), t.heap = H1 → s.vm.Alike t.vm → px u → BX E u t → H.size ≤ H1.size → (∀ q : Nat, q < H.size → ¬ AX q → H1[q]? = H[q]?) → va_S A0 H0 H1 locs1 → H1[q9]? = some ce → ce.vm = .none → s.vm.findClass E = some ce.cls → vx_W p l e R s m args below meth c H1 locs1 (cells + mc) (slots + ms) Q (F0 m pc ls rest) q9)
    (kk : ∀ (r : Int32) (u : S) (t : State) (H1 : Heap) (locs1 : List Loc), t.heap = H1 → s.vm.Alike t.vm → post r u → B u t → H.size ≤ H1.size → (∀ q : Nat, q < H.size → ¬ A1 q → H1[q]? = H[q]?) → va_S A0 H0 H1 locs1 → W p l e R s m args below meth c H1 locs1 (cells + mc) (slots + ms) Q (F0 m (pc + 3) ls (.int r :: rest))) : W p l e R s m args below meth c H locs cells slots Q (F0 m pc ls st0) := by
  intro T hT X
  rcases hr T hT X with ⟨v, st₀, t, T', L, h0, X', hL, e1, e2, ⟨⟨r, u, hv, hp, hb⟩, hF⟩, st⟩ | ⟨q, st₀, t, T', L, E, ce, h0, X', hL, e1, e2, ⟨u, hp, hb, hF⟩, hce, hcv, hcl, st⟩
  · cases hv
    obtain ⟨k1, k2, k3⟩ := vx_keep h0 e1 hS hA hf hL hF
    obtain ⟨t2, a1, b1⟩ := kk r u t T'.heap (locs ++ L) e1.symm (by rw [← e2]; exact X'.warmed.alike) hp hb k1 k2 k3 T' rfl X'
    exact ⟨t2, st t2 a1, b1⟩
  · obtain ⟨k1, k2, k3⟩ := vx_keep h0 e1 hS hAX hf hL hF
    obtain ⟨t2, a1, b1⟩ := kx E ce q u t T'.heap (locs ++ L) e1.symm (by rw [← e2]; exact X'.warmed.alike) hp hb k1 k2 k3 (by rw [e1]; exact hce) hcv hcl T' rfl X'
    exact ⟨t2, st.trans a1, b1⟩
theorem vx_calll {S SX : Type} {post : Int64 → S → Prop} {px : SX → Prop} {B : S → State → Prop} {BX : String → SX → State → Prop} {AX : Nat → Prop} (hr : vx_Run p l e R s m args below meth c H locs cells slots mc ms (F0 m pc ls st0) rest (va_Ql post B A1 a) (vx_X px BX AX) free) (hS : va_S A0 H0 H locs) (hA : ∀ q, q < H.size → A1 q → A0 q) (hf : ∀ q, free q → A0 q) (hAX : ∀ q, q < H.size → AX q → A0 q)
    (kx : ∀ (E : String) (ce : Cell) (q9 : Addr) (u : SX) (t : State) (H1 : Heap) (locs1 : List Loc), t.heap = H1 → s.vm.Alike t.vm → px u → BX E u t → H.size ≤ H1.size → (∀ q : Nat, q < H.size → ¬ AX q → H1[q]? = H[q]?) → va_S A0 H0 H1 locs1 → H1[q9]? = some ce → ce.vm = .none → s.vm.findClass E = some ce.cls → vx_W p l e R s m args below meth c H1 locs1 (cells + mc) (slots + ms) Q (F0 m pc ls rest) q9)
    (kk : ∀ (r : Int64) (u : S) (t : State) (H1 : Heap) (locs1 : List Loc), t.heap = H1 → s.vm.Alike t.vm → post r u → B u t → H.size ≤ H1.size → (∀ q : Nat, q < H.size → ¬ A1 q → H1[q]? = H[q]?) → va_S A0 H0 H1 locs1 → W p l e R s m args below meth c H1 locs1 (cells + mc) (slots + ms) Q (F0 m (pc + 3) ls (.long r :: rest))) : W p l e R s m args below meth c H locs cells slots Q (F0 m pc ls st0) := by
  intro T hT X
  rcases hr T hT X with ⟨v, st₀, t, T', L, h0, X', hL, e1, e2, ⟨⟨r, u, hv, hp, hb⟩, hF⟩, st⟩ | ⟨q, st₀, t, T', L, E, ce, h0, X', hL, e1, e2, ⟨u, hp, hb, hF⟩, hce, hcv, hcl, st⟩
  · cases hv
    obtain ⟨k1, k2, k3⟩ := vx_keep h0 e1 hS hA hf hL hF
    obtain ⟨t2, a1, b1⟩ := kk r u t T'.heap (locs ++ L) e1.symm (by rw [← e2]; exact X'.warmed.alike) hp hb k1 k2 k3 T' rfl X'
    exact ⟨t2, st t2 a1, b1⟩
  · obtain ⟨k1, k2, k3⟩ := vx_keep h0 e1 hS hAX hf hL hF
    obtain ⟨t2, a1, b1⟩ := kx E ce q u t T'.heap (locs ++ L) e1.symm (by rw [← e2]; exact X'.warmed.alike) hp hb k1 k2 k3 (by rw [e1]; exact hce) hcv hcl T' rfl X'
    exact ⟨t2, st.trans a1, b1⟩
theorem vx_callf {S SX : Type} {post : UInt32 → S → Prop} {px : SX → Prop} {B : S → State → Prop} {BX : String → SX → State → Prop} {AX : Nat → Prop} (hr : vx_Run p l e R s m args below meth c H locs cells slots mc ms (F0 m pc ls st0) rest (va_Qf post B A1 a) (vx_X px BX AX) free) (hS : va_S A0 H0 H locs) (hA : ∀ q, q < H.size → A1 q → A0 q) (hf : ∀ q, free q → A0 q) (hAX : ∀ q, q < H.size → AX q → A0 q)
    (kx : ∀ (E : String) (ce : Cell) (q9 : Addr) (u : SX) (t : State) (H1 : Heap) (locs1 : List Loc), t.heap = H1 → s.vm.Alike t.vm → px u → BX E u t → H.size ≤ H1.size → (∀ q : Nat, q < H.size → ¬ AX q → H1[q]? = H[q]?) → va_S A0 H0 H1 locs1 → H1[q9]? = some ce → ce.vm = .none → s.vm.findClass E = some ce.cls → vx_W p l e R s m args below meth c H1 locs1 (cells + mc) (slots + ms) Q (F0 m pc ls rest) q9)
    (kk : ∀ (r : UInt32) (u : S) (t : State) (H1 : Heap) (locs1 : List Loc), t.heap = H1 → s.vm.Alike t.vm → post r u → B u t → H.size ≤ H1.size → (∀ q : Nat, q < H.size → ¬ A1 q → H1[q]? = H[q]?) → va_S A0 H0 H1 locs1 → W p l e R s m args below meth c H1 locs1 (cells + mc) (slots + ms) Q (F0 m (pc + 3) ls (.float r :: rest))) : W p l e R s m args below meth c H locs cells slots Q (F0 m pc ls st0) := by
  intro T hT X
  rcases hr T hT X with ⟨v, st₀, t, T', L, h0, X', hL, e1, e2, ⟨⟨r, u, hv, hp, hb⟩, hF⟩, st⟩ | ⟨q, st₀, t, T', L, E, ce, h0, X', hL, e1, e2, ⟨u, hp, hb, hF⟩, hce, hcv, hcl, st⟩
  · cases hv
    obtain ⟨k1, k2, k3⟩ := vx_keep h0 e1 hS hA hf hL hF
    obtain ⟨t2, a1, b1⟩ := kk r u t T'.heap (locs ++ L) e1.symm (by rw [← e2]; exact X'.warmed.alike) hp hb k1 k2 k3 T' rfl X'
    exact ⟨t2, st t2 a1, b1⟩
  · obtain ⟨k1, k2, k3⟩ := vx_keep h0 e1 hS hAX hf hL hF
    obtain ⟨t2, a1, b1⟩ := kx E ce q u t T'.heap (locs ++ L) e1.symm (by rw [← e2]; exact X'.warmed.alike) hp hb k1 k2 k3 (by rw [e1]; exact hce) hcv hcl T' rfl X'
    exact ⟨t2, st.trans a1, b1⟩
theorem vx_calld {S SX : Type} {post : UInt64 → S → Prop} {px : SX → Prop} {B : S → State → Prop} {BX : String → SX → State → Prop} {AX : Nat → Prop} (hr : vx_Run p l e R s m args below meth c H locs cells slots mc ms (F0 m pc ls st0) rest (va_Qd post B A1 a) (vx_X px BX AX) free) (hS : va_S A0 H0 H locs) (hA : ∀ q, q < H.size → A1 q → A0 q) (hf : ∀ q, free q → A0 q) (hAX : ∀ q, q < H.size → AX q → A0 q)
    (kx : ∀ (E : String) (ce : Cell) (q9 : Addr) (u : SX) (t : State) (H1 : Heap) (locs1 : List Loc), t.heap = H1 → s.vm.Alike t.vm → px u → BX E u t → H.size ≤ H1.size → (∀ q : Nat, q < H.size → ¬ AX q → H1[q]? = H[q]?) → va_S A0 H0 H1 locs1 → H1[q9]? = some ce → ce.vm = .none → s.vm.findClass E = some ce.cls → vx_W p l e R s m args below meth c H1 locs1 (cells + mc) (slots + ms) Q (F0 m pc ls rest) q9)
    (kk : ∀ (r : UInt64) (u : S) (t : State) (H1 : Heap) (locs1 : List Loc), t.heap = H1 → s.vm.Alike t.vm → post r u → B u t → H.size ≤ H1.size → (∀ q : Nat, q < H.size → ¬ A1 q → H1[q]? = H[q]?) → va_S A0 H0 H1 locs1 → W p l e R s m args below meth c H1 locs1 (cells + mc) (slots + ms) Q (F0 m (pc + 3) ls (.double r :: rest))) : W p l e R s m args below meth c H locs cells slots Q (F0 m pc ls st0) := by
  intro T hT X
  rcases hr T hT X with ⟨v, st₀, t, T', L, h0, X', hL, e1, e2, ⟨⟨r, u, hv, hp, hb⟩, hF⟩, st⟩ | ⟨q, st₀, t, T', L, E, ce, h0, X', hL, e1, e2, ⟨u, hp, hb, hF⟩, hce, hcv, hcl, st⟩
  · cases hv
    obtain ⟨k1, k2, k3⟩ := vx_keep h0 e1 hS hA hf hL hF
    obtain ⟨t2, a1, b1⟩ := kk r u t T'.heap (locs ++ L) e1.symm (by rw [← e2]; exact X'.warmed.alike) hp hb k1 k2 k3 T' rfl X'
    exact ⟨t2, st t2 a1, b1⟩
  · obtain ⟨k1, k2, k3⟩ := vx_keep h0 e1 hS hAX hf hL hF
    obtain ⟨t2, a1, b1⟩ := kx E ce q u t T'.heap (locs ++ L) e1.symm (by rw [← e2]; exact X'.warmed.alike) hp hb k1 k2 k3 (by rw [e1]; exact hce) hcv hcl T' rfl X'
    exact ⟨t2, st.trans a1, b1⟩
theorem vx_callv {S SX : Type} {post : S → Prop} {px : SX → Prop} {B : S → State → Prop} {BX : String → SX → State → Prop} {AX : Nat → Prop} (hr : vx_Run p l e R s m args below meth c H locs cells slots mc ms (F0 m pc ls st0) rest (va_Qv post B A1 a) (vx_X px BX AX) free) (hS : va_S A0 H0 H locs) (hA : ∀ q, q < H.size → A1 q → A0 q) (hf : ∀ q, free q → A0 q) (hAX : ∀ q, q < H.size → AX q → A0 q)
    (kx : ∀ (E : String) (ce : Cell) (q9 : Addr) (u : SX) (t : State) (H1 : Heap) (locs1 : List Loc), t.heap = H1 → s.vm.Alike t.vm → px u → BX E u t → H.size ≤ H1.size → (∀ q : Nat, q < H.size → ¬ AX q → H1[q]? = H[q]?) → va_S A0 H0 H1 locs1 → H1[q9]? = some ce → ce.vm = .none → s.vm.findClass E = some ce.cls → vx_W p l e R s m args below meth c H1 locs1 (cells + mc) (slots + ms) Q (F0 m pc ls rest) q9)
    (kk : ∀ (u : S) (t : State) (H1 : Heap) (locs1 : List Loc), t.heap = H1 → s.vm.Alike t.vm → post u → B u t → H.size ≤ H1.size → (∀ q : Nat, q < H.size → ¬ A1 q → H1[q]? = H[q]?) → va_S A0 H0 H1 locs1 → W p l e R s m args below meth c H1 locs1 (cells + mc) (slots + ms) Q (F0 m (pc + 3) ls (rest))) : W p l e R s m args below meth c H locs cells slots Q (F0 m pc ls st0) := by
  intro T hT X
  rcases hr T hT X with ⟨v, st₀, t, T', L, h0, X', hL, e1, e2, ⟨⟨u, hv, hp, hb⟩, hF⟩, st⟩ | ⟨q, st₀, t, T', L, E, ce, h0, X', hL, e1, e2, ⟨u, hp, hb, hF⟩, hce, hcv, hcl, st⟩
  · cases hv
    obtain ⟨k1, k2, k3⟩ := vx_keep h0 e1 hS hA hf hL hF
    obtain ⟨t2, a1, b1⟩ := kk u t T'.heap (locs ++ L) e1.symm (by rw [← e2]; exact X'.warmed.alike) hp hb k1 k2 k3 T' rfl X'
    exact ⟨t2, st t2 a1, b1⟩
  · obtain ⟨k1, k2, k3⟩ := vx_keep h0 e1 hS hAX hf hL hF
    obtain ⟨t2, a1, b1⟩ := kx E ce q u t T'.heap (locs ++ L) e1.symm (by rw [← e2]; exact X'.warmed.alike) hp hb k1 k2 k3 (by rw [e1]; exact hce) hcv hcl T' rfl X'
    exact ⟨t2, st.trans a1, b1⟩
/-- caught by the row x of this method's table; the rows ahead don't take it -/
theorem vx_catch {own name : String} {E : String} {ce : Cell} {q : Addr} (hown : s.vm.findClass own = some m.cls) (pre : List ExceptionTableEntry) (x : ExceptionTableEntry) (suf : List ExceptionTableEntry) (hsplit : c.exceptionTable.toList = pre ++ x :: suf)
    (hpass : ∀ z ∈ pre, covers z pc = false ∨ (z.catchType ≠ 0 ∧ ∃ nm : String, (Cond.classLink own z.catchType nm).before args s = true ∧ va_Nc E nm s)) (hx : covers x pc = true) (h0 : x.catchType ≠ 0)
    (hlink : (Cond.classLink own x.catchType name).before args s = true) (hcast : (Cond.castable E name).before args s = true) (hcell : H[q]? = some ce) (hv : ce.vm = .none) (hcl : s.vm.findClass E = some ce.cls)
    (kk : W p l e R s m args below meth c H locs cells slots Q (F0 m x.handlerPc ls [.ref q])) : vx_W p l e R s m args below meth c H locs cells slots Q (F0 m pc ls rest) q := by
  intro T hT X
  have hpl : e.platform.magicAccessors = ({} : Platform).magicAccessors := by rw [X.admits.platform]
  obtain ⟨c3, c4, hc3, hc4, hasg⟩ := Cond.castable_spec hcast
  cases Option.some.inj (hc3.symm.trans hcl)
  obtain ⟨c5, hc5, hcl5⟩ := Cond.classLink_spec hown hlink e.platform hpl
  cases Option.some.inj (hc4.symm.trans hc5)
  obtain ⟨vm', X', st⟩ := X.thenCaughtThrough q (g := F0 m pc ls rest) rfl (Steps.refl _) (by rw [hT]; exact hcell) (by rw [hv]; rfl) (by obtain ⟨k9, h9, -⟩ := Vm.findClass_spec hcl; exact ⟨k9, h9⟩) pre x suf hsplit
    (fun z hz => by
      rcases hpass z hz with h | ⟨hz0, nm, hl1, hn1⟩
      · exact Or.inl h
      · obtain ⟨c6, hc6, hcl6⟩ := Cond.classLink_spec hown hl1 e.platform hpl
        obtain ⟨a8, b8, h1, h2, h3⟩ := hn1
        cases Option.some.inj (h1.symm.trans hcl)
        cases Option.some.inj (h2.symm.trans hc6)
        exact Or.inr ⟨hz0, _, hcl6, h3⟩) hx (Or.inr ⟨h0, c4, hcl5, hasg⟩)
  obtain ⟨t, a1, b1⟩ := kk (T.setVm vm') hT X'
  exact ⟨t, st.trans a1, b1⟩
end Rows
section Ends
variable {p : Program} {l : Launch} {e : Env} {R : Room} {s : State} {m : MethodId} {args : Array Value} {below : List Frame} {meth : Method} {c : Code} {H : Heap} {locs : List Loc} {cells slots : Nat} {Q : State → Prop}
variable {mc ms : Nat} {free : Addr → Prop} {A0 A1 : Nat → Prop} {H0 : Heap} {a : Array Value} {ls : Array Slot} {st0 rest : List Value}
variable {Qc : Array Value → State → Outcome → State → Prop} {XC : String → State → State → Prop}
/-- what a body that may throw owes at its end -/
def vx_MQ (below : List Frame) (Qc : Array Value → State → Outcome → State → Prop) (XC : String → State → State → Prop) (a : Array Value) (s : State) (mc ms : Nat) (free : Addr → Prop) : State → Prop := fun t =>
  ∃ o, t.status = .running ∧ Ended t below o ∧ vx_Q Qc XC mc ms free a s o t
theorem vx_ret {g : JFrame} {mc ms : Nat} (k : W p l e R s m args below meth c H locs cells slots (MQ below Qc args s mc ms free) g) : W p l e R s m args below meth c H locs cells slots (vx_MQ below Qc XC args s mc ms free) g := by
  intro T hT X
  obtain ⟨t, a1, o, b1, b2, b3, b4⟩ := k T hT X
  exact ⟨t, a1, o, b1, b2, Or.inl ⟨b3, b4⟩⟩
/-- not caught here: it goes on to the caller -/
theorem vx_widen {g : JFrame} {q : Addr} {k n : Nat} (h1 : cells ≤ k) (h2 : slots ≤ n) (kk : vx_W p l e R s m args below meth c H locs k n Q g q) : vx_W p l e R s m args below meth c H locs cells slots Q g q := fun T hT X => kk T hT (stand_widen X h1 h2)
theorem vx_out {pc : Nat} {E : String} {ce : Cell} {q : Addr} {mc ms : Nat} (hout : ∀ x ∈ c.exceptionTable.toList, covers x pc = false) (hlocks : meth.locks = false) (hcell : H[q]? = some ce) (hv : ce.vm = .none) (hcl : s.vm.findClass E = some ce.cls)
    (hx : ∀ t : State, t.heap = H → s.vm.Alike t.vm → XC E s t) (hf : ∀ z ∈ locs, free z.base) (hc : cells ≤ mc) (hs : slots ≤ ms) :
    vx_W p l e R s m args below meth c H locs cells slots (vx_MQ below Qc XC args s mc ms free) (F0 m pc ls rest) q := by
  intro T hT X
  obtain ⟨st1, hrun, hend, hW, hsm⟩ := X.leaveThrown q (g := F0 m pc ls rest) rfl rfl rfl hout hlocks
  have hcell9 : (T.setFrames (.throwing q :: below)).heap[q]? = some ce := by
    show T.heap[q]? = some ce
    rw [hT]; exact hcell
  exact ⟨_, st1, .threw q, hrun, hend, Or.inr ⟨q, rfl, E, ce, locs, hx _ hT hW.alike, hcell9, hv, hcl, hW, hsm.mono hc hs, hf⟩⟩
theorem vx_frame {U : State} {k n : Nat} (h : s.sameButNew ({ U with vm := s.vm } : State) locs k n) : s.heap.size ≤ U.heap.size ∧ ∀ q : Nat, q < s.heap.size → (∀ z ∈ locs, z.base ≠ q) → U.heap[q]? = s.heap[q]? := by
  obtain ⟨-, h2, -, -, -, h6⟩ := h
  refine ⟨h2, fun q hq hz => ?_⟩
  obtain ⟨c9, e1, e2, e3, e4⟩ := h6 q _ (Array.getElem?_eq_getElem hq)
  have hs : c9.slots = (s.heap[q]).slots := Array.ext_getElem? fun i => e4 i fun hm => hz _ hm rfl
  have h9 : c9 = s.heap[q] := by
    rw [hs] at e2
    exact e2
  have e5 : U.heap[q]? = some c9 := e1
  rw [e5, h9, Array.getElem?_eq_getElem hq]
/-- the words of a throw but the four that speak of the heap -/
def vx_no (w : Cond) : Bool := decide (w ≠ .isRef (.static Bundle.tN "UNASSIGNED_STACK" Bundle.steD)) && decide (w ≠ .isRef (.static Bundle.tN "SUPPRESSED_SENTINEL" Bundle.listD)) && decide (w ≠ .laysStatic Bundle.tN "UNASSIGNED_STACK" Bundle.steD) && decide (w ≠ .laysStatic Bundle.tN "SUPPRESSED_SENTINEL" Bundle.listD)
def vx_at0 (own : String) (ic : Nat) (X : String) (names : List String) : List Cond := (Bundle.ownAtoms0 own ic X names).filter vx_no
def vx_atS (own : String) (ic : Nat) (X : String) (names : List String) : List Cond := (Bundle.ownAtoms own ic X names).filter vx_no
/-- a word that the tables alone decide, or a good one -/
def vx_ot (w : Cond) : Bool := w.onTables || goodWord w
theorem vx_ot_at {args a' : Array Value} {s U : State} {w : Cond} (hW : s.WarmedH U.vm) (hvm : s.vm = U.vm) (hg : vx_ot w = true) (h : w.before args s = true) : w.before a' U = true := by
  simp only [vx_ot, Bool.or_eq_true] at hg
  rcases hg with hg | hg
  · exact va_tabs hg hvm h
  · exact word_at hW (good_of_word hg) h
/-- a list's words: the good ones out of the method's own list, the others by premises of their own -/
theorem vx_hat {args : Array Value} {s : State} {L B : List Cond} (h1 : ∀ w ∈ L.filter goodWord, w.before args s = true) (h2 : ∀ w ∈ L.filter (fun w => !goodWord w), w ∈ B) (h3 : ∀ w ∈ B, w.before args s = true) : ∀ w ∈ L, w.before args s = true := by
  intro w hw
  by_cases g : goodWord w = true
  · exact h1 w (List.mem_filter.mpr ⟨hw, g⟩)
  · refine h3 w (h2 w (List.mem_filter.mpr ⟨hw, ?_⟩))
    show (!goodWord w) = true
    cases hgw : goodWord w
    · rfl
    · exact absurd hgw g
theorem vx_c {args : Array Value} {s : State} {w : Cond} {B : List Cond} (h : w.before args s = true) (t : ∀ w ∈ B, w.before args s = true) : ∀ w' ∈ w :: B, w'.before args s = true := fun w' h' => (List.mem_cons.mp h').elim (fun e => by rw [e]; exact h) (t w')
theorem vx_n {args : Array Value} {s : State} : ∀ w ∈ ([] : List Cond), w.before args s = true := fun _ h => nomatch h
theorem vx_own {args : Array Value} {s : State} {L : List Cond} (h1 : ∀ w ∈ L.filter vx_no, w.before args s = true)
    (hU : (Cond.isRef (.static Bundle.tN "UNASSIGNED_STACK" Bundle.steD)).before args s = true) (hN : (Cond.isRef (.static Bundle.tN "SUPPRESSED_SENTINEL" Bundle.listD)).before args s = true)
    (lU : (Cond.laysStatic Bundle.tN "UNASSIGNED_STACK" Bundle.steD).before args s = true) (lN : (Cond.laysStatic Bundle.tN "SUPPRESSED_SENTINEL" Bundle.listD).before args s = true) : ∀ w ∈ L, w.before args s = true := by
  intro w hw
  by_cases e1 : w = .isRef (.static Bundle.tN "UNASSIGNED_STACK" Bundle.steD)
  · rw [e1]; exact hU
  · by_cases e2 : w = .isRef (.static Bundle.tN "SUPPRESSED_SENTINEL" Bundle.listD)
    · rw [e2]; exact hN
    · by_cases e3 : w = .laysStatic Bundle.tN "UNASSIGNED_STACK" Bundle.steD
      · rw [e3]; exact lU
      · by_cases e4 : w = .laysStatic Bundle.tN "SUPPRESSED_SENTINEL" Bundle.listD
        · rw [e4]; exact lN
        · exact h1 w (List.mem_filter.mpr ⟨hw, by unfold vx_no; rw [decide_eq_true e1, decide_eq_true e2, decide_eq_true e3, decide_eq_true e4]; rfl⟩)
/-- where a static field lies, its class's statics cell in H -/
def vx_L (C n d : String) (A : Nat → Prop) (U : State) (H : Heap) : Prop := ∃ (c : ClassId) (k : Class) (i : Nat) (f : Field) (a : Nat) (cell : Cell), U.vm.findClass C = some c ∧ U.fieldFound? C n d = some (c, k, i, f) ∧ f.isStatic = true ∧ k.statics = some a ∧ H[a]? = some cell ∧ cell.vm.isStatics = true ∧ cell.cls = c ∧ f.slot < cell.slots.size ∧ k.staticTypes[f.slot]? = some f.type ∧ ¬ A a
theorem vx_L.moved {C n d : String} {A : Nat → Prop} {u U : State} {H : Heap} (hvm : u.vm.Alike U.vm) (h : vx_L C n d A u H) : vx_L C n d A U H := by
  obtain ⟨c, k, i, f, a, cell, h1, h2, h3, h4, h5, h6, h7, h8, h9, h10⟩ := h
  obtain ⟨k', hi', he⟩ := State.fieldFound?_setVm hvm h2
  exact ⟨c, k', i, f, a, cell, by rw [hvm.findClass]; exact h1, hi', h3, by rw [he]; exact h4, h5, h6, h7, h8, by rw [he]; exact h9, h10⟩
theorem vx_L.kept {C n d : String} {A : Nat → Prop} {U : State} {H H1 : Heap} (h : vx_L C n d A U H) (hq : ∀ a : Nat, a < H.size → ¬ A a → H1[a]? = H[a]?) : vx_L C n d A U H1 := by
  obtain ⟨c, k, i, f, a, cell, h1, h2, h3, h4, h5, h6, h7, h8, h9, h10⟩ := h
  exact ⟨c, k, i, f, a, cell, h1, h2, h3, h4, by rw [hq a (Array.getElem?_eq_some_iff.mp h5).1 h10]; exact h5, h6, h7, h8, h9, h10⟩
theorem vx_L.narrow {C n d : String} {A B : Nat → Prop} {U : State} {H : Heap} (h : vx_L C n d A U H) (hAB : ∀ q, B q → A q) : vx_L C n d B U H := by
  obtain ⟨c, k, i, f, a, cell, h1, h2, h3, h4, h5, h6, h7, h8, h9, h10⟩ := h
  exact ⟨c, k, i, f, a, cell, h1, h2, h3, h4, h5, h6, h7, h8, h9, fun z => h10 (hAB _ z)⟩
theorem vx_L.word {C n d : String} {A : Nat → Prop} {s : State} {args : Array Value} (h : vx_L C n d A s s.heap) : (Cond.laysStatic C n d).before args s = true := by
  obtain ⟨c, k, i, f, a, cell, h1, h2, h3, h4, h5, h6, h7, h8, h9, -⟩ := h
  show (Cond.laysStatic C n d).holds args s none s [] = true
  exact Cond.laysStatic_of h1 h2 h3 h4 h5 h6 h7 h8 h9
/-- .. and what it holds: null or some reference -/
def vx_Zq (C n d : String) (A : Nat → Prop) (U : State) (H : Heap) : Prop := va_Zq C n d A U H ∧ vx_L C n d A U H
theorem vx_Zq.moved {C n d : String} {A : Nat → Prop} {u U : State} {H : Heap} (hvm : u.vm.Alike U.vm) (h : vx_Zq C n d A u H) : vx_Zq C n d A U H := ⟨va_Zq.moved hvm h.1, vx_L.moved hvm h.2⟩
theorem vx_Zq.kept {C n d : String} {A : Nat → Prop} {U : State} {H H1 : Heap} (h : vx_Zq C n d A U H) (hq : ∀ a : Nat, a < H.size → ¬ A a → H1[a]? = H[a]?) : vx_Zq C n d A U H1 := ⟨va_Zq.kept h.1 hq, vx_L.kept h.2 hq⟩
theorem vx_Zq.narrow {C n d : String} {A B : Nat → Prop} {U : State} {H : Heap} (h : vx_Zq C n d A U H) (hAB : ∀ q, B q → A q) : vx_Zq C n d B U H := ⟨va_Zq.narrow h.1 hAB, vx_L.narrow h.2 hAB⟩
theorem vx_Zqof {args : Array Value} {s : State} {C n d : String} {A : Nat → Prop} (hl : (Cond.laysStatic C n d).before args s = true) (hini : (Cond.initialized C).before args s = true) (h : (Cond.isRef (.static C n d)).before args s = true) (hA : ∀ a : Nat, a < s.heap.size → ¬ A a) : vx_Zq C n d A s s.heap := by
  refine ⟨va_Zqof hl hini h hA, ?_⟩
  obtain ⟨c, k, i, f, a, cell, h1, h2, h3, h4, h5, h6, h7, h8, h9⟩ := Cond.laysStatic_spec hl
  exact ⟨c, k, i, f, a, cell, h1, h2, h3, h4, h5, h6, h7, h8, h9, hA a (Array.getElem?_eq_some_iff.mp h5).1⟩
theorem vx_isRef {C n d : String} {v : Value} {A : Nat → Prop} {s : State} {args : Array Value} (h : va_Z C n d v A s s.heap) (hv : v.isRef = true) : (Cond.isRef (.static C n d)).before args s = true := by
  obtain ⟨cf, kf, fi, f, a, cell, h1, h2, h3, h4, h5, h6, h7, -⟩ := h
  have he : (Term.static C n d).eval args s none [] s = some v := by
    simp [Term.eval, State.fieldNamed?, h1, h2, h4, h5, h6, h7]
  simp only [Cond.before, Cond.holds, Cond.value, he]
  cases v <;> simp_all [Value.isRef]
theorem vx_isRefq {C n d : String} {A : Nat → Prop} {s : State} {args : Array Value} (h : va_Zq C n d A s s.heap) : (Cond.isRef (.static C n d)).before args s = true := by
  rcases h with h | ⟨t, h⟩
  · exact vx_isRef h rfl
  · exact vx_isRef h rfl
/-- the same frame, seen from here: as if the method were called anew in this heap -/
theorem vx_rebase {T : State} (X : Stand p l e R s m args below meth c T locs cells slots) {R' : Room} (hf : R'.frames ≤ R.frames) (hl : R'.locals ≤ R.locals) (hc : cells + R'.cells ≤ R.cells) (hs : slots + R'.slots ≤ R.slots) :
    Stand p l e R' ((T.setVm s.vm).setFrames (.invoking m args :: below)) m args below meth c T [] 0 0 := by
  have htop : (T.setVm s.vm).topJava?.isSome := X.here.top
  have hF : ((T.setVm s.vm).setFrames (.invoking m args :: below)).frames = .invoking m args :: below := State.frames_setFrames _ (State.cur_lt_of_top htop)
  obtain ⟨g₀, hg0⟩ := Option.isSome_iff_exists.mp htop
  obtain ⟨r, hr⟩ := State.topJava?_eq_some.mp hg0
  have hl9 : e.platform.stackLimits (T.setVm s.vm).me = e.platform.stackLimits s.me := X.limits
  have hb9 : (T.setVm s.vm).me.stackBytes = s.me.stackBytes := X.bytes
  refine ⟨X.admits, X.cas, X.clock, hF, ?_, X.hears, X.method, X.code, X.here, X.tail, X.warmed, ?_, ?_, ?_⟩
  · have h := X.room
    have hU : ((T.setVm s.vm).setFrames (.invoking m args :: below)).localsInUse = s.localsInUse := by
      rw [State.localsInUse_invoking hF (meth := meth) (c := c) X.method X.code, State.localsInUse_invoking X.frames X.method X.code]
    simp only [State.hasRoom, Bool.and_eq_true, decide_eq_true_eq] at h ⊢
    obtain ⟨⟨⟨⟨h1, h2, h3, h4, h5, h6⟩, h7⟩, h8⟩, h9⟩ := h
    rw [X.frames, List.length_cons] at h2 h3
    have q1 := X.heapSize
    have q2 := X.used
    simp only [hF, hU, List.length_cons, State.stackLimits_setFrames, State.stackBytes_setFrames, hl9, hb9]
    refine ⟨⟨⟨⟨by omega, by omega, by omega, by omega, by omega, h6⟩, ?_⟩, ?_⟩, X.book⟩
    · show T.heap.size + R'.cells ≤ e.platform.maxCells
      omega
    · show T.slotsUsed + R'.slots ≤ e.platform.maxSlots
      omega
  · rw [State.stackLimits_setFrames]; rfl
  · rw [State.stackBytes_setFrames]; rfl
  · refine ⟨?_, Nat.le_refl _, Nat.le_refl _, ?_, ?_, fun a c9 h9 => ⟨c9, h9, rfl, rfl, fun _ _ => rfl⟩⟩
    · obtain ⟨t, ht, -⟩ := State.frames_cons hr
      show T.setVm s.vm = { ((T.setVm s.vm).setFrames (.invoking m args :: below)).setFrames (T.setVm s.vm).frames with heap := T.heap, slotsUsed := T.slotsUsed }
      rw [State.setFrames_setFrames, State.setFrames_self ht]
      rfl
    · show T.slotsUsed = T.slotsUsed + ((T.heap.toList.drop T.heap.size).map (·.slots.size)).sum
      rw [List.drop_eq_nil_of_le (Nat.le_of_eq Array.length_toList)]
      rfl
    · show ((T.heap.toList.drop T.heap.size).map (·.slots.size)).sum ≤ 0
      rw [List.drop_eq_nil_of_le (Nat.le_of_eq Array.length_toList)]
      exact Nat.le_refl _
/-- 'throw new E()': new; dup; invokespecial; athrow -/
theorem vx_throw0 {cc : ByteArray} {pc : Nat} (hexec : p.tables.exec = Jvm.exec) (hb : c.code = cc) (hl : l.stackTraces = false) {own cls : String} {names : List String} {ik ic mc ms : Nat} {A : Nat → Prop}
    (hown : s.vm.findClass own = some m.cls) (hcls : Bundle.fit cls = true) (hnames : ∀ n ∈ names, Bundle.fit n = true)
    (hk : (Cond.classLink own ik cls).before args s = true) (hini : (Cond.initialized cls).before args s = true) (hat : ∀ w ∈ vx_at0 own ic cls names, w.before args s = true)
    (hgood : ∀ w ∈ Cond.classLink own ik cls :: Cond.initialized cls :: vx_at0 own ic cls names, vx_ot w = true)
    (hU : vx_Zq Bundle.tN "UNASSIGNED_STACK" Bundle.steD A s s.heap) (hN : vx_Zq Bundle.tN "SUPPRESSED_SENTINEL" Bundle.listD A s s.heap) (hS : va_S A s.heap H locs) (hsize : ls.size = c.maxLocals)
    (d0 : decode cc pc = .ok (.new ik, 3)) (d3 : decode cc (pc + 3) = .ok (.dup, 1)) (d4 : decode cc (pc + 4) = .ok (.invokespecial ic, 3)) (d7 : decode cc (pc + 7) = .ok (.athrow, 1))
    (hout : ∀ x ∈ c.exceptionTable.toList, covers x (pc + 7) = false)
    (hRframes : names.length + 3 < R.frames) (hRlocals : (rest.map fun v => v.category).sum + (13 * (names.length + 1) + 42) ≤ R.locals) (hRcells : cells + 1 ≤ R.cells) (hRslots : slots + 6 ≤ R.slots) (hlocks : meth.locks = false)
    (hx : ∀ t : State, s.vm.Alike t.vm → H.size ≤ t.heap.size → (∀ q : Nat, q < H.size → t.heap[q]? = H[q]?) → XC cls s t)
    (hf : ∀ z ∈ locs, free z.base) (hc : cells + 1 ≤ mc) (hs : slots + 6 ≤ ms) :
    W p l e R s m args below meth c H locs cells slots (vx_MQ below Qc XC args s mc ms free) (F0 m pc ls rest) := by
  intro T hT X
  have htr : e.platform.stackTraces = false := (show e.platform.stackTraces = l.stackTraces by rw [X.admits.platform]).trans hl
  have Y := vx_rebase X (R' := { frames := R.frames, locals := R.locals, cells := 1, slots := 6 }) (Nat.le_refl _) (Nat.le_refl _) hRcells hRslots
  obtain ⟨s', hA⟩ : ∃ z, z = (T.setVm s.vm).setFrames (.invoking m args :: below) := ⟨_, rfl⟩
  rw [← hA] at Y
  have hvm : s'.vm = s.vm := by rw [hA]; rfl
  have hhp : s'.heap = H := by rw [hA]; exact hT
  have hW0 : s.WarmedH s'.vm := by rw [hvm]; exact State.WarmedH.refl s
  have hat' : ∀ w ∈ vx_at0 own ic cls names, w.before args s' = true := fun w hw => vx_ot_at hW0 hvm.symm (hgood w (List.mem_cons_of_mem _ (List.mem_cons_of_mem _ hw))) (hat w hw)
  have hk' : (Cond.classLink own ik cls).before args s' = true := vx_ot_at hW0 hvm.symm (hgood _ List.mem_cons_self) hk
  have hini' : (Cond.initialized cls).before args s' = true := vx_ot_at hW0 hvm.symm (hgood _ (List.mem_cons_of_mem _ List.mem_cons_self)) hini
  have hU' : vx_Zq Bundle.tN "UNASSIGNED_STACK" Bundle.steD A s' s'.heap := by rw [hhp]; exact vx_Zq.moved hW0.alike (hU.kept hS.2.1)
  have hN' : vx_Zq Bundle.tN "SUPPRESSED_SENTINEL" Bundle.listD A s' s'.heap := by rw [hhp]; exact vx_Zq.moved hW0.alike (hN.kept hS.2.1)
  have h : ∀ w ∈ Bundle.ownAtoms0 own ic cls names, w.before args s' = true := vx_own hat' (vx_isRefq hU'.1) (vx_isRefq hN'.1) hU'.2.word hN'.2.word
  have hown' : s'.vm.findClass own = some m.cls := by rw [hvm]; exact hown
  have hins : (Cond.instantiable cls 6).before args s' = true := h _ (by simp [Bundle.ownAtoms0])
  obtain ⟨vm₁, cX, kX, hfX, hkX, -, -, X₁, st1⟩ := Y.newCold hexec (own := own) (C := cls) (index := ik) (n := 6) hown' hk' hins hini'
    (g := F0 m pc ls rest) rfl (by rw [hb]; exact d0) (Nat.le_refl _) (Nat.le_refl _)
  generalize hT1 : (T.setVm vm₁).pushCell { cls := cX, slots := kX.instanceTypes.map defaultValue, vm := .none } = T1 at X₁ st1
  have hcat : (Value.ref T.heap.size).category = 1 := rfl
  have hcellA : T1.heap[T.heap.size]? = some (freshCell cX kX) := by rw [← hT1]; exact State.heap_pushCell_size _ _
  have d3' : decode c.code (pc + 3) = .ok (.dup, 1) := by rw [hb]; exact d3
  obtain ⟨U, hsteps, hrun, hend, hW, hsame, ce, hce, hO⟩ := X₁.ctorThrow0 hexec htr (own := own) (cls := cls) (names := names) (ic := ic) hown' hcls hnames h (fun x hx => nomatch hx) hfX hkX hcellA (by rw [hhp, hT]; exact Nat.le_refl _)
    (g := { method := m, pc := pc + 4, locals := ls, stack := .ref T.heap.size :: .ref T.heap.size :: rest, locked := none }) rfl hsize rfl rfl (rest := rest) rfl
    (by rw [hb]; exact d4) (by rw [hb]; exact d7) hout hRframes (by simp only [List.map_cons, List.sum_cons, hcat]; omega) hlocks
  obtain ⟨f1, f2⟩ := vx_frame hsame
  rw [hhp] at f1 f2
  have hWs : s.WarmedH U.vm := State.WarmedH.trans hW0 hW
  have hcl : s.vm.findClass cls = some ce.cls := by
    have h9 := hO.cls
    rw [hvm] at h9
    exact h9
  have hall : s.sameButNew ({ U with vm := s.vm } : State) locs mc ms := by
    subst hA
    obtain ⟨e1, e2⟩ := hsame
    rw [State.setFrames_setFrames] at e1
    have h2 : (T.setVm s.vm).sameButNew ({ U with vm := s.vm } : State) [] (0 + 1) (0 + 6) := ⟨e1, e2⟩
    have h3 := X.same.trans h2
    rw [List.append_nil] at h3
    exact h3.mono hc hs
  refine ⟨U, ?_, .threw T.heap.size, hrun, hend, Or.inr ⟨T.heap.size, rfl, cls, ce, locs, hx U hWs.alike f1 (fun q hq => f2 q hq (fun z hz => nomatch hz)), hce, hO.vm, hcl, hWs, hall, hf⟩⟩
  refine st1 _ ?_
  show Steps p.tables e below (T1.setTop { method := m, pc := pc + 3, locals := ls, stack := .ref T.heap.size :: rest, locked := none }) _
  jvm_step X₁.here [X₁.here.top, hexec, d3', Value.category]
  exact hsteps
/-- 'throw new E("text")': new; dup; ldc; invokespecial; athrow -/
theorem vx_throwS {cc : ByteArray} {pc : Nat} (hexec : p.tables.exec = Jvm.exec) (hb : c.code = cc) (hl : l.stackTraces = false) {own cls text : String} {names : List String} {ik is ic mc ms sa : Nat} {A : Nat → Prop}
    (hown : s.vm.findClass own = some m.cls) (hcls : Bundle.fit cls = true) (hnames : ∀ n ∈ names, Bundle.fit n = true)
    (hk : (Cond.classLink own ik cls).before args s = true) (hini : (Cond.initialized cls).before args s = true) (hstr : vk_R own is text sa s) (hat : ∀ w ∈ vx_atS own ic cls names, w.before args s = true)
    (hgood : ∀ w ∈ Cond.classLink own ik cls :: Cond.initialized cls :: vx_atS own ic cls names, vx_ot w = true)
    (hU : vx_Zq Bundle.tN "UNASSIGNED_STACK" Bundle.steD A s s.heap) (hN : vx_Zq Bundle.tN "SUPPRESSED_SENTINEL" Bundle.listD A s s.heap) (hS : va_S A s.heap H locs) (hsize : ls.size = c.maxLocals)
    (d0 : decode cc pc = .ok (.new ik, 3)) (d3 : decode cc (pc + 3) = .ok (.dup, 1)) (d4 : decode cc (pc + 4) = .ok (.ldc is, 2)) (d6 : decode cc (pc + 6) = .ok (.invokespecial ic, 3)) (d9 : decode cc (pc + 9) = .ok (.athrow, 1))
    (hout : ∀ x ∈ c.exceptionTable.toList, covers x (pc + 9) = false)
    (hRframes : names.length + 3 < R.frames) (hRlocals : (rest.map fun v => v.category).sum + (13 * (names.length + 1) + 43) ≤ R.locals) (hRcells : cells + 1 ≤ R.cells) (hRslots : slots + 6 ≤ R.slots) (hlocks : meth.locks = false)
    (hx : ∀ t : State, s.vm.Alike t.vm → H.size ≤ t.heap.size → (∀ q : Nat, q < H.size → t.heap[q]? = H[q]?) → XC cls s t)
    (hf : ∀ z ∈ locs, free z.base) (hc : cells + 1 ≤ mc) (hs : slots + 6 ≤ ms) :
    W p l e R s m args below meth c H locs cells slots (vx_MQ below Qc XC args s mc ms free) (F0 m pc ls rest) := by
  intro T hT X
  have htr : e.platform.stackTraces = false := (show e.platform.stackTraces = l.stackTraces by rw [X.admits.platform]).trans hl
  have Y := vx_rebase X (R' := { frames := R.frames, locals := R.locals, cells := 1, slots := 6 }) (Nat.le_refl _) (Nat.le_refl _) hRcells hRslots
  obtain ⟨s', hA⟩ : ∃ z, z = (T.setVm s.vm).setFrames (.invoking m args :: below) := ⟨_, rfl⟩
  rw [← hA] at Y
  have hvm : s'.vm = s.vm := by rw [hA]; rfl
  have hhp : s'.heap = H := by rw [hA]; exact hT
  have hW0 : s.WarmedH s'.vm := by rw [hvm]; exact State.WarmedH.refl s
  have hat' : ∀ w ∈ vx_atS own ic cls names, w.before args s' = true := fun w hw => vx_ot_at hW0 hvm.symm (hgood w (List.mem_cons_of_mem _ (List.mem_cons_of_mem _ hw))) (hat w hw)
  have hk' : (Cond.classLink own ik cls).before args s' = true := vx_ot_at hW0 hvm.symm (hgood _ List.mem_cons_self) hk
  have hini' : (Cond.initialized cls).before args s' = true := vx_ot_at hW0 hvm.symm (hgood _ (List.mem_cons_of_mem _ List.mem_cons_self)) hini
  have hU' : vx_Zq Bundle.tN "UNASSIGNED_STACK" Bundle.steD A s' s'.heap := by rw [hhp]; exact vx_Zq.moved hW0.alike (hU.kept hS.2.1)
  have hN' : vx_Zq Bundle.tN "SUPPRESSED_SENTINEL" Bundle.listD A s' s'.heap := by rw [hhp]; exact vx_Zq.moved hW0.alike (hN.kept hS.2.1)
  have h : ∀ w ∈ Bundle.ownAtoms own ic cls names, w.before args s' = true := vx_own hat' (vx_isRefq hU'.1) (vx_isRefq hN'.1) hU'.2.word hN'.2.word
  have hown' : s'.vm.findClass own = some m.cls := by rw [hvm]; exact hown
  have hins : (Cond.instantiable cls 6).before args s' = true := h _ (by simp [Bundle.ownAtoms])
  obtain ⟨vm₁, cX, kX, hfX, hkX, -, -, X₁, st1⟩ := Y.newCold hexec (own := own) (C := cls) (index := ik) (n := 6) hown' hk' hins hini'
    (g := F0 m pc ls rest) rfl (by rw [hb]; exact d0) (Nat.le_refl _) (Nat.le_refl _)
  generalize hT1 : (T.setVm vm₁).pushCell { cls := cX, slots := kX.instanceTypes.map defaultValue, vm := .none } = T1 at X₁ st1
  have hcat : (Value.ref T.heap.size).category = 1 := rfl
  have hcellA : T1.heap[T.heap.size]? = some (freshCell cX kX) := by rw [← hT1]; exact State.heap_pushCell_size _ _
  have d3' : decode c.code (pc + 3) = .ok (.dup, 1) := by rw [hb]; exact d3
  have d4' : decode c.code (pc + 4) = .ok (.ldc is, 2) := by rw [hb]; exact d4
  have hstr' : vk_R own is text sa s' := vk_R.warm hW0 hstr
  obtain ⟨U, hsteps, hrun, hend, hW, hsame, ce, hce, hO⟩ := X₁.ctorThrowS hexec htr (own := own) (cls := cls) (names := names) (ic := ic) hown' hcls hnames h (fun x hx => nomatch hx) hfX hkX hcellA (by rw [hhp, hT]; exact Nat.le_refl _) (msg := .ref sa) rfl
    (g := { method := m, pc := pc + 6, locals := ls, stack := .ref sa :: .ref T.heap.size :: .ref T.heap.size :: rest, locked := none }) rfl hsize rfl rfl (rest := rest) rfl
    (by rw [hb]; exact d6) (by rw [hb]; exact d9) hout hRframes (by simp only [List.map_cons, List.sum_cons, hcat]; omega) hlocks
  obtain ⟨f1, f2⟩ := vx_frame hsame
  rw [hhp] at f1 f2
  have hWs : s.WarmedH U.vm := State.WarmedH.trans hW0 hW
  have hcl : s.vm.findClass cls = some ce.cls := by
    have h9 := hO.cls
    rw [hvm] at h9
    exact h9
  have hall : s.sameButNew ({ U with vm := s.vm } : State) locs mc ms := by
    subst hA
    obtain ⟨e1, e2⟩ := hsame
    rw [State.setFrames_setFrames] at e1
    have h2 : (T.setVm s.vm).sameButNew ({ U with vm := s.vm } : State) [] (0 + 1) (0 + 6) := ⟨e1, e2⟩
    have h3 := X.same.trans h2
    rw [List.append_nil] at h3
    exact h3.mono hc hs
  refine ⟨U, ?_, .threw T.heap.size, hrun, hend, Or.inr ⟨T.heap.size, rfl, cls, ce, locs, hx U hWs.alike f1 (fun q hq => f2 q hq (fun z hz => nomatch hz)), hce, hO.vm, hcl, hWs, hall, hf⟩⟩
  refine st1 _ ?_
  show Steps p.tables e below (T1.setTop { method := m, pc := pc + 3, locals := ls, stack := .ref T.heap.size :: rest, locked := none }) _
  jvm_step X₁.here [X₁.here.top, hexec, d3', Value.category]
  exact X₁.ldcString hexec (own := own) (text := text) (index := is) (a := sa) hown' hstr'.1 hstr'.2
    (g := { method := m, pc := pc + 4, locals := ls, stack := .ref T.heap.size :: .ref T.heap.size :: rest, locked := none }) rfl d4' _ hsteps
/-- 'throw new E("text")', the text by a wide index -/
theorem vx_throwSW {cc : ByteArray} {pc : Nat} (hexec : p.tables.exec = Jvm.exec) (hb : c.code = cc) (hl : l.stackTraces = false) {own cls text : String} {names : List String} {ik is ic mc ms sa : Nat} {A : Nat → Prop}
    (hown : s.vm.findClass own = some m.cls) (hcls : Bundle.fit cls = true) (hnames : ∀ n ∈ names, Bundle.fit n = true)
    (hk : (Cond.classLink own ik cls).before args s = true) (hini : (Cond.initialized cls).before args s = true) (hstr : vk_R own is text sa s) (hat : ∀ w ∈ vx_atS own ic cls names, w.before args s = true)
    (hgood : ∀ w ∈ Cond.classLink own ik cls :: Cond.initialized cls :: vx_atS own ic cls names, vx_ot w = true)
    (hU : vx_Zq Bundle.tN "UNASSIGNED_STACK" Bundle.steD A s s.heap) (hN : vx_Zq Bundle.tN "SUPPRESSED_SENTINEL" Bundle.listD A s s.heap) (hS : va_S A s.heap H locs) (hsize : ls.size = c.maxLocals)
    (d0 : decode cc pc = .ok (.new ik, 3)) (d3 : decode cc (pc + 3) = .ok (.dup, 1)) (d4 : decode cc (pc + 4) = .ok (.ldc_w is, 3)) (d7 : decode cc (pc + 7) = .ok (.invokespecial ic, 3)) (d10 : decode cc (pc + 10) = .ok (.athrow, 1))
    (hout : ∀ x ∈ c.exceptionTable.toList, covers x (pc + 10) = false)
    (hRframes : names.length + 3 < R.frames) (hRlocals : (rest.map fun v => v.category).sum + (13 * (names.length + 1) + 43) ≤ R.locals) (hRcells : cells + 1 ≤ R.cells) (hRslots : slots + 6 ≤ R.slots) (hlocks : meth.locks = false)
    (hx : ∀ t : State, s.vm.Alike t.vm → H.size ≤ t.heap.size → (∀ q : Nat, q < H.size → t.heap[q]? = H[q]?) → XC cls s t)
    (hf : ∀ z ∈ locs, free z.base) (hc : cells + 1 ≤ mc) (hs : slots + 6 ≤ ms) :
    W p l e R s m args below meth c H locs cells slots (vx_MQ below Qc XC args s mc ms free) (F0 m pc ls rest) := by
  intro T hT X
  have htr : e.platform.stackTraces = false := (show e.platform.stackTraces = l.stackTraces by rw [X.admits.platform]).trans hl
  have Y := vx_rebase X (R' := { frames := R.frames, locals := R.locals, cells := 1, slots := 6 }) (Nat.le_refl _) (Nat.le_refl _) hRcells hRslots
  obtain ⟨s', hA⟩ : ∃ z, z = (T.setVm s.vm).setFrames (.invoking m args :: below) := ⟨_, rfl⟩
  rw [← hA] at Y
  have hvm : s'.vm = s.vm := by rw [hA]; rfl
  have hhp : s'.heap = H := by rw [hA]; exact hT
  have hW0 : s.WarmedH s'.vm := by rw [hvm]; exact State.WarmedH.refl s
  have hat' : ∀ w ∈ vx_atS own ic cls names, w.before args s' = true := fun w hw => vx_ot_at hW0 hvm.symm (hgood w (List.mem_cons_of_mem _ (List.mem_cons_of_mem _ hw))) (hat w hw)
  have hk' : (Cond.classLink own ik cls).before args s' = true := vx_ot_at hW0 hvm.symm (hgood _ List.mem_cons_self) hk
  have hini' : (Cond.initialized cls).before args s' = true := vx_ot_at hW0 hvm.symm (hgood _ (List.mem_cons_of_mem _ List.mem_cons_self)) hini
  have hU' : vx_Zq Bundle.tN "UNASSIGNED_STACK" Bundle.steD A s' s'.heap := by rw [hhp]; exact vx_Zq.moved hW0.alike (hU.kept hS.2.1)
  have hN' : vx_Zq Bundle.tN "SUPPRESSED_SENTINEL" Bundle.listD A s' s'.heap := by rw [hhp]; exact vx_Zq.moved hW0.alike (hN.kept hS.2.1)
  have h : ∀ w ∈ Bundle.ownAtoms own ic cls names, w.before args s' = true := vx_own hat' (vx_isRefq hU'.1) (vx_isRefq hN'.1) hU'.2.word hN'.2.word
  have hown' : s'.vm.findClass own = some m.cls := by rw [hvm]; exact hown
  have hins : (Cond.instantiable cls 6).before args s' = true := h _ (by simp [Bundle.ownAtoms])
  obtain ⟨vm₁, cX, kX, hfX, hkX, -, -, X₁, st1⟩ := Y.newCold hexec (own := own) (C := cls) (index := ik) (n := 6) hown' hk' hins hini'
    (g := F0 m pc ls rest) rfl (by rw [hb]; exact d0) (Nat.le_refl _) (Nat.le_refl _)
  generalize hT1 : (T.setVm vm₁).pushCell { cls := cX, slots := kX.instanceTypes.map defaultValue, vm := .none } = T1 at X₁ st1
  have hcat : (Value.ref T.heap.size).category = 1 := rfl
  have hcellA : T1.heap[T.heap.size]? = some (freshCell cX kX) := by rw [← hT1]; exact State.heap_pushCell_size _ _
  have d3' : decode c.code (pc + 3) = .ok (.dup, 1) := by rw [hb]; exact d3
  have d4' : decode c.code (pc + 4) = .ok (.ldc_w is, 3) := by rw [hb]; exact d4
  have hstr' : vk_R own is text sa s' := vk_R.warm hW0 hstr
  obtain ⟨U, hsteps, hrun, hend, hW, hsame, ce, hce, hO⟩ := X₁.ctorThrowS hexec htr (own := own) (cls := cls) (names := names) (ic := ic) hown' hcls hnames h (fun x hx => nomatch hx) hfX hkX hcellA (by rw [hhp, hT]; exact Nat.le_refl _) (msg := .ref sa) rfl
    (g := { method := m, pc := pc + 7, locals := ls, stack := .ref sa :: .ref T.heap.size :: .ref T.heap.size :: rest, locked := none }) rfl hsize rfl rfl (rest := rest) rfl
    (by rw [hb]; exact d7) (by rw [hb]; exact d10) hout hRframes (by simp only [List.map_cons, List.sum_cons, hcat]; omega) hlocks
  obtain ⟨f1, f2⟩ := vx_frame hsame
  rw [hhp] at f1 f2
  have hWs : s.WarmedH U.vm := State.WarmedH.trans hW0 hW
  have hcl : s.vm.findClass cls = some ce.cls := by
    have h9 := hO.cls
    rw [hvm] at h9
    exact h9
  have hall : s.sameButNew ({ U with vm := s.vm } : State) locs mc ms := by
    subst hA
    obtain ⟨e1, e2⟩ := hsame
    rw [State.setFrames_setFrames] at e1
    have h2 : (T.setVm s.vm).sameButNew ({ U with vm := s.vm } : State) [] (0 + 1) (0 + 6) := ⟨e1, e2⟩
    have h3 := X.same.trans h2
    rw [List.append_nil] at h3
    exact h3.mono hc hs
  refine ⟨U, ?_, .threw T.heap.size, hrun, hend, Or.inr ⟨T.heap.size, rfl, cls, ce, locs, hx U hWs.alike f1 (fun q hq => f2 q hq (fun z hz => nomatch hz)), hce, hO.vm, hcl, hWs, hall, hf⟩⟩
  refine st1 _ ?_
  show Steps p.tables e below (T1.setTop { method := m, pc := pc + 3, locals := ls, stack := .ref T.heap.size :: rest, locked := none }) _
  jvm_step X₁.here [X₁.here.top, hexec, d3', Value.category]
  exact X₁.ldcStringW hexec (own := own) (text := text) (index := is) (a := sa) hown' hstr'.1 hstr'.2
    (g := { method := m, pc := pc + 4, locals := ls, stack := .ref T.heap.size :: .ref T.heap.size :: rest, locked := none }) rfl d4' _ hsteps
end Ends
section Bodies
variable {l : Launch}
theorem vx_ofW {y : MethodName} {ws ws' : List Cond} {rm : Room} {Pc : Array Value → State → Prop} {Qc : Array Value → State → Outcome → State → Prop} {XC : String → State → State → Prop} {mc ms : Nat} {free : Addr → Prop} {cc : ByteArray} {maxL : Nat} {ret : Option FieldType}
    (hy : plainName y.cls = true) (hw : ws = Cond.code y cc maxL ret :: ws')
    (body : ∀ p e s m args below meth c s₁, BodyLoose p l y (headSpec ws rm) cc maxL ret e s m args below meth c s₁ → c.maxLocals = maxL → (∀ x ∈ c.exceptionTable.toList, False) → Pc args s →
      W p l e (headSpec ws rm).room s m args below meth c s.heap [] 0 0 (vx_MQ below Qc XC args s mc ms free) (entryFrame m args maxL)) : vx_Met l y ws rm Pc Qc XC mc ms free := by
  refine MetFree.of_bodyS (code := cc) (maxLocals := maxL) (ret := ret) hy ?_ ?_
  · intro args s m h hn
    obtain ⟨meth, c, h1, h2, h3, h4, h5, h6, -, -⟩ := Cond.code_spec hn (atoms_spec (ws := ws) h _ (by rw [hw]; exact List.mem_cons_self))
    exact ⟨meth, c, h1, h2, h3, h4, h5, h6⟩
  · intro p e s m args below meth c s₁ B hml hP _
    have hh0 : s₁.heap = s.heap := by rw [B.state]; rfl
    have ht : ∀ x ∈ c.exceptionTable.toList, False := by
      obtain ⟨meth9, c9, h1, h2, -, -, -, -, h7, -⟩ := Cond.code_spec B.named (atoms_spec (ws := ws) B.pre _ (by rw [hw]; exact List.mem_cons_self))
      cases Option.some.inj (h1.symm.trans B.method)
      cases Option.some.inj (h2.symm.trans (Stand.of_body B).code)
      intro x hx
      rw [Array.isEmpty_iff.mp h7] at hx
      cases hx
    obtain ⟨t, a1, o, b1, b2, b3⟩ := body p e s m args below meth c s₁ B hml ht hP s₁ hh0 (Stand.of_body B)
    exact ⟨t, o, a1, b1, b2, b3⟩
/-- the table of a body with handlers -/
theorem vx_table {p : Program} {x y : MethodName} {S : Spec} {cc bytes : ByteArray} {maxL maxL' : Nat} {ret ret' : Option FieldType} {e : Env} {s s₁ : State} {m : MethodId} {args : Array Value} {below : List Frame} {meth : Method} {c : Code} {hh : List (Nat × Nat × Nat × Nat)}
    (B : BodyLoose p l y S cc maxL ret e s m args below meth c s₁) (h : (Cond.codeWith y bytes maxL' ret' hh).before args s = true) : c.exceptionTable.toList = tableOf hh := by
  obtain ⟨m9, meth9, c9, hn9, h1, h2, -, -, h6, -⟩ := Cond.codeWith_spec h
  cases Option.some.inj (hn9.symm.trans B.named)
  cases Option.some.inj (h1.symm.trans B.method)
  cases Option.some.inj (h2.symm.trans (Stand.of_body B).code)
  rw [← h6, table_eq]
end Bodies
end VXA
/-! ===== END ===== -/
/-! ===== BEGIN a static call of a method with an exception table ===== -/
section VXS
variable {p : Program} {l : Launch} {e : Env} {R : Room} {s : State} {m : MethodId} {args : Array Value} {below : List Frame} {meth : Method} {c : Code} {T : State} {H : Heap} {locs : List Loc} {cells slots : Nat}
abbrev vx_CSW (R : Room) (s : State) (args : Array Value) (own : String) (index : Nat) (y : MethodName) (bytes : ByteArray) (maxL : Nat) (ret : Option FieldType) (hh : List (Nat × Nat × Nat × Nat)) (ws : List Cond) (rm : Room) (mc ms n : Nat) : Prop :=
  (rm.cells = mc ∧ rm.slots = ms ∧ rm.frames + 1 ≤ R.frames ∧ 8 + (maxL + 11) + rm.locals ≤ R.locals ∧ (∀ w ∈ ws, ∀ (a' : Array Value) (U : State), s.WarmedH U.vm → w.before a' U = true) ∧ Cond.codeWith y bytes maxL ret hh ∈ ws) ∧
  (Cond.codeWith y bytes maxL ret hh).before args s = true ∧ (Cond.initialized y.cls).before args s = true ∧ (y.cls ≠ "java/lang/invoke/MethodHandle" ∧ y.cls ≠ "java/lang/invoke/VarHandle") ∧
  (∀ sig, parseMethodDescriptor y.desc = some sig → n = sig.parameters.length) ∧ (Cond.methodLink own index y).before args s = true ∧ (Cond.static y).before args s = true
theorem vx_cwSW {own : String} {index maxL mc ms : Nat} {y : MethodName} {bytes : ByteArray} {ret : Option FieldType} {hh : List (Nat × Nat × Nat × Nat)} {Ts ws ws' : List Cond} {rm : Room} (n : Nat) (ht : ∀ w ∈ Ts, w.before args s = true) (hT : GoodIn Ts (va_wsS own index y ws)) (hw : ws = Cond.codeWith y bytes maxL ret hh :: ws') (hrc : rm.cells = mc) (hrs : rm.slots = ms)
    (hd : y.cls ≠ "java/lang/invoke/MethodHandle" ∧ y.cls ≠ "java/lang/invoke/VarHandle" ∧ (parseMethodDescriptor y.desc).map (fun d => d.parameters.length) = some n) (hR : rm.frames + 1 ≤ R.frames ∧ 8 + (maxL + 11) + rm.locals ≤ R.locals) :
    vx_CSW R s args own index y bytes maxL ret hh ws rm mc ms n := by
  have ok : ∀ w ∈ va_wsS own index y ws, w.before args s = true := fun w h => ht w (hT w h).1
  have hG : GoodIn Ts ws := fun w h => hT w (by unfold va_wsS; exact List.mem_append_right _ h)
  have hc : Cond.codeWith y bytes maxL ret hh ∈ ws := by rw [hw]; exact List.mem_cons_self
  refine ⟨⟨hrc, hrs, hR.1, hR.2, pay_in ht hG, hc⟩, ht _ (hG _ hc).1, ok _ (by simp [va_wsS]), ⟨hd.1, hd.2.1⟩, fun sig h => ?_, ok _ (by simp [va_wsS]), ok _ (by simp [va_wsS])⟩
  have h2 := hd.2.2
  rw [h] at h2
  exact (Option.some.inj h2).symm
theorem vx_callSW (X : Stand p l e R s m args below meth c T locs cells slots) (hexec : p.tables.exec = Jvm.exec) {own : String} {index : Nat} {y : MethodName} {bytes : ByteArray} {maxL : Nat} {ret : Option FieldType} {hh : List (Nat × Nat × Nat × Nat)}
    (hown : s.vm.findClass own = some m.cls) (hlink : (Cond.methodLink own index y).before args s = true) (hstat : (Cond.static y).before args s = true) (hinit : (Cond.initialized y.cls).before args s = true)
    (hcode : (Cond.codeWith y bytes maxL ret hh).before args s = true) (hy : y.cls ≠ "java/lang/invoke/MethodHandle" ∧ y.cls ≠ "java/lang/invoke/VarHandle")
    {W9 : Nat} {Pre : Pt → Array Value → Prop} {Post : Pt → Array Value → Option Value → Pt → Prop} (hK : Back l R p e below s args y 3 W9 Pre Post)
    {g : JFrame} (hg : g.method = m) (hsize : g.locals.size = c.maxLocals) {argsL rest : List Value} (hlen : ∀ sig, parseMethodDescriptor y.desc = some sig → argsL.length = sig.parameters.length)
    (hstack : g.stack = argsL.reverse ++ rest) (hW : 2 * g.monitorRoom + (rest.map fun v => v.category).sum ≤ W9) (hdg : decode c.code g.pc = .ok (.invokestatic index, 3))
    (hpre : ∀ vm₁, s.WarmedH vm₁ → Pre ⟨T.setVm vm₁, locs, cells, slots⟩ argsL.toArray) :
    ∃ (v : Option Value) (vm₁ : Vm) (B : Pt), s.WarmedH vm₁ ∧ Stand p l e R s m args below meth c B.U B.locs B.cells B.slots ∧ Post ⟨T.setVm vm₁, locs, cells, slots⟩ argsL.toArray v B ∧
      ∀ target, Steps p.tables e below (B.U.setTop { g with pc := g.pc + 3, stack := v.toList ++ rest }) target → Steps p.tables e below (T.setTop g) target := by
  obtain ⟨mk, methM, cM, hnamed, hmethM, -, -, -, -, -, -, hsigM⟩ := Cond.codeWith_spec hcode
  have hstatic : methM.isStatic = true := Cond.static_spec hnamed hmethM hstat
  obtain ⟨kP, hkP, -⟩ := className_of_methodNamed hnamed
  have hinitP : kP.init = .initialized := Cond.initialized_spec (findClass_of_methodNamed hnamed) hkP hinit
  obtain ⟨vm₁, X₁, hstep₁⟩ := X.invokestatic hexec hown hlink hnamed hmethM hstatic hkP hinitP hy (g := g) hg (argsL := argsL) (rest := rest) (hlen _ hsigM) hstack hdg
  obtain ⟨v, B, X', hpost, hsteps⟩ := hK m meth c ⟨T.setVm vm₁, locs, cells, slots⟩ { g with stack := rest } (.invokestatic index) mk argsL.toArray X₁ hg hsize hdg hW (X₁.named hnamed) (hpre vm₁ X₁.warmed)
  exact ⟨v, vm₁, B, X₁.warmed, X', hpost, fun target h => hstep₁ _ fun acts => by rw [doInvoke_state]; exact hsteps.trans h⟩
theorem vx_runSW {y : MethodName} {bytes cc : ByteArray} {maxL nL mc ms n index : Nat} {ret : Option FieldType} {hh : List (Nat × Nat × Nat × Nat)} {ws : List Cond} {rm : Room} {Pc : Array Value → State → Prop} {Qc : Array Value → State → Outcome → State → Prop} {free : Addr → Prop} {Ts : List Cond} {own : String} {As rest : List Value} {g : JFrame}
    (S : CallFix p m c cc nL s args Ts own) (hM : Met l y ws rm Pc Qc mc ms free) (cw : vx_CSW R s args own index y bytes maxL ret hh ws rm mc ms n) (hp : PreS s H Pc As)
    (hg : g.method = m) (hn : As.length = n) (hsize : g.locals.size = nL) (hstack : g.stack = As.reverse ++ rest) (hW : 2 * g.monitorRoom + (rest.map fun v => v.category).sum ≤ 8) (hdg : decode cc g.pc = .ok (.invokestatic index, 3)) (hf : cells + mc ≤ R.cells ∧ slots + ms ≤ R.slots) :
    va_Run p l e R s m args below meth c H locs cells slots mc ms g rest (Qc As.toArray) (free) := by
  obtain ⟨⟨hrc, hrs, hfr, hlo, hws, hcw⟩, hcode, hini, hy, hlen, hl, hstt⟩ := cw
  have hK : Back l R p e below s args y 3 8 (PreOf R mc ms Pc) (PostOf Qc mc ms free) := va_backW (hh := hh) (bytes := bytes) (maxL := maxL) (ret := ret) hM hp.1 hrc hrs hfr hlo hws hcw (fun a' U hW => word_at hW (Or.inl (by first | rfl | simp [Cond.onTables, Cond.keeps, Cond.steady])) hini)
  obtain ⟨hx, hb, hml, ho, -⟩ := S
  intro T hT X
  obtain ⟨v, vm₁, ⟨U', l2, c2, s2⟩, hW₁, X', ⟨g', mk, t, L, e1, e2, hq, h1, hL, h2, h3⟩, st⟩ := vx_callSW X hx (hh := hh) (bytes := bytes) (maxL := maxL) (ret := ret) ho hl hstt hini hcode hy hK hg (hsize.trans hml.symm) (argsL := As) (rest := rest) (fun sig h => hn.trans (hlen sig h)) hstack hW (by rw [hb]; exact hdg)
    (fun vm₁ hW₁ => ⟨hf.1, hf.2, hp.2 (T.setVm vm₁) hT hW₁⟩)
  dsimp only [Pt.U, Pt.locs, Pt.cells, Pt.slots] at X' e1 e2 h1 h2 h3 st
  subst h1; subst h2; subst h3
  exact ⟨v, (T.setVm vm₁).calling g' mk As.toArray, t, U', L, hT, X', hL, e1, e2, hq, st⟩
/-- not caught here, past rows that name other classes: it goes on to the caller -/
theorem vx_outP {p : Program} {l : Launch} {e : Env} {R : Room} {s : State} {m : MethodId} {args : Array Value} {below : List Frame} {meth : Method} {c : Code} {H : Heap} {locs : List Loc} {cells slots : Nat} {free : Addr → Prop} {ls : Array Slot} {rest : List Value} {Qc : Array Value → State → Outcome → State → Prop} {XC : String → State → State → Prop}
    {pc : Nat} {own E : String} {ce : Cell} {q : Addr} {mc ms : Nat} (hown : s.vm.findClass own = some m.cls) (hlocks : meth.locks = false)
    (hpass : ∀ z ∈ c.exceptionTable.toList, covers z pc = false ∨ (z.catchType ≠ 0 ∧ ∃ nm : String, (Cond.classLink own z.catchType nm).before args s = true ∧ va_Nc E nm s)) (hcell : H[q]? = some ce) (hv : ce.vm = .none) (hcl : s.vm.findClass E = some ce.cls)
    (hx : ∀ t : State, t.heap = H → s.vm.Alike t.vm → XC E s t) (hf : ∀ z ∈ locs, free z.base) (hc : cells ≤ mc) (hs : slots ≤ ms) :
    vx_W p l e R s m args below meth c H locs cells slots (vx_MQ below Qc XC args s mc ms free) (F0 m pc ls rest) q := by
  intro T hT X
  have hpl : e.platform.magicAccessors = ({} : Platform).magicAccessors := by rw [X.admits.platform]
  obtain ⟨vm', hW', X', st⟩ := X.outThrough hlocks q (g := F0 m pc ls rest) rfl rfl rfl (cell := ce) (by rw [hT]; exact hcell) (by rw [hv]; rfl)
    (by obtain ⟨k9, h9, -⟩ := Vm.findClass_spec hcl; exact ⟨k9, h9⟩) (fun z hz => by
      rcases hpass z hz with h | ⟨hz0, nm, hl1, hn1⟩
      · exact Or.inl h
      · obtain ⟨c6, hc6, hcl6⟩ := Cond.classLink_spec hown hl1 e.platform hpl
        obtain ⟨a8, b8, h1, h2, h3⟩ := hn1
        cases Option.some.inj (h1.symm.trans hcl)
        cases Option.some.inj (h2.symm.trans hc6)
        exact Or.inr ⟨hz0, _, hcl6, h3⟩)
  obtain ⟨g₀, hfr⟩ := X'.frames_eq
  have hcell9 : ((T.setVm vm').setFrames (.throwing q :: below)).heap[q]? = some ce := by
    show T.heap[q]? = some ce
    rw [hT]; exact hcell
  have hend : Ended ((T.setVm vm').setFrames (.throwing q :: below)) below (.threw q) := State.frames_setFrames _ (State.cur_lt_of_frames hfr)
  refine ⟨(T.setVm vm').setFrames (.throwing q :: below), ?_, .threw q, X'.here.running, hend, Or.inr ⟨q, rfl, E, ce, locs, hx _ hT (X'.ends _).1.alike, hcell9, hv, hcl, (X'.ends _).1, (X'.ends _).2.mono hc hs, hf⟩⟩
  rw [X.pushThrowing_eq]
  exact st
/-- a thing of a world lies in the heap -/
theorem vx_lt {D : va_G} {cl : List vw_C} {ws : va_W} {H1 : Heap} (h : va_P D cl ws H1) {k : Nat} {q : Nat × va_E} (hk : ws[k]? = some q) : q.1 < H1.size := (h k q hk).lt
end VXS
/-! ===== END ===== -/
/-! ===== BEGIN methods with a table of their own: called by a name, returning or throwing ===== -/
section VXH
/-! vx_backW, vx_callVX, vx_callSX, vx_callVW, vx_runVW, vx_runVX, vx_runSX, vx_ofWH follow the same proofs as their sisters above (Free/Laws.lean, Shelf42/LK1.lean); vx_outP calls Shelf42/NT130.lean (outThrough). -/
section
variable {l : Launch} {R : Room} {p : Program} {e : Env} {below : List Frame} {s : State} {sargs : Array Value} {y : MethodName} {len W9 : Nat}
theorem vx_backW {ws : List Cond} {rm : Room} {Pc : Array Value → State → Prop} {Qc : Array Value → State → Outcome → State → Prop} {XC : String → State → State → Prop} {mc ms : Nat} {free : Addr → Prop} {bytes : ByteArray} {maxL : Nat} {ret : Option FieldType} {hh : List (Nat × Nat × Nat × Nat)}
    (hM : vx_Met l y ws rm Pc Qc XC mc ms free) (hblind : FrameBlind Pc) (hrc : rm.cells = mc) (hrs : rm.slots = ms)
    (hframes : rm.frames + 1 ≤ R.frames) (hlocals : W9 + (maxL + 11) + rm.locals ≤ R.locals)
    (hws : ∀ w ∈ ws, ∀ a' U, s.WarmedH U.vm → w.before a' U = true) (hcode : Cond.codeWith y bytes maxL ret hh ∈ ws) (hinit : ∀ a' U, s.WarmedH U.vm → (Cond.initialized y.cls).before a' U = true) :
    vx_Back l R p e below s sargs y len W9 (PreOf R mc ms Pc) (PostOf Qc mc ms free) (vx_Post XC mc ms free) := by
  intro m meth c A g ig mk a X hg hsize hdg hW hn hp
  have h1 : (headSpec ws rm).pre.before a A.U = true := atoms_intro fun w hw => hws w hw _ _ X.warmed
  have h2 : (Cond.codeWith y bytes maxL ret hh).before a A.U = true := hws _ hcode _ _ X.warmed
  have h3 : (Cond.initialized y.cls).before a A.U = true := hinit _ _ X.warmed
  have h4 : A.cells + (headSpec ws rm).room.cells ≤ R.cells := by rw [show (headSpec ws rm).room.cells = mc from hrc]; exact hp.1
  have h5 : A.slots + (headSpec ws rm).room.slots ≤ R.slots := by rw [show (headSpec ws rm).room.slots = ms from hrs]; exact hp.2.1
  have hPc : Pc a (A.U.calling g mk a) := hblind _ _ _ _ hp.2.2
  obtain ⟨U, Ls, c0, s0⟩ := A
  dsimp only [Pt.U, Pt.locs, Pt.cells, Pt.slots] at h1 h2 h3 h4 h5 X hn hPc ⊢
  obtain ⟨m9, methY, cY, hn9, hmY, hcY, -, hlY, -⟩ := Cond.codeWith_spec h2
  cases Option.some.inj (hn9.symm.trans hn)
  obtain ⟨kY, hkY, -⟩ := className_of_methodNamed hn
  have hinitY : kY.init = .initialized := Cond.initialized_spec (findClass_of_methodNamed hn) hkY h3
  have h : At U g.method c below := by rw [hg]; exact X.here
  have hlocals9 : W9 + (maxL + 11) + (headSpec ws rm).room.locals ≤ R.locals := hlocals
  have happ : (headSpec ws rm).appliesLoose y e.platform (U.calling g mk a) = true :=
    Spec.appliesLoose_calling (g := g) h hdg hn hkY hinitY
      (X.room_calling (g := g) (R' := (headSpec ws rm).room) hsize hmY hcY hframes (by rw [hlY]; omega) h4 h5) h1
  obtain ⟨mid, hmid⟩ := h.above
  have hfr : (U.setTop g).frames = (.java g :: mid) ++ below := by rw [State.frames_setTop' g h.top, hmid]; rfl
  obtain ⟨o, s₂, hsteps, -, hend, hq⟩ := Steps.callFree hM p X.admits X.cas X.clock (acts := []) hfr happ hPc trivial
  have hq' : vx_Q Qc XC mc ms free a (U.calling g mk a) o s₂ := hq
  rw [State.frames_setTop' g h.top] at hend
  obtain ⟨g₀, hg0⟩ := Option.isSome_iff_exists.mp h.top
  obtain ⟨r, hr⟩ := State.topJava?_eq_some.mp hg0
  have hr' : (({ U with heap := s₂.heap, slotsUsed := s₂.slotsUsed } : State).setVm s₂.vm).frames = .java g₀ :: r := hr
  rcases hq' with ⟨hqc, L, hfe, hL⟩ | ⟨q, rfl, E, ce, L, hx, hce, hcv, hcl, hW₂, hsm, hL⟩
  · obtain ⟨⟨v, rfl⟩, hW₂, e2, q2, q3, q4, q5, q6⟩ := id hfe
    have e3 : s₂ = ({ (U.calling g mk a).setFrames s₂.frames with heap := s₂.heap, slotsUsed := s₂.slotsUsed } : State).setVm s₂.vm := by
      have : s₂ = ({ s₂ with vm := (U.calling g mk a).vm } : State).setVm s₂.vm := rfl
      rw [e2] at this
      exact this
    obtain ⟨c₂, i₂, len₂, hc₂, hd₂, hf₂⟩ := hend
    have hW' : U.WarmedH s₂.vm := hW₂
    have hcc : c₂ = c := by
      have h1 : s₂.code? g.method = U.code? g.method := by
        rw [State.code?_eq, State.code?_eq, hW'.alike.method?]
      exact Option.some.inj (hc₂.symm.trans (h1.trans h.code))
    subst hcc
    have hlen : len₂ = len := by rw [hdg] at hd₂; cases hd₂; rfl
    subst hlen
    have hs₂ : s₂ = (({ U with heap := s₂.heap, slotsUsed := s₂.slotsUsed } : State).setVm s₂.vm).setTop { g with pc := g.pc + len₂, stack := v.toList ++ g.stack } := by
      refine e3.trans ?_
      rw [hf₂, State.calling_eq h.top, State.setFrames_setFrames, State.setTop_of_frames _ hr', hr]
      rfl
    have hsame : U.sameButNew ({ U with heap := s₂.heap, slotsUsed := s₂.slotsUsed } : State) L mc ms := by
      refine ⟨?_, q2, q3, q4, q5, q6⟩
      obtain ⟨t, ht, -⟩ := State.frames_cons hr
      show ({ U with heap := s₂.heap, slotsUsed := s₂.slotsUsed } : State) = { U.setFrames U.frames with heap := s₂.heap, slotsUsed := s₂.slotsUsed }
      rw [State.setFrames_self ht]
    subst hg
    refine Or.inl ⟨v, ⟨(({ U with heap := s₂.heap, slotsUsed := s₂.slotsUsed } : State).setVm s₂.vm), Ls ++ L, c0 + mc, s0 + ms⟩,
      ⟨X.admits, X.cas, X.clock, X.frames, X.room, X.hears, X.method, X.code, (X.here.setHeapUsed s₂.heap s₂.slotsUsed).setVm hW'.alike, X.tail, State.WarmedH.trans X.warmed hW', X.limits, X.bytes, X.same.trans (hsame.setVm s.vm)⟩,
      ⟨g, mk, s₂, L, rfl, rfl, hqc, rfl, hL, rfl, rfl⟩, ?_⟩
    show Steps p.tables e below _ ((({ U with heap := s₂.heap, slotsUsed := s₂.slotsUsed } : State).setVm s₂.vm).setTop { g with pc := g.pc + len₂, stack := v.toList ++ g.stack })
    rw [← hs₂]
    exact hsteps
  · obtain ⟨e2, q2, q3, q4, q5, q6⟩ := id hsm
    have e3 : s₂ = ({ (U.calling g mk a).setFrames s₂.frames with heap := s₂.heap, slotsUsed := s₂.slotsUsed } : State).setVm s₂.vm := by
      have : s₂ = ({ s₂ with vm := (U.calling g mk a).vm } : State).setVm s₂.vm := rfl
      rw [e2] at this
      exact this
    have hf₂ : s₂.frames = .throwing q :: .java g :: U.frames.tail := hend
    have hW' : U.WarmedH s₂.vm := hW₂
    have hs₂ : s₂ = ((({ U with heap := s₂.heap, slotsUsed := s₂.slotsUsed } : State).setVm s₂.vm).setTop g).pushFrame (.throwing q) := by
      refine e3.trans ?_
      rw [hf₂, State.calling_eq h.top, State.setFrames_setFrames, State.pushFrame, State.frames_setTop _ hr', State.setTop_of_frames _ hr', State.setFrames_setFrames, hr]
      rfl
    have hsame : U.sameButNew ({ U with heap := s₂.heap, slotsUsed := s₂.slotsUsed } : State) L mc ms := by
      refine ⟨?_, q2, q3, q4, q5, q6⟩
      obtain ⟨t, ht, -⟩ := State.frames_cons hr
      show ({ U with heap := s₂.heap, slotsUsed := s₂.slotsUsed } : State) = { U.setFrames U.frames with heap := s₂.heap, slotsUsed := s₂.slotsUsed }
      rw [State.setFrames_self ht]
    subst hg
    refine Or.inr ⟨q, ⟨(({ U with heap := s₂.heap, slotsUsed := s₂.slotsUsed } : State).setVm s₂.vm), Ls ++ L, c0 + mc, s0 + ms⟩,
      ⟨X.admits, X.cas, X.clock, X.frames, X.room, X.hears, X.method, X.code, (X.here.setHeapUsed s₂.heap s₂.slotsUsed).setVm hW'.alike, X.tail, State.WarmedH.trans X.warmed hW', X.limits, X.bytes, X.same.trans (hsame.setVm s.vm)⟩,
      ⟨g, mk, s₂, L, E, ce, rfl, rfl, hx, hce, hcv, hcl, rfl, hL, rfl, rfl⟩, ?_⟩
    show Steps p.tables e below _ (((({ U with heap := s₂.heap, slotsUsed := s₂.slotsUsed } : State).setVm s₂.vm).setTop g).pushFrame (.throwing q))
    rw [← hs₂]
    exact hsteps
end
variable {p : Program} {l : Launch} {e : Env} {R : Room} {s : State} {m : MethodId} {args : Array Value} {below : List Frame} {meth : Method} {c : Code} {T : State} {H : Heap} {locs : List Loc} {cells slots : Nat}
theorem vx_callVX (X : Stand p l e R s m args below meth c T locs cells slots) (hexec : p.tables.exec = Jvm.exec) {own C : String} {index : Nat} {y : MethodName} {bytes : ByteArray} {maxL : Nat} {ret : Option FieldType} {hh : List (Nat × Nat × Nat × Nat)}
    (hown : s.vm.findClass own = some m.cls) (hlink : (Cond.methodLink own index y).before args s = true) (hinst : (Cond.instanceMethod y).before args s = true) (hsel : (Cond.selects C y y).before args s = true)
    (hcode : (Cond.codeWith y bytes maxL ret hh).before args s = true) (hy : y.cls ≠ "java/lang/invoke/MethodHandle" ∧ y.cls ≠ "java/lang/invoke/VarHandle")
    {W9 : Nat} {Pre : Pt → Array Value → Prop} {Post : Pt → Array Value → Option Value → Pt → Prop} {PostX : Pt → Array Value → Addr → Pt → Prop} (hK : vx_Back l R p e below s args y 3 W9 Pre Post PostX)
    {b : Addr} {cellB : Cell} (hcell : T.heap[b]? = some cellB) (hobj : cellB.vm.isStatics = false) (hcls : s.vm.findClass C = some cellB.cls)
    {g : JFrame} (hg : g.method = m) (hsize : g.locals.size = c.maxLocals) {argsL rest : List Value} (hlen : ∀ sig, parseMethodDescriptor y.desc = some sig → argsL.length = sig.parameters.length)
    (hstack : g.stack = argsL.reverse ++ .ref b :: rest) (hW : 2 * g.monitorRoom + (rest.map fun v => v.category).sum ≤ W9) (hdg : decode c.code g.pc = .ok (.invokevirtual index, 3))
    (hpre : ∀ vm₁, s.WarmedH vm₁ → Pre ⟨T.setVm vm₁, locs, cells, slots⟩ (Value.ref b :: argsL).toArray) :
    (∃ (v : Option Value) (vm₁ : Vm) (B : Pt), s.WarmedH vm₁ ∧ Stand p l e R s m args below meth c B.U B.locs B.cells B.slots ∧ Post ⟨T.setVm vm₁, locs, cells, slots⟩ (Value.ref b :: argsL).toArray v B ∧
      ∀ target, Steps p.tables e below (B.U.setTop { g with pc := g.pc + 3, stack := v.toList ++ rest }) target → Steps p.tables e below (T.setTop g) target) ∨
    (∃ (q : Addr) (vm₁ : Vm) (B : Pt), s.WarmedH vm₁ ∧ Stand p l e R s m args below meth c B.U B.locs B.cells B.slots ∧ PostX ⟨T.setVm vm₁, locs, cells, slots⟩ (Value.ref b :: argsL).toArray q B ∧
      Steps p.tables e below (T.setTop g) ((B.U.setTop { g with stack := rest }).pushFrame (.throwing q))) := by
  obtain ⟨mk, methM, hnamed, hmethM, hstM, habM⟩ := Cond.instanceMethod_spec hinst
  obtain ⟨m8, methM', cM, hn8, hmethM', -, -, -, -, -, -, hsigM⟩ := Cond.codeWith_spec hcode
  cases Option.some.inj (hn8.symm.trans hnamed)
  cases hmethM.symm.trans hmethM'
  obtain ⟨c2, r2, m2, q1, q2, q3, q4, kP, hkP, hkPi⟩ := Cond.selects_spec hsel
  cases hcls.symm.trans q1
  cases (State.methodFound?_of_named hnamed hy).symm.trans q2
  cases hnamed.symm.trans q3
  have hselP : selectMethod e.platform s.vm cellB.cls mk = .method mk := by rw [Launch.admits_selectMethod X.admits]; exact q4
  obtain ⟨vm₁, X₁, hstep₁⟩ := X.invokevirtual hexec hown hlink hnamed hmethM hstM hkP hkPi hy (a := b) (cell := cellB) hcell
    (fun z h => by rw [h] at hobj; cases hobj) hselP hmethM habM hkP hkPi (g := g) hg (argsL := argsL) (rest := rest) (hlen _ hsigM) hstack hdg
  rcases hK m meth c ⟨T.setVm vm₁, locs, cells, slots⟩ { g with stack := rest } (.invokevirtual index) mk (Value.ref b :: argsL).toArray X₁ hg hsize hdg hW (X₁.named hnamed) (hpre vm₁ X₁.warmed) with ⟨v, B, X', hpost, hsteps⟩ | ⟨q, B, X', hpost, hsteps⟩
  · exact Or.inl ⟨v, vm₁, B, X₁.warmed, X', hpost, fun target h => hstep₁ _ fun acts => by rw [doInvoke_state]; exact hsteps.trans h⟩
  · exact Or.inr ⟨q, vm₁, B, X₁.warmed, X', hpost, hstep₁ _ fun acts => by rw [doInvoke_state]; exact hsteps⟩
theorem vx_callSX (X : Stand p l e R s m args below meth c T locs cells slots) (hexec : p.tables.exec = Jvm.exec) {own : String} {index : Nat} {y : MethodName} {bytes : ByteArray} {maxL : Nat} {ret : Option FieldType} {hh : List (Nat × Nat × Nat × Nat)}
    (hown : s.vm.findClass own = some m.cls) (hlink : (Cond.methodLink own index y).before args s = true) (hstat : (Cond.static y).before args s = true) (hinit : (Cond.initialized y.cls).before args s = true)
    (hcode : (Cond.codeWith y bytes maxL ret hh).before args s = true) (hy : y.cls ≠ "java/lang/invoke/MethodHandle" ∧ y.cls ≠ "java/lang/invoke/VarHandle")
    {W9 : Nat} {Pre : Pt → Array Value → Prop} {Post : Pt → Array Value → Option Value → Pt → Prop} {PostX : Pt → Array Value → Addr → Pt → Prop} (hK : vx_Back l R p e below s args y 3 W9 Pre Post PostX)
    {g : JFrame} (hg : g.method = m) (hsize : g.locals.size = c.maxLocals) {argsL rest : List Value} (hlen : ∀ sig, parseMethodDescriptor y.desc = some sig → argsL.length = sig.parameters.length)
    (hstack : g.stack = argsL.reverse ++ rest) (hW : 2 * g.monitorRoom + (rest.map fun v => v.category).sum ≤ W9) (hdg : decode c.code g.pc = .ok (.invokestatic index, 3))
    (hpre : ∀ vm₁, s.WarmedH vm₁ → Pre ⟨T.setVm vm₁, locs, cells, slots⟩ argsL.toArray) :
    (∃ (v : Option Value) (vm₁ : Vm) (B : Pt), s.WarmedH vm₁ ∧ Stand p l e R s m args below meth c B.U B.locs B.cells B.slots ∧ Post ⟨T.setVm vm₁, locs, cells, slots⟩ argsL.toArray v B ∧
      ∀ target, Steps p.tables e below (B.U.setTop { g with pc := g.pc + 3, stack := v.toList ++ rest }) target → Steps p.tables e below (T.setTop g) target) ∨
    (∃ (q : Addr) (vm₁ : Vm) (B : Pt), s.WarmedH vm₁ ∧ Stand p l e R s m args below meth c B.U B.locs B.cells B.slots ∧ PostX ⟨T.setVm vm₁, locs, cells, slots⟩ argsL.toArray q B ∧
      Steps p.tables e below (T.setTop g) ((B.U.setTop { g with stack := rest }).pushFrame (.throwing q))) := by
  obtain ⟨mk, methM, cM, hnamed, hmethM, -, -, -, -, -, -, hsigM⟩ := Cond.codeWith_spec hcode
  have hstatic : methM.isStatic = true := Cond.static_spec hnamed hmethM hstat
  obtain ⟨kP, hkP, -⟩ := className_of_methodNamed hnamed
  have hinitP : kP.init = .initialized := Cond.initialized_spec (findClass_of_methodNamed hnamed) hkP hinit
  obtain ⟨vm₁, X₁, hstep₁⟩ := X.invokestatic hexec hown hlink hnamed hmethM hstatic hkP hinitP hy (g := g) hg (argsL := argsL) (rest := rest) (hlen _ hsigM) hstack hdg
  rcases hK m meth c ⟨T.setVm vm₁, locs, cells, slots⟩ { g with stack := rest } (.invokestatic index) mk argsL.toArray X₁ hg hsize hdg hW (X₁.named hnamed) (hpre vm₁ X₁.warmed) with ⟨v, B, X', hpost, hsteps⟩ | ⟨q, B, X', hpost, hsteps⟩
  · exact Or.inl ⟨v, vm₁, B, X₁.warmed, X', hpost, fun target h => hstep₁ _ fun acts => by rw [doInvoke_state]; exact hsteps.trans h⟩
  · exact Or.inr ⟨q, vm₁, B, X₁.warmed, X', hpost, hstep₁ _ fun acts => by rw [doInvoke_state]; exact hsteps⟩
theorem vx_callVW (X : Stand p l e R s m args below meth c T locs cells slots) (hexec : p.tables.exec = Jvm.exec) {own C : String} {index : Nat} {y : MethodName} {bytes : ByteArray} {maxL : Nat} {ret : Option FieldType} {hh : List (Nat × Nat × Nat × Nat)}
    (hown : s.vm.findClass own = some m.cls) (hlink : (Cond.methodLink own index y).before args s = true) (hinst : (Cond.instanceMethod y).before args s = true) (hsel : (Cond.selects C y y).before args s = true)
    (hcode : (Cond.codeWith y bytes maxL ret hh).before args s = true) (hy : y.cls ≠ "java/lang/invoke/MethodHandle" ∧ y.cls ≠ "java/lang/invoke/VarHandle")
    {W9 : Nat} {Pre : Pt → Array Value → Prop} {Post : Pt → Array Value → Option Value → Pt → Prop} (hK : Back l R p e below s args y 3 W9 Pre Post)
    {b : Addr} {cellB : Cell} (hcell : T.heap[b]? = some cellB) (hobj : cellB.vm.isStatics = false) (hcls : s.vm.findClass C = some cellB.cls)
    {g : JFrame} (hg : g.method = m) (hsize : g.locals.size = c.maxLocals) {argsL rest : List Value} (hlen : ∀ sig, parseMethodDescriptor y.desc = some sig → argsL.length = sig.parameters.length)
    (hstack : g.stack = argsL.reverse ++ .ref b :: rest) (hW : 2 * g.monitorRoom + (rest.map fun v => v.category).sum ≤ W9) (hdg : decode c.code g.pc = .ok (.invokevirtual index, 3))
    (hpre : ∀ vm₁, s.WarmedH vm₁ → Pre ⟨T.setVm vm₁, locs, cells, slots⟩ (Value.ref b :: argsL).toArray) :
    ∃ (v : Option Value) (vm₁ : Vm) (B : Pt), s.WarmedH vm₁ ∧ Stand p l e R s m args below meth c B.U B.locs B.cells B.slots ∧ Post ⟨T.setVm vm₁, locs, cells, slots⟩ (Value.ref b :: argsL).toArray v B ∧
      ∀ target, Steps p.tables e below (B.U.setTop { g with pc := g.pc + 3, stack := v.toList ++ rest }) target → Steps p.tables e below (T.setTop g) target := by
  obtain ⟨mk, methM, hnamed, hmethM, hstM, habM⟩ := Cond.instanceMethod_spec hinst
  obtain ⟨m8, methM', cM, hn8, hmethM', -, -, -, -, -, -, hsigM⟩ := Cond.codeWith_spec hcode
  cases Option.some.inj (hn8.symm.trans hnamed)
  cases hmethM.symm.trans hmethM'
  obtain ⟨c2, r2, m2, q1, q2, q3, q4, kP, hkP, hkPi⟩ := Cond.selects_spec hsel
  cases hcls.symm.trans q1
  cases (State.methodFound?_of_named hnamed hy).symm.trans q2
  cases hnamed.symm.trans q3
  have hselP : selectMethod e.platform s.vm cellB.cls mk = .method mk := by rw [Launch.admits_selectMethod X.admits]; exact q4
  obtain ⟨vm₁, X₁, hstep₁⟩ := X.invokevirtual hexec hown hlink hnamed hmethM hstM hkP hkPi hy (a := b) (cell := cellB) hcell
    (fun z h => by rw [h] at hobj; cases hobj) hselP hmethM habM hkP hkPi (g := g) hg (argsL := argsL) (rest := rest) (hlen _ hsigM) hstack hdg
  obtain ⟨v, B, X', hpost, hsteps⟩ := hK m meth c ⟨T.setVm vm₁, locs, cells, slots⟩ { g with stack := rest } (.invokevirtual index) mk (Value.ref b :: argsL).toArray X₁ hg hsize hdg hW (X₁.named hnamed) (hpre vm₁ X₁.warmed)
  exact ⟨v, vm₁, B, X₁.warmed, X', hpost, fun target h => hstep₁ _ fun acts => by rw [doInvoke_state]; exact hsteps.trans h⟩
abbrev vx_CVW (R : Room) (s : State) (args : Array Value) (own C : String) (index : Nat) (y : MethodName) (bytes : ByteArray) (maxL : Nat) (ret : Option FieldType) (hh : List (Nat × Nat × Nat × Nat)) (ws : List Cond) (rm : Room) (mc ms n : Nat) : Prop :=
  (rm.cells = mc ∧ rm.slots = ms ∧ rm.frames + 1 ≤ R.frames ∧ 8 + (maxL + 11) + rm.locals ≤ R.locals ∧ (∀ w ∈ ws, ∀ (a' : Array Value) (U : State), s.WarmedH U.vm → w.before a' U = true) ∧ Cond.codeWith y bytes maxL ret hh ∈ ws) ∧
  (Cond.codeWith y bytes maxL ret hh).before args s = true ∧ (Cond.initialized y.cls).before args s = true ∧ (y.cls ≠ "java/lang/invoke/MethodHandle" ∧ y.cls ≠ "java/lang/invoke/VarHandle") ∧
  (∀ sig, parseMethodDescriptor y.desc = some sig → n = sig.parameters.length) ∧ (Cond.methodLink own index y).before args s = true ∧ (Cond.instanceMethod y).before args s = true ∧ (Cond.selects C y y).before args s = true
theorem vx_cwVW {own C : String} {index maxL mc ms : Nat} {y : MethodName} {bytes : ByteArray} {ret : Option FieldType} {hh : List (Nat × Nat × Nat × Nat)} {Ts ws ws' : List Cond} {rm : Room} (n : Nat) (ht : ∀ w ∈ Ts, w.before args s = true) (hT : GoodIn Ts (wsV own index C y ws)) (hw : ws = Cond.codeWith y bytes maxL ret hh :: ws') (hrc : rm.cells = mc) (hrs : rm.slots = ms)
    (hd : y.cls = C ∧ y.cls ≠ "java/lang/invoke/MethodHandle" ∧ y.cls ≠ "java/lang/invoke/VarHandle" ∧ (parseMethodDescriptor y.desc).map (fun d => d.parameters.length) = some n) (hR : rm.frames + 1 ≤ R.frames ∧ 8 + (maxL + 11) + rm.locals ≤ R.locals) :
    vx_CVW R s args own C index y bytes maxL ret hh ws rm mc ms n := by
  obtain ⟨hC, hd⟩ := hd
  subst hC
  have ok : ∀ w ∈ wsV own index y.cls y ws, w.before args s = true := fun w h => ht w (hT w h).1
  have hG : GoodIn Ts ws := fun w h => hT w (by unfold wsV; exact List.mem_append_right _ h)
  have hc : Cond.codeWith y bytes maxL ret hh ∈ ws := by rw [hw]; exact List.mem_cons_self
  refine ⟨⟨hrc, hrs, hR.1, hR.2, pay_in ht hG, hc⟩, ht _ (hG _ hc).1, ok _ (by simp [wsV]), ⟨hd.1, hd.2.1⟩, fun sig h => ?_, ok _ (by simp [wsV]), ok _ (by simp [wsV]), ok _ (by simp [wsV])⟩
  have h2 := hd.2.2
  rw [h] at h2
  exact (Option.some.inj h2).symm
theorem vx_runVW {y : MethodName} {bytes cc : ByteArray} {maxL nL mc ms n index : Nat} {ret : Option FieldType} {hh : List (Nat × Nat × Nat × Nat)} {ws : List Cond} {rm : Room} {Pc : Array Value → State → Prop} {Qc : Array Value → State → Outcome → State → Prop} {free : Addr → Prop} {Ts : List Cond} {own C : String} {b : Addr} {As rest : List Value} {g : JFrame}
    (S : CallFix p m c cc nL s args Ts own) (hM : Met l y ws rm Pc Qc mc ms free) (cw : vx_CVW R s args own C index y bytes maxL ret hh ws rm mc ms n) (hp : PreV s H C b Pc As)
    (hg : g.method = m) (hn : As.length = n) (hsize : g.locals.size = nL) (hstack : g.stack = As.reverse ++ .ref b :: rest) (hW : 2 * g.monitorRoom + (rest.map fun v => v.category).sum ≤ 8) (hdg : decode cc g.pc = .ok (.invokevirtual index, 3)) (hf : cells + mc ≤ R.cells ∧ slots + ms ≤ R.slots) :
    va_Run p l e R s m args below meth c H locs cells slots mc ms g rest (Qc (Value.ref b :: As).toArray) free := by
  obtain ⟨⟨hrc, hrs, hfr, hlo, hws, hcw⟩, hcode, hini, hy, hlen, hl, hin, hse⟩ := cw
  have hK : Back l R p e below s args y 3 8 (PreOf R mc ms Pc) (PostOf Qc mc ms free) := va_backW (hh := hh) (bytes := bytes) (maxL := maxL) (ret := ret) hM hp.1 hrc hrs hfr hlo hws hcw (fun a' U hW => word_at hW (Or.inl (by first | rfl | simp [Cond.onTables, Cond.keeps, Cond.steady])) hini)
  obtain ⟨hx, hb, hml, ho, -⟩ := S
  obtain ⟨-, ⟨cellB, hcB, hoB, hclB⟩, hPc⟩ := hp
  intro T hT X
  obtain ⟨v, vm₁, ⟨U', l2, c2, s2⟩, hW₁, X', ⟨g', mk, t, L, e1, e2, hq, h1, hL, h2, h3⟩, st⟩ := vx_callVW X hx (C := C) (hh := hh) (bytes := bytes) (maxL := maxL) (ret := ret) ho hl hin hse hcode hy hK (by rw [hT]; exact hcB) hoB hclB hg (hsize.trans hml.symm) (argsL := As) (rest := rest) (fun sig h => hn.trans (hlen sig h)) hstack hW (by rw [hb]; exact hdg)
    (fun vm₁ hW₁ => ⟨hf.1, hf.2, hPc (T.setVm vm₁) hT hW₁⟩)
  dsimp only [Pt.U, Pt.locs, Pt.cells, Pt.slots] at X' e1 e2 h1 h2 h3 st
  subst h1; subst h2; subst h3
  exact ⟨v, (T.setVm vm₁).calling g' mk (Value.ref b :: As).toArray, t, U', L, hT, X', hL, e1, e2, hq, st⟩
section
variable {y : MethodName} {bytes cc : ByteArray} {maxL nL mc ms n index : Nat} {ret : Option FieldType} {ws : List Cond} {rm : Room} {Pc : Array Value → State → Prop} {Qc : Array Value → State → Outcome → State → Prop} {XC : String → State → State → Prop} {free : Addr → Prop} {Ts : List Cond} {own C : String} {b : Addr} {As rest : List Value} {g : JFrame}
theorem vx_runVX {hh : List (Nat × Nat × Nat × Nat)} (S : CallFix p m c cc nL s args Ts own) (hM : vx_Met l y ws rm Pc Qc XC mc ms free) (cw : vx_CVW R s args own C index y bytes maxL ret hh ws rm mc ms n) (hp : PreV s H C b Pc As)
    (hg : g.method = m) (hn : As.length = n) (hsize : g.locals.size = nL) (hstack : g.stack = As.reverse ++ .ref b :: rest) (hW : 2 * g.monitorRoom + (rest.map fun v => v.category).sum ≤ 8) (hdg : decode cc g.pc = .ok (.invokevirtual index, 3)) (hf : cells + mc ≤ R.cells ∧ slots + ms ≤ R.slots) :
    vx_Run p l e R s m args below meth c H locs cells slots mc ms g rest (Qc (Value.ref b :: As).toArray) XC free := by
  obtain ⟨⟨hrc, hrs, hfr, hlo, hws, hcw⟩, hcode, hini, hy, hlen, hl, hin, hse⟩ := cw
  have hK : vx_Back l R p e below s args y 3 8 (PreOf R mc ms Pc) (PostOf Qc mc ms free) (vx_Post XC mc ms free) := vx_backW (hh := hh) (bytes := bytes) (maxL := maxL) (ret := ret) hM hp.1 hrc hrs hfr hlo hws hcw (fun a' U hW => word_at hW (Or.inl (by first | rfl | simp [Cond.onTables, Cond.keeps, Cond.steady])) hini)
  obtain ⟨hx, hb, hml, ho, -⟩ := S
  obtain ⟨-, ⟨cellB, hcB, hoB, hclB⟩, hPc⟩ := hp
  intro T hT X
  rcases vx_callVX X hx (C := C) (hh := hh) (bytes := bytes) (maxL := maxL) (ret := ret) ho hl hin hse hcode hy hK (by rw [hT]; exact hcB) hoB hclB hg (hsize.trans hml.symm) (argsL := As) (rest := rest) (fun sig h => hn.trans (hlen sig h)) hstack hW (by rw [hb]; exact hdg)
    (fun vm₁ hW₁ => ⟨hf.1, hf.2, hPc (T.setVm vm₁) hT hW₁⟩) with ⟨v, vm₁, ⟨U', l2, c2, s2⟩, hW₁, X', ⟨g', mk, t, L, e1, e2, hq, h1, hL, h2, h3⟩, st⟩ | ⟨q, vm₁, ⟨U', l2, c2, s2⟩, hW₁, X', ⟨g', mk, t, L, E, ce, e1, e2, hq, hce, hcv, hcl, h1, hL, h2, h3⟩, st⟩
  · dsimp only [Pt.U, Pt.locs, Pt.cells, Pt.slots] at X' e1 e2 h1 h2 h3 st
    subst h1; subst h2; subst h3
    exact Or.inl ⟨v, (T.setVm vm₁).calling g' mk (Value.ref b :: As).toArray, t, U', L, hT, X', hL, e1, e2, hq, st⟩
  · dsimp only [Pt.U, Pt.locs, Pt.cells, Pt.slots] at X' e1 e2 h1 h2 h3 st hcl
    subst h1; subst h2; subst h3
    exact Or.inr ⟨q, (T.setVm vm₁).calling g' mk (Value.ref b :: As).toArray, t, U', L, E, ce, hT, X', hL, e1, e2, hq, hce, hcv, vx_cls hW₁ hcl, st⟩
theorem vx_runSX {hh : List (Nat × Nat × Nat × Nat)} (S : CallFix p m c cc nL s args Ts own) (hM : vx_Met l y ws rm Pc Qc XC mc ms free) (cw : vx_CSW R s args own index y bytes maxL ret hh ws rm mc ms n) (hp : PreS s H Pc As)
    (hg : g.method = m) (hn : As.length = n) (hsize : g.locals.size = nL) (hstack : g.stack = As.reverse ++ rest) (hW : 2 * g.monitorRoom + (rest.map fun v => v.category).sum ≤ 8) (hdg : decode cc g.pc = .ok (.invokestatic index, 3)) (hf : cells + mc ≤ R.cells ∧ slots + ms ≤ R.slots) :
    vx_Run p l e R s m args below meth c H locs cells slots mc ms g rest (Qc As.toArray) XC free := by
  obtain ⟨⟨hrc, hrs, hfr, hlo, hws, hcw⟩, hcode, hini, hy, hlen, hl, hstt⟩ := cw
  have hK : vx_Back l R p e below s args y 3 8 (PreOf R mc ms Pc) (PostOf Qc mc ms free) (vx_Post XC mc ms free) := vx_backW (hh := hh) (bytes := bytes) (maxL := maxL) (ret := ret) hM hp.1 hrc hrs hfr hlo hws hcw (fun a' U hW => word_at hW (Or.inl (by first | rfl | simp [Cond.onTables, Cond.keeps, Cond.steady])) hini)
  obtain ⟨hx, hb, hml, ho, -⟩ := S
  intro T hT X
  rcases vx_callSX X hx (hh := hh) (bytes := bytes) (maxL := maxL) (ret := ret) ho hl hstt hini hcode hy hK hg (hsize.trans hml.symm) (argsL := As) (rest := rest) (fun sig h => hn.trans (hlen sig h)) hstack hW (by rw [hb]; exact hdg)
    (fun vm₁ hW₁ => ⟨hf.1, hf.2, hp.2 (T.setVm vm₁) hT hW₁⟩) with ⟨v, vm₁, ⟨U', l2, c2, s2⟩, hW₁, X', ⟨g', mk, t, L, e1, e2, hq, h1, hL, h2, h3⟩, st⟩ | ⟨q, vm₁, ⟨U', l2, c2, s2⟩, hW₁, X', ⟨g', mk, t, L, E, ce, e1, e2, hq, hce, hcv, hcl, h1, hL, h2, h3⟩, st⟩
  · dsimp only [Pt.U, Pt.locs, Pt.cells, Pt.slots] at X' e1 e2 h1 h2 h3 st
    subst h1; subst h2; subst h3
    exact Or.inl ⟨v, (T.setVm vm₁).calling g' mk As.toArray, t, U', L, hT, X', hL, e1, e2, hq, st⟩
  · dsimp only [Pt.U, Pt.locs, Pt.cells, Pt.slots] at X' e1 e2 h1 h2 h3 st hcl
    subst h1; subst h2; subst h3
    exact Or.inr ⟨q, (T.setVm vm₁).calling g' mk As.toArray, t, U', L, E, ce, hT, X', hL, e1, e2, hq, hce, hcv, vx_cls hW₁ hcl, st⟩
end
end VXH
theorem vx_ofWH {l : Launch} {y : MethodName} {ws ws' : List Cond} {rm : Room} {Pc : Array Value → State → Prop} {Qc : Array Value → State → Outcome → State → Prop} {XC : String → State → State → Prop} {mc ms : Nat} {free : Addr → Prop} {cc : ByteArray} {maxL : Nat} {ret : Option FieldType} {hh : List (Nat × Nat × Nat × Nat)}
    (hy : plainName y.cls = true) (hw : ws = Cond.codeWith y cc maxL ret hh :: ws')
    (body : ∀ p e s m args below meth c s₁, BodyLoose p l y (headSpec ws rm) cc maxL ret e s m args below meth c s₁ → c.maxLocals = maxL → Pc args s →
      W p l e (headSpec ws rm).room s m args below meth c s.heap [] 0 0 (vx_MQ below Qc XC args s mc ms free) (entryFrame m args maxL)) : vx_Met l y ws rm Pc Qc XC mc ms free := by
  refine MetFree.of_bodyS (code := cc) (maxLocals := maxL) (ret := ret) hy ?_ ?_
  · intro args s m h hn
    obtain ⟨m9, meth, c, hn9, h1, h2, h3, h4, -, h5, h6, -⟩ := Cond.codeWith_spec (atoms_spec (ws := ws) h _ (by rw [hw]; exact List.mem_cons_self))
    cases hn.symm.trans hn9
    exact ⟨meth, c, h1, h2, h3, h4, h5, h6⟩
  · intro p e s m args below meth c s₁ B hml hP _
    have hh0 : s₁.heap = s.heap := by rw [B.state]; rfl
    obtain ⟨t, a1, o, b1, b2, b3⟩ := body p e s m args below meth c s₁ B hml hP s₁ hh0 (Stand.of_body B)
    exact ⟨t, o, a1, b1, b2, b3⟩
/-! ===== END ===== -/

/-! ===== BEGIN printed: names, fields, word lists, decode rows ===== -/
end
section
def RX0 : String := "Divisionorder$Deed"
def TX0 : u_T := fun k => match k with
  | 0 => ("Divisionorder$Deed", "tract", "LDivisionorder$Tract;", true)
  | 1 => ("Divisionorder$Deed", "from", "I", true)
  | 2 => ("Divisionorder$Deed", "to", "I", true)
  | 3 => ("Divisionorder$Deed", "parts", "I", true)
  | _ => ("Divisionorder$Deed", "month", "I", true)
def tyX0 : Nat → FieldType := fun k => match k with
  | 0 => .object "Divisionorder$Tract"
  | 1 => .int
  | 2 => .int
  | 3 => .int
  | _ => .int
abbrev wsX00 : List Cond := u_ws RX0 TX0 5
theorem nmX0 : ∀ a, a < 5 → ∀ b, b < 5 → a ≠ b → (TX0 a).2.1 ≠ (TX0 b).2.1 := by decide +kernel
theorem tyX0_ok : ∀ k, k < 5 → parseFieldDescriptor (TX0 k).2.2.1 = some (tyX0 k) := by decide +kernel
abbrev cX0_init : ByteArray := prog_2_method_1_code
def yX0_init : MethodName := ⟨RX0, "<init>", "(LDivisionorder$Tract;IIII)V"⟩
def RX1 : String := "Divisionorder$Lease"
def TX1 : u_T := fun k => match k with
  | 0 => ("Divisionorder$Lease", "tract", "LDivisionorder$Tract;", true)
  | 1 => ("Divisionorder$Lease", "lessor", "I", true)
  | 2 => ("Divisionorder$Lease", "lessee", "I", true)
  | 3 => ("Divisionorder$Lease", "royalty", "I", true)
  | 4 => ("Divisionorder$Lease", "firstMonth", "I", false)
  | _ => ("Divisionorder$Lease", "lastOfTerm", "I", false)
def tyX1 : Nat → FieldType := fun k => match k with
  | 0 => .object "Divisionorder$Tract"
  | 1 => .int
  | 2 => .int
  | 3 => .int
  | 4 => .int
  | _ => .int
abbrev wsX10 : List Cond := u_ws RX1 TX1 6
theorem nmX1 : ∀ a, a < 6 → ∀ b, b < 6 → a ≠ b → (TX1 a).2.1 ≠ (TX1 b).2.1 := by decide +kernel
theorem tyX1_ok : ∀ k, k < 6 → parseFieldDescriptor (TX1 k).2.2.1 = some (tyX1 k) := by decide +kernel
abbrev cX1_init : ByteArray := prog_3_method_1_code
def yX1_init : MethodName := ⟨RX1, "<init>", "(LDivisionorder$Tract;III)V"⟩
abbrev cX1_isInForce : ByteArray := prog_3_method_2_code
def yX1_isInForce : MethodName := ⟨RX1, "isInForce", "(I)Z"⟩
def RX2 : String := "Divisionorder$Parting"
def TX2 : u_T := fun k => match k with
  | 0 => ("Divisionorder$Parting", "weights", "[J", true)
  | 1 => ("Divisionorder$Parting", "parts", "[J", true)
  | _ => ("Divisionorder$Parting", "rests", "[J", true)
def tyX2 : Nat → FieldType := fun k => match k with
  | 0 => .array .long
  | 1 => .array .long
  | _ => .array .long
abbrev wsX20 : List Cond := u_ws RX2 TX2 3
theorem nmX2 : ∀ a, a < 3 → ∀ b, b < 3 → a ≠ b → (TX2 a).2.1 ≠ (TX2 b).2.1 := by decide +kernel
theorem tyX2_ok : ∀ k, k < 3 → parseFieldDescriptor (TX2 k).2.2.1 = some (tyX2 k) := by decide +kernel
abbrev cX2_init : ByteArray := prog_4_method_1_code
def yX2_init : MethodName := ⟨RX2, "<init>", "(I)V"⟩
abbrev cX2_clear : ByteArray := prog_4_method_2_code
def yX2_clear : MethodName := ⟨RX2, "clear", "()V"⟩
abbrev cX2_partOut : ByteArray := prog_4_method_3_code
def yX2_partOut : MethodName := ⟨RX2, "partOut", "(J)V"⟩
abbrev cX2_giveOne : ByteArray := prog_4_method_4_code
def yX2_giveOne : MethodName := ⟨RX2, "giveOne", "()V"⟩
def RX3 : String := "Divisionorder$Tract"
def TX3 : u_T := fun k => match k with
  | 0 => ("Divisionorder$Tract", "acres", "I", true)
  | 1 => ("Divisionorder$Tract", "firstOwner", "I", true)
  | _ => ("Divisionorder$Tract", "unit", "LDivisionorder$Unit;", false)
def tyX3 : Nat → FieldType := fun k => match k with
  | 0 => .int
  | 1 => .int
  | _ => .object "Divisionorder$Unit"
abbrev wsX30 : List Cond := u_ws RX3 TX3 3
theorem nmX3 : ∀ a, a < 3 → ∀ b, b < 3 → a ≠ b → (TX3 a).2.1 ≠ (TX3 b).2.1 := by decide +kernel
theorem tyX3_ok : ∀ k, k < 3 → parseFieldDescriptor (TX3 k).2.2.1 = some (tyX3 k) := by decide +kernel
abbrev cX3_init : ByteArray := prog_5_method_1_code
def yX3_init : MethodName := ⟨RX3, "<init>", "(II)V"⟩
def RX4 : String := "Divisionorder$Unit"
def TX4 : u_T := fun k => match k with
  | 0 => ("Divisionorder$Unit", "firstMonth", "I", true)
  | 1 => ("Divisionorder$Unit", "refusing", "[I", true)
  | 2 => ("Divisionorder$Unit", "barrels", "[I", true)
  | 3 => ("Divisionorder$Unit", "gross", "[I", true)
  | 4 => ("Divisionorder$Unit", "costs", "[I", true)
  | 5 => ("Divisionorder$Unit", "dues", "[J", true)
  | _ => ("Divisionorder$Unit", "balances", "[J", true)
def tyX4 : Nat → FieldType := fun k => match k with
  | 0 => .int
  | 1 => .array .int
  | 2 => .array .int
  | 3 => .array .int
  | 4 => .array .int
  | 5 => .array .long
  | _ => .array .long
abbrev wsX40 : List Cond := u_ws RX4 TX4 7
theorem nmX4 : ∀ a, a < 7 → ∀ b, b < 7 → a ≠ b → (TX4 a).2.1 ≠ (TX4 b).2.1 := by decide +kernel
theorem tyX4_ok : ∀ k, k < 7 → parseFieldDescriptor (TX4 k).2.2.1 = some (tyX4 k) := by decide +kernel
abbrev cX4_init : ByteArray := prog_6_method_1_code
def yX4_init : MethodName := ⟨RX4, "<init>", "(I)V"⟩
abbrev cX4_openMonth : ByteArray := prog_6_method_2_code
def yX4_openMonth : MethodName := ⟨RX4, "openMonth", "(I)V"⟩
def RX5 : String := "Divisionorder$Well"
def TX5 : u_T := fun k => match k with
  | 0 => ("Divisionorder$Well", "unit", "LDivisionorder$Unit;", true)
  | 1 => ("Divisionorder$Well", "barrels", "[I", true)
  | 2 => ("Divisionorder$Well", "prices", "[I", true)
  | _ => ("Divisionorder$Well", "costs", "[I", true)
def tyX5 : Nat → FieldType := fun k => match k with
  | 0 => .object "Divisionorder$Unit"
  | 1 => .array .int
  | 2 => .array .int
  | _ => .array .int
abbrev wsX50 : List Cond := u_ws RX5 TX5 4
theorem nmX5 : ∀ a, a < 4 → ∀ b, b < 4 → a ≠ b → (TX5 a).2.1 ≠ (TX5 b).2.1 := by decide +kernel
theorem tyX5_ok : ∀ k, k < 4 → parseFieldDescriptor (TX5 k).2.2.1 = some (tyX5 k) := by decide +kernel
abbrev cX5_init : ByteArray := prog_7_method_1_code
def yX5_init : MethodName := ⟨RX5, "<init>", "(LDivisionorder$Unit;)V"⟩
abbrev cX5_tellOil : ByteArray := prog_7_method_2_code
def yX5_tellOil : MethodName := ⟨RX5, "tellOil", "(III)V"⟩
def RX6 : String := "Divisionorder"
def TX6 : u_T := fun k => match k with
  | 0 => ("Divisionorder", "now", "I", false)
  | 1 => ("Divisionorder", "tracts", "[LDivisionorder$Tract;", true)
  | 2 => ("Divisionorder", "tractCount", "I", false)
  | 3 => ("Divisionorder", "deeds", "[LDivisionorder$Deed;", true)
  | 4 => ("Divisionorder", "deedCount", "I", false)
  | 5 => ("Divisionorder", "leases", "[LDivisionorder$Lease;", true)
  | 6 => ("Divisionorder", "leaseCount", "I", false)
  | 7 => ("Divisionorder", "units", "[LDivisionorder$Unit;", true)
  | 8 => ("Divisionorder", "unitCount", "I", false)
  | 9 => ("Divisionorder", "wells", "[LDivisionorder$Well;", true)
  | 10 => ("Divisionorder", "wellCount", "I", false)
  | 11 => ("Divisionorder", "taxesTold", "[I", true)
  | 12 => ("Divisionorder", "penaltyHundredths", "I", false)
  | 13 => ("Divisionorder", "suspendedOwners", "I", false)
  | 14 => ("Divisionorder", "leastCheque", "I", false)
  | 15 => ("Divisionorder", "paidCents", "[J", true)
  | 16 => ("Divisionorder", "settledMonths", "I", false)
  | 17 => ("Divisionorder", "titles", "[I", true)
  | 18 => ("Divisionorder", "deck", "LDivisionorder$Parting;", true)
  | _ => ("Divisionorder", "sharers", "LDivisionorder$Parting;", true)
def tyX6 : Nat → FieldType := fun k => match k with
  | 0 => .int
  | 1 => .array (.object "Divisionorder$Tract")
  | 2 => .int
  | 3 => .array (.object "Divisionorder$Deed")
  | 4 => .int
  | 5 => .array (.object "Divisionorder$Lease")
  | 6 => .int
  | 7 => .array (.object "Divisionorder$Unit")
  | 8 => .int
  | 9 => .array (.object "Divisionorder$Well")
  | 10 => .int
  | 11 => .array .int
  | 12 => .int
  | 13 => .int
  | 14 => .int
  | 15 => .array .long
  | 16 => .int
  | 17 => .array .int
  | 18 => .object "Divisionorder$Parting"
  | _ => .object "Divisionorder$Parting"
abbrev wsX60 : List Cond := u_ws RX6 TX6 20
theorem nmX6 : ∀ a, a < 20 → ∀ b, b < 20 → a ≠ b → (TX6 a).2.1 ≠ (TX6 b).2.1 := by decide +kernel
theorem tyX6_ok : ∀ k, k < 20 → parseFieldDescriptor (TX6 k).2.2.1 = some (tyX6 k) := by decide +kernel
abbrev cX6_init : ByteArray := prog_1_method_1_code
def yX6_init : MethodName := ⟨RX6, "<init>", "()V"⟩
abbrev cX6_pass : ByteArray := prog_1_method_2_code
def yX6_pass : MethodName := ⟨RX6, "pass", "(I)I"⟩
abbrev cX6_tract : ByteArray := prog_1_method_3_code
def yX6_tract : MethodName := ⟨RX6, "tract", "(II)I"⟩
abbrev cX6_deed : ByteArray := prog_1_method_4_code
def yX6_deed : MethodName := ⟨RX6, "deed", "(IIIII)I"⟩
abbrev cX6_title : ByteArray := prog_1_method_5_code
def yX6_title : MethodName := ⟨RX6, "title", "(III)I"⟩
abbrev cX6_lease : ByteArray := prog_1_method_6_code
def yX6_lease : MethodName := ⟨RX6, "lease", "(IIIII)I"⟩
abbrev cX6_unit : ByteArray := prog_1_method_8_code
def yX6_unit : MethodName := ⟨RX6, "unit", "(I)I"⟩
abbrev cX6_well : ByteArray := prog_1_method_9_code
def yX6_well : MethodName := ⟨RX6, "well", "(I)I"⟩
abbrev cX6_oil : ByteArray := prog_1_method_10_code
def yX6_oil : MethodName := ⟨RX6, "oil", "(IIII)I"⟩
abbrev cX6_cost : ByteArray := prog_1_method_11_code
def yX6_cost : MethodName := ⟨RX6, "cost", "(III)I"⟩
abbrev cX6_tax : ByteArray := prog_1_method_12_code
def yX6_tax : MethodName := ⟨RX6, "tax", "(II)I"⟩
abbrev cX6_consent : ByteArray := prog_1_method_13_code
def yX6_consent : MethodName := ⟨RX6, "consent", "(IIZ)Z"⟩
abbrev cX6_penalty : ByteArray := prog_1_method_14_code
def yX6_penalty : MethodName := ⟨RX6, "penalty", "(I)I"⟩
abbrev cX6_interest : ByteArray := prog_1_method_15_code
def yX6_interest : MethodName := ⟨RX6, "interest", "(IIIZ)I"⟩
abbrev cX6_revenue : ByteArray := prog_1_method_16_code
def yX6_revenue : MethodName := ⟨RX6, "revenue", "(II)I"⟩
abbrev cX6_due : ByteArray := prog_1_method_17_code
def yX6_due : MethodName := ⟨RX6, "due", "(III)I"⟩
abbrev cX6_balance : ByteArray := prog_1_method_18_code
def yX6_balance : MethodName := ⟨RX6, "balance", "(III)J"⟩
abbrev cX6_agrees : ByteArray := prog_1_method_19_code
def yX6_agrees : MethodName := ⟨RX6, "agrees", "(II)Z"⟩
abbrev cX6_suspend : ByteArray := prog_1_method_20_code
def yX6_suspend : MethodName := ⟨RX6, "suspend", "(IZ)Z"⟩
abbrev cX6_least : ByteArray := prog_1_method_21_code
def yX6_least : MethodName := ⟨RX6, "least", "(I)I"⟩
abbrev cX6_payDay : ByteArray := prog_1_method_22_code
def yX6_payDay : MethodName := ⟨RX6, "payDay", "()J"⟩
abbrev cX6_owed : ByteArray := prog_1_method_23_code
def yX6_owed : MethodName := ⟨RX6, "owed", "(I)J"⟩
abbrev cX6_paid : ByteArray := prog_1_method_24_code
def yX6_paid : MethodName := ⟨RX6, "paid", "(I)J"⟩
abbrev cX6_isOwner : ByteArray := prog_1_method_25_code
def yX6_isOwner : MethodName := ⟨RX6, "isOwner", "(I)Z"⟩
abbrev cX6_isMonth : ByteArray := prog_1_method_26_code
def yX6_isMonth : MethodName := ⟨RX6, "isMonth", "(I)Z"⟩
abbrev cX6_tractAt : ByteArray := prog_1_method_27_code
def yX6_tractAt : MethodName := ⟨RX6, "tractAt", "(I)LDivisionorder$Tract;"⟩
abbrev cX6_unitAt : ByteArray := prog_1_method_28_code
def yX6_unitAt : MethodName := ⟨RX6, "unitAt", "(I)LDivisionorder$Unit;"⟩
abbrev cX6_unitIn : ByteArray := prog_1_method_29_code
def yX6_unitIn : MethodName := ⟨RX6, "unitIn", "(II)LDivisionorder$Unit;"⟩
abbrev cX6_wellAt : ByteArray := prog_1_method_30_code
def yX6_wellAt : MethodName := ⟨RX6, "wellAt", "(I)LDivisionorder$Well;"⟩
abbrev cX6_hasTractOfUnit : ByteArray := prog_1_method_31_code
def yX6_hasTractOfUnit : MethodName := ⟨RX6, "hasTractOfUnit", "(I)Z"⟩
abbrev cX6_hasBit : ByteArray := prog_1_method_32_code
def yX6_hasBit : MethodName := ⟨RX6, "hasBit", "(II)Z"⟩
abbrev cX6_withBit : ByteArray := prog_1_method_33_code
def yX6_withBit : MethodName := ⟨RX6, "withBit", "(IIZ)I"⟩
abbrev cX6_titleOf : ByteArray := prog_1_method_34_code
def yX6_titleOf : MethodName := ⟨RX6, "titleOf", "(LDivisionorder$Tract;II)I"⟩
abbrev cX6_leastTitle : ByteArray := prog_1_method_35_code
def yX6_leastTitle : MethodName := ⟨RX6, "leastTitle", "(LDivisionorder$Tract;II)I"⟩
abbrev cX6_readTitles : ByteArray := prog_1_method_36_code
def yX6_readTitles : MethodName := ⟨RX6, "readTitles", "(LDivisionorder$Tract;I)V"⟩
abbrev cX6_taxIn : ByteArray := prog_1_method_37_code
def yX6_taxIn : MethodName := ⟨RX6, "taxIn", "(I)I"⟩
abbrev cX6_revenueOf : ByteArray := prog_1_method_38_code
def yX6_revenueOf : MethodName := ⟨RX6, "revenueOf", "(LDivisionorder$Unit;I)J"⟩
abbrev cX6_layDeck : ByteArray := prog_1_method_39_code
def yX6_layDeck : MethodName := ⟨RX6, "layDeck", "(LDivisionorder$Unit;I)V"⟩
abbrev cX6_layTract : ByteArray := prog_1_method_40_code
def yX6_layTract : MethodName := ⟨RX6, "layTract", "(LDivisionorder$Tract;I)V"⟩
abbrev cX6_leaseThatCounts : ByteArray := prog_1_method_41_code
def yX6_leaseThatCounts : MethodName := ⟨RX6, "leaseThatCounts", "(LDivisionorder$Tract;II)LDivisionorder$Lease;"⟩
abbrev cX6_unsettle : ByteArray := prog_1_method_42_code
def yX6_unsettle : MethodName := ⟨RX6, "unsettle", "(I)V"⟩
abbrev cX6_settle : ByteArray := prog_1_method_43_code
def yX6_settle : MethodName := ⟨RX6, "settle", "()V"⟩
abbrev cX6_settleMonth : ByteArray := prog_1_method_44_code
def yX6_settleMonth : MethodName := ⟨RX6, "settleMonth", "(LDivisionorder$Unit;I)V"⟩
abbrev cX6_carriedOwners : ByteArray := prog_1_method_45_code
def yX6_carriedOwners : MethodName := ⟨RX6, "carriedOwners", "(LDivisionorder$Unit;I)I"⟩
abbrev cX6_bookCosts : ByteArray := prog_1_method_46_code
def yX6_bookCosts : MethodName := ⟨RX6, "bookCosts", "(LDivisionorder$Unit;II)V"⟩
abbrev cX6_bookRevenue : ByteArray := prog_1_method_47_code
def yX6_bookRevenue : MethodName := ⟨RX6, "bookRevenue", "(LDivisionorder$Unit;II)V"⟩
abbrev cX6_partByWorking : ByteArray := prog_1_method_48_code
def yX6_partByWorking : MethodName := ⟨RX6, "partByWorking", "(JI)V"⟩
abbrev cX6_settledOwed : ByteArray := prog_1_method_49_code
def yX6_settledOwed : MethodName := ⟨RX6, "settledOwed", "(I)J"⟩
def RX7 : String := "DivisionorderModel"
def TX7 : u_T := fun k => match k with
  | _ => ("", "", "", false)
def tyX7 : Nat → FieldType := fun k => match k with
  | _ => .int
abbrev wsX70 : List Cond := u_ws RX7 TX7 0
theorem nmX7 : ∀ a, a < 0 → ∀ b, b < 0 → a ≠ b → (TX7 a).2.1 ≠ (TX7 b).2.1 := by decide +kernel
theorem tyX7_ok : ∀ k, k < 0 → parseFieldDescriptor (TX7 k).2.2.1 = some (tyX7 k) := by decide +kernel
def RJ9 : String := "java/lang/Math"
def TJ9 : u_T := fun k => match k with
  | _ => ("", "", "", false)
def tyJ9 : Nat → FieldType := fun k => match k with
  | _ => .int
abbrev wsJ90 : List Cond := u_ws RJ9 TJ9 0
theorem nmJ9 : ∀ a, a < 0 → ∀ b, b < 0 → a ≠ b → (TJ9 a).2.1 ≠ (TJ9 b).2.1 := by decide +kernel
theorem tyJ9_ok : ∀ k, k < 0 → parseFieldDescriptor (TJ9 k).2.2.1 = some (tyJ9 k) := by decide +kernel
abbrev cJ9_min_7cf53 : ByteArray := prog_14_method_69_code
def yJ9_min_7cf53 : MethodName := ⟨RJ9, "min", "(II)I"⟩
abbrev cJ9_min_f86c9 : ByteArray := prog_14_method_70_code
def yJ9_min_f86c9 : MethodName := ⟨RJ9, "min", "(JJ)J"⟩
def RJ0 : String := "java/lang/String"
def TJ0 : u_T := fun k => match k with
  | _ => ("", "", "", false)
def tyJ0 : Nat → FieldType := fun k => match k with
  | _ => .int
abbrev wsJ00 : List Cond := u_ws RJ0 TJ0 0
theorem nmJ0 : ∀ a, a < 0 → ∀ b, b < 0 → a ≠ b → (TJ0 a).2.1 ≠ (TJ0 b).2.1 := by decide +kernel
theorem tyJ0_ok : ∀ k, k < 0 → parseFieldDescriptor (TJ0 k).2.2.1 = some (tyJ0 k) := by decide +kernel
def RL : String := "DivisionorderLaw"
abbrev cL_drawn : ByteArray := method_2_code
def yL_drawn : MethodName := ⟨RL, "drawn", "([II)I"⟩
abbrev cL_pass : ByteArray := method_3_code
def yL_pass : MethodName := ⟨RL, "pass", "(LDivisionorder;I)I"⟩
abbrev cL_tract : ByteArray := method_4_code
def yL_tract : MethodName := ⟨RL, "tract", "(LDivisionorder;II)I"⟩
abbrev cL_deed : ByteArray := method_5_code
def yL_deed : MethodName := ⟨RL, "deed", "(LDivisionorder;IIIII)I"⟩
abbrev cL_title : ByteArray := method_6_code
def yL_title : MethodName := ⟨RL, "title", "(LDivisionorder;III)I"⟩
abbrev cL_lease : ByteArray := method_7_code
def yL_lease : MethodName := ⟨RL, "lease", "(LDivisionorder;IIIII)I"⟩
abbrev cL_unit : ByteArray := method_8_code
def yL_unit : MethodName := ⟨RL, "unit", "(LDivisionorder;I)I"⟩
abbrev cL_well : ByteArray := method_9_code
def yL_well : MethodName := ⟨RL, "well", "(LDivisionorder;I)I"⟩
abbrev cL_oil : ByteArray := method_10_code
def yL_oil : MethodName := ⟨RL, "oil", "(LDivisionorder;IIII)I"⟩
abbrev cL_cost : ByteArray := method_11_code
def yL_cost : MethodName := ⟨RL, "cost", "(LDivisionorder;III)I"⟩
abbrev cL_tax : ByteArray := method_12_code
def yL_tax : MethodName := ⟨RL, "tax", "(LDivisionorder;II)I"⟩
abbrev cL_consent : ByteArray := method_13_code
def yL_consent : MethodName := ⟨RL, "consent", "(LDivisionorder;IIZ)I"⟩
abbrev cL_penalty : ByteArray := method_14_code
def yL_penalty : MethodName := ⟨RL, "penalty", "(LDivisionorder;I)I"⟩
abbrev cL_interest : ByteArray := method_15_code
def yL_interest : MethodName := ⟨RL, "interest", "(LDivisionorder;IIIZ)I"⟩
abbrev cL_revenue : ByteArray := method_16_code
def yL_revenue : MethodName := ⟨RL, "revenue", "(LDivisionorder;II)I"⟩
abbrev cL_due : ByteArray := method_17_code
def yL_due : MethodName := ⟨RL, "due", "(LDivisionorder;III)I"⟩
abbrev cL_balance : ByteArray := method_18_code
def yL_balance : MethodName := ⟨RL, "balance", "(LDivisionorder;III)J"⟩
abbrev cL_agrees : ByteArray := method_19_code
def yL_agrees : MethodName := ⟨RL, "agrees", "(LDivisionorder;II)I"⟩
abbrev cL_suspend : ByteArray := method_20_code
def yL_suspend : MethodName := ⟨RL, "suspend", "(LDivisionorder;IZ)I"⟩
abbrev cL_least : ByteArray := method_21_code
def yL_least : MethodName := ⟨RL, "least", "(LDivisionorder;I)I"⟩
abbrev cL_owed : ByteArray := method_22_code
def yL_owed : MethodName := ⟨RL, "owed", "(LDivisionorder;I)J"⟩
abbrev cL_paid : ByteArray := method_23_code
def yL_paid : MethodName := ⟨RL, "paid", "(LDivisionorder;I)J"⟩
abbrev cL_fits : ByteArray := method_24_code
def yL_fits : MethodName := ⟨RL, "fits", "(LDivisionorder;II)Z"⟩
abbrev cL_law : ByteArray := code
def yL_law : MethodName := ⟨RL, "law", "([I)Z"⟩
def wsX0_init : List Cond := .code yX0_init cX0_init 6 none :: ([.methodLink RX0 1 objectInit, .instanceMethod objectInit, .code objectInit ⟨#[0xb1]⟩ 1 none, .fieldLink RX0 7 "Divisionorder$Deed" "tract" "LDivisionorder$Tract;", .fieldLink RX0 13 "Divisionorder$Deed" "from" "I", .fieldLink RX0 17 "Divisionorder$Deed" "to" "I", .fieldLink RX0 20 "Divisionorder$Deed" "parts" "I", .fieldLink RX0 23 "Divisionorder$Deed" "month" "I"] ++ wsX00)
def wsX1_init : List Cond := .code yX1_init cX1_init 5 none :: ([.methodLink RX1 3 objectInit, .instanceMethod objectInit, .code objectInit ⟨#[0xb1]⟩ 1 none, .fieldLink RX1 9 "Divisionorder$Lease" "firstMonth" "I", .fieldLink RX1 15 "Divisionorder$Lease" "lastOfTerm" "I", .fieldLink RX1 18 "Divisionorder$Lease" "tract" "LDivisionorder$Tract;", .fieldLink RX1 22 "Divisionorder$Lease" "lessor" "I", .fieldLink RX1 25 "Divisionorder$Lease" "lessee" "I", .fieldLink RX1 28 "Divisionorder$Lease" "royalty" "I"] ++ wsX10)
def wsX1_isInForce : List Cond := .code yX1_isInForce cX1_isInForce 4 (some .boolean) :: ([.fieldLink RX1 9 "Divisionorder$Lease" "firstMonth" "I", .fieldLink RX1 18 "Divisionorder$Lease" "tract" "LDivisionorder$Tract;", .fieldLink RX1 31 "Divisionorder$Tract" "unit" "LDivisionorder$Unit;", .fieldLink RX1 15 "Divisionorder$Lease" "lastOfTerm" "I", .fieldLink RX1 37 "Divisionorder$Unit" "barrels" "[I"] ++ wsX10 ++ wsX30 ++ wsX40)
def wsX2_init : List Cond := .code yX2_init cX2_init 2 none :: ([.methodLink RX2 1 objectInit, .instanceMethod objectInit, .code objectInit ⟨#[0xb1]⟩ 1 none, .arrayClass .long, .fieldLink RX2 7 "Divisionorder$Parting" "weights" "[J", .fieldLink RX2 13 "Divisionorder$Parting" "parts" "[J", .fieldLink RX2 16 "Divisionorder$Parting" "rests" "[J"] ++ wsX20)
def wsX2_clear : List Cond := .code yX2_clear cX2_clear 2 none :: ([.fieldLink RX2 7 "Divisionorder$Parting" "weights" "[J"] ++ wsX20)
def wsX2_giveOne : List Cond := .code yX2_giveOne cX2_giveOne 3 none :: ([.fieldLink RX2 16 "Divisionorder$Parting" "rests" "[J", .fieldLink RX2 13 "Divisionorder$Parting" "parts" "[J", .constantLong RX2 22 (-1)] ++ wsX20)
def wsX2_partOut : List Cond := .code yX2_partOut cX2_partOut 10 none :: ([.fieldLink RX2 7 "Divisionorder$Parting" "weights" "[J", .fieldLink RX2 13 "Divisionorder$Parting" "parts" "[J", .fieldLink RX2 16 "Divisionorder$Parting" "rests" "[J", .methodLink RX2 19 yX2_giveOne, .instanceMethod yX2_giveOne, .selects RX2 yX2_giveOne yX2_giveOne, .initialized RX2, .code yX2_giveOne cX2_giveOne 3 none, .constantLong RX2 22 (-1)] ++ wsX20)
def wsX3_init : List Cond := .code yX3_init cX3_init 3 none :: ([.methodLink RX3 1 objectInit, .instanceMethod objectInit, .code objectInit ⟨#[0xb1]⟩ 1 none, .fieldLink RX3 7 "Divisionorder$Tract" "unit" "LDivisionorder$Unit;", .fieldLink RX3 13 "Divisionorder$Tract" "acres" "I", .fieldLink RX3 17 "Divisionorder$Tract" "firstOwner" "I"] ++ wsX30)
def wsX4_init : List Cond := .code yX4_init cX4_init 2 none :: ([.methodLink RX4 3 objectInit, .instanceMethod objectInit, .code objectInit ⟨#[0xb1]⟩ 1 none, .arrayClass .int, .fieldLink RX4 9 "Divisionorder$Unit" "refusing" "[I", .fieldLink RX4 15 "Divisionorder$Unit" "barrels" "[I", .fieldLink RX4 18 "Divisionorder$Unit" "gross" "[I", .fieldLink RX4 21 "Divisionorder$Unit" "costs" "[I", .arrayClass .long, .fieldLink RX4 24 "Divisionorder$Unit" "dues" "[J", .fieldLink RX4 28 "Divisionorder$Unit" "balances" "[J", .fieldLink RX4 31 "Divisionorder$Unit" "firstMonth" "I"] ++ wsX40)
def wsX4_openMonth : List Cond := .code yX4_openMonth cX4_openMonth 5 none :: ([.fieldLink RX4 24 "Divisionorder$Unit" "dues" "[J", .fieldLink RX4 28 "Divisionorder$Unit" "balances" "[J", .fieldLink RX4 31 "Divisionorder$Unit" "firstMonth" "I"] ++ wsX40)
def wsX5_init : List Cond := .code yX5_init cX5_init 2 none :: ([.methodLink RX5 3 objectInit, .instanceMethod objectInit, .code objectInit ⟨#[0xb1]⟩ 1 none, .arrayClass .int, .fieldLink RX5 9 "Divisionorder$Well" "barrels" "[I", .fieldLink RX5 15 "Divisionorder$Well" "prices" "[I", .fieldLink RX5 18 "Divisionorder$Well" "costs" "[I", .fieldLink RX5 21 "Divisionorder$Well" "unit" "LDivisionorder$Unit;"] ++ wsX50)
def wsX5_tellOil : List Cond := .code yX5_tellOil cX5_tellOil 4 none :: ([.fieldLink RX5 21 "Divisionorder$Well" "unit" "LDivisionorder$Unit;", .fieldLink RX5 25 "Divisionorder$Unit" "barrels" "[I", .fieldLink RX5 9 "Divisionorder$Well" "barrels" "[I", .fieldLink RX5 28 "Divisionorder$Unit" "gross" "[I", .fieldLink RX5 15 "Divisionorder$Well" "prices" "[I"] ++ wsX50 ++ wsX40)
def wsX6_init_r1 : List Cond := [Cond.methodLink RX6 3 objectInit, Cond.instanceMethod objectInit, Cond.code objectInit ⟨#[0xb1]⟩ 1 none, Cond.fieldLink RX6 9 "Divisionorder" "now" "I", Cond.classLink RX6 13 RX3, Cond.fieldLink RX6 15 "Divisionorder" "tracts" "[LDivisionorder$Tract;", Cond.fieldLink RX6 19 "Divisionorder" "tractCount" "I", Cond.classLink RX6 22 RX0, Cond.fieldLink RX6 24 "Divisionorder" "deeds" "[LDivisionorder$Deed;", Cond.fieldLink RX6 28 "Divisionorder" "deedCount" "I", Cond.classLink RX6 31 RX1, Cond.fieldLink RX6 33 "Divisionorder" "leases" "[LDivisionorder$Lease;", Cond.fieldLink RX6 37 "Divisionorder" "leaseCount" "I", Cond.classLink RX6 40 RX4, Cond.fieldLink RX6 42 "Divisionorder" "units" "[LDivisionorder$Unit;", Cond.fieldLink RX6 46 "Divisionorder" "unitCount" "I", Cond.classLink RX6 49 RX5, Cond.fieldLink RX6 51 "Divisionorder" "wells" "[LDivisionorder$Well;", Cond.fieldLink RX6 55 "Divisionorder" "wellCount" "I", Cond.arrayClass .int, Cond.fieldLink RX6 58 "Divisionorder" "taxesTold" "[I", Cond.fieldLink RX6 62 "Divisionorder" "penaltyHundredths" "I", Cond.fieldLink RX6 65 "Divisionorder" "suspendedOwners" "I", Cond.fieldLink RX6 68 "Divisionorder" "leastCheque" "I"]
def wsX6_init_r2 : List Cond := [Cond.arrayClass .long, Cond.fieldLink RX6 71 "Divisionorder" "paidCents" "[J", Cond.fieldLink RX6 75 "Divisionorder" "settledMonths" "I", Cond.fieldLink RX6 78 "Divisionorder" "titles" "[I", Cond.classLink RX6 81 RX2, Cond.instantiable RX2 3, Cond.initialized RX2, Cond.fieldLink RX6 86 "Divisionorder" "deck" "LDivisionorder$Parting;", Cond.fieldLink RX6 90 "Divisionorder" "sharers" "LDivisionorder$Parting;", Cond.methodLink RX6 83 yX2_init, Cond.instanceMethod yX2_init, Cond.code yX2_init cX2_init 2 none, Cond.methodLink RX2 1 objectInit, Cond.fieldLink RX2 7 "Divisionorder$Parting" "weights" "[J", Cond.fieldLink RX2 13 "Divisionorder$Parting" "parts" "[J", Cond.fieldLink RX2 16 "Divisionorder$Parting" "rests" "[J"]
def wsX6_init : List Cond := .code yX6_init cX6_init 2 none :: ((wsX6_init_r1 ++ wsX6_init_r2) ++ wsX60 ++ wsX20)
def wsX6_pass : List Cond := .code yX6_pass cX6_pass 2 (some .int) :: ([.classLink RX6 93 "java/lang/IllegalArgumentException", .initialized "java/lang/IllegalArgumentException", .classLink RX6 100 "java/lang/IllegalStateException", .initialized "java/lang/IllegalStateException", .fieldLink RX6 9 "Divisionorder" "now" "I"] ++ wsX60 ++ (vx_atS RX6 97 "java/lang/IllegalArgumentException" ["java/lang/RuntimeException", "java/lang/Exception"]).filter goodWord ++ (vx_atS RX6 104 "java/lang/IllegalStateException" ["java/lang/RuntimeException", "java/lang/Exception"]).filter goodWord)
def wsX6_isOwner : List Cond := .code yX6_isOwner cX6_isOwner 1 (some .boolean) :: ([])
def wsX6_tract : List Cond := .code yX6_tract cX6_tract 3 (some .int) :: ([.classLink RX6 109 "java/lang/IndexOutOfBoundsException", .initialized "java/lang/IndexOutOfBoundsException", .classLink RX6 93 "java/lang/IllegalArgumentException", .initialized "java/lang/IllegalArgumentException", .classLink RX6 100 "java/lang/IllegalStateException", .initialized "java/lang/IllegalStateException", .fieldLink RX6 19 "Divisionorder" "tractCount" "I", .fieldLink RX6 15 "Divisionorder" "tracts" "[LDivisionorder$Tract;", .classLink RX6 13 RX3, .instantiable RX3 3, .initialized RX3, .methodLink RX6 105 yX6_isOwner, .static yX6_isOwner, .initialized RX6, .code yX6_isOwner cX6_isOwner 1 (some .boolean), .methodLink RX6 118 yX3_init, .instanceMethod yX3_init, .code yX3_init cX3_init 3 none, .methodLink RX3 1 objectInit, .instanceMethod objectInit, .code objectInit ⟨#[0xb1]⟩ 1 none, .fieldLink RX3 7 "Divisionorder$Tract" "unit" "LDivisionorder$Unit;", .fieldLink RX3 13 "Divisionorder$Tract" "acres" "I", .fieldLink RX3 17 "Divisionorder$Tract" "firstOwner" "I"] ++ wsX60 ++ wsX30 ++ (vx_atS RX6 113 "java/lang/IndexOutOfBoundsException" ["java/lang/RuntimeException", "java/lang/Exception"]).filter goodWord ++ (vx_atS RX6 97 "java/lang/IllegalArgumentException" ["java/lang/RuntimeException", "java/lang/Exception"]).filter goodWord ++ (vx_atS RX6 104 "java/lang/IllegalStateException" ["java/lang/RuntimeException", "java/lang/Exception"]).filter goodWord)
def wsX6_tractAt : List Cond := .code yX6_tractAt cX6_tractAt 2 (some (.object "Divisionorder$Tract")) :: ([.fieldLink RX6 15 "Divisionorder" "tracts" "[LDivisionorder$Tract;"] ++ wsX60)
def wsX6_isMonth : List Cond := .code yX6_isMonth cX6_isMonth 2 (some .boolean) :: ([.fieldLink RX6 9 "Divisionorder" "now" "I"] ++ wsX60)
def wsX6_titleOf : List Cond := .code yX6_titleOf cX6_titleOf 9 (some .int) :: ([.fieldLink RX6 279 "Divisionorder$Tract" "firstOwner" "I", .fieldLink RX6 24 "Divisionorder" "deeds" "[LDivisionorder$Deed;", .fieldLink RX6 282 "Divisionorder$Deed" "tract" "LDivisionorder$Tract;", .fieldLink RX6 286 "Divisionorder$Deed" "month" "I", .fieldLink RX6 289 "Divisionorder$Deed" "to" "I", .fieldLink RX6 292 "Divisionorder$Deed" "parts" "I", .fieldLink RX6 294 "Divisionorder$Deed" "from" "I"] ++ wsX30 ++ wsX60 ++ wsX00)
def wsX6_leastTitle : List Cond := .code yX6_leastTitle cX6_leastTitle 6 (some .int) :: ([.fieldLink RX6 9 "Divisionorder" "now" "I", .methodLink RX6 297 Lib.Math.min.name, .static Lib.Math.min.name, .initialized "java/lang/Math", .code Lib.Math.min.name Lib.Math.min.code 2 (some .int), .methodLink RX6 144 yX6_titleOf, .instanceMethod yX6_titleOf, .selects RX6 yX6_titleOf yX6_titleOf, .initialized RX6, .code yX6_titleOf cX6_titleOf 9 (some .int), .fieldLink RX6 279 "Divisionorder$Tract" "firstOwner" "I", .fieldLink RX6 24 "Divisionorder" "deeds" "[LDivisionorder$Deed;", .fieldLink RX6 282 "Divisionorder$Deed" "tract" "LDivisionorder$Tract;", .fieldLink RX6 286 "Divisionorder$Deed" "month" "I", .fieldLink RX6 289 "Divisionorder$Deed" "to" "I", .fieldLink RX6 292 "Divisionorder$Deed" "parts" "I", .fieldLink RX6 294 "Divisionorder$Deed" "from" "I"] ++ wsX60 ++ wsX30 ++ wsX00)
def wsX6_unsettle : List Cond := .code yX6_unsettle cX6_unsettle 2 none :: ([.fieldLink RX6 75 "Divisionorder" "settledMonths" "I", .methodLink RX6 297 Lib.Math.min.name, .static Lib.Math.min.name, .initialized "java/lang/Math", .code Lib.Math.min.name Lib.Math.min.code 2 (some .int)] ++ wsX60)
def wsX6_deed_r1 : List Cond := [Cond.classLink RX6 109 "java/lang/IndexOutOfBoundsException", Cond.initialized "java/lang/IndexOutOfBoundsException", Cond.classLink RX6 93 "java/lang/IllegalArgumentException", Cond.initialized "java/lang/IllegalArgumentException", Cond.classLink RX6 100 "java/lang/IllegalStateException", Cond.initialized "java/lang/IllegalStateException", Cond.fieldLink RX6 28 "Divisionorder" "deedCount" "I", Cond.fieldLink RX6 24 "Divisionorder" "deeds" "[LDivisionorder$Deed;", Cond.classLink RX6 22 RX0, Cond.instantiable RX0 5, Cond.initialized RX0, Cond.fieldLink RX6 9 "Divisionorder" "now" "I", Cond.methodLink RX6 121 yX6_tractAt, Cond.instanceMethod yX6_tractAt, Cond.selects RX6 yX6_tractAt yX6_tractAt, Cond.initialized RX6, Cond.code yX6_tractAt cX6_tractAt 2 (some (.object "Divisionorder$Tract")), Cond.fieldLink RX6 15 "Divisionorder" "tracts" "[LDivisionorder$Tract;", Cond.methodLink RX6 105 yX6_isOwner, Cond.static yX6_isOwner, Cond.code yX6_isOwner cX6_isOwner 1 (some .boolean), Cond.methodLink RX6 125 yX6_isMonth, Cond.instanceMethod yX6_isMonth, Cond.selects RX6 yX6_isMonth yX6_isMonth]
def wsX6_deed_r2 : List Cond := [Cond.code yX6_isMonth cX6_isMonth 2 (some .boolean), Cond.methodLink RX6 132 yX6_leastTitle, Cond.instanceMethod yX6_leastTitle, Cond.selects RX6 yX6_leastTitle yX6_leastTitle, Cond.code yX6_leastTitle cX6_leastTitle 6 (some .int), Cond.methodLink RX6 297 Lib.Math.min.name, Cond.static Lib.Math.min.name, Cond.initialized "java/lang/Math", Cond.code Lib.Math.min.name Lib.Math.min.code 2 (some .int), Cond.methodLink RX6 144 yX6_titleOf, Cond.instanceMethod yX6_titleOf, Cond.selects RX6 yX6_titleOf yX6_titleOf, Cond.code yX6_titleOf cX6_titleOf 9 (some .int), Cond.fieldLink RX6 279 "Divisionorder$Tract" "firstOwner" "I", Cond.fieldLink RX6 282 "Divisionorder$Deed" "tract" "LDivisionorder$Tract;", Cond.fieldLink RX6 286 "Divisionorder$Deed" "month" "I", Cond.fieldLink RX6 289 "Divisionorder$Deed" "to" "I", Cond.fieldLink RX6 292 "Divisionorder$Deed" "parts" "I", Cond.fieldLink RX6 294 "Divisionorder$Deed" "from" "I", Cond.methodLink RX6 138 yX0_init, Cond.instanceMethod yX0_init, Cond.code yX0_init cX0_init 6 none, Cond.methodLink RX0 1 objectInit, Cond.instanceMethod objectInit]
def wsX6_deed_r3 : List Cond := [Cond.code objectInit ⟨#[0xb1]⟩ 1 none, Cond.fieldLink RX0 7 "Divisionorder$Deed" "tract" "LDivisionorder$Tract;", Cond.fieldLink RX0 13 "Divisionorder$Deed" "from" "I", Cond.fieldLink RX0 17 "Divisionorder$Deed" "to" "I", Cond.fieldLink RX0 20 "Divisionorder$Deed" "parts" "I", Cond.fieldLink RX0 23 "Divisionorder$Deed" "month" "I", Cond.methodLink RX6 141 yX6_unsettle, Cond.instanceMethod yX6_unsettle, Cond.selects RX6 yX6_unsettle yX6_unsettle, Cond.code yX6_unsettle cX6_unsettle 2 none, Cond.fieldLink RX6 75 "Divisionorder" "settledMonths" "I"]
def wsX6_deed : List Cond := .code yX6_deed cX6_deed 7 (some .int) :: ((wsX6_deed_r1 ++ (wsX6_deed_r2 ++ wsX6_deed_r3)) ++ wsX60 ++ wsX00 ++ wsX30 ++ (vx_atS RX6 113 "java/lang/IndexOutOfBoundsException" ["java/lang/RuntimeException", "java/lang/Exception"]).filter goodWord ++ (vx_atS RX6 97 "java/lang/IllegalArgumentException" ["java/lang/RuntimeException", "java/lang/Exception"]).filter goodWord ++ (vx_atS RX6 104 "java/lang/IllegalStateException" ["java/lang/RuntimeException", "java/lang/Exception"]).filter goodWord)
def wsX6_title_r1 : List Cond := [Cond.classLink RX6 109 "java/lang/IndexOutOfBoundsException", Cond.initialized "java/lang/IndexOutOfBoundsException", Cond.methodLink RX6 121 yX6_tractAt, Cond.instanceMethod yX6_tractAt, Cond.selects RX6 yX6_tractAt yX6_tractAt, Cond.initialized RX6, Cond.code yX6_tractAt cX6_tractAt 2 (some (.object "Divisionorder$Tract")), Cond.fieldLink RX6 15 "Divisionorder" "tracts" "[LDivisionorder$Tract;", Cond.methodLink RX6 105 yX6_isOwner, Cond.static yX6_isOwner, Cond.code yX6_isOwner cX6_isOwner 1 (some .boolean), Cond.methodLink RX6 125 yX6_isMonth, Cond.instanceMethod yX6_isMonth, Cond.selects RX6 yX6_isMonth yX6_isMonth, Cond.code yX6_isMonth cX6_isMonth 2 (some .boolean), Cond.fieldLink RX6 9 "Divisionorder" "now" "I", Cond.methodLink RX6 144 yX6_titleOf, Cond.instanceMethod yX6_titleOf, Cond.selects RX6 yX6_titleOf yX6_titleOf, Cond.code yX6_titleOf cX6_titleOf 9 (some .int), Cond.fieldLink RX6 279 "Divisionorder$Tract" "firstOwner" "I", Cond.fieldLink RX6 24 "Divisionorder" "deeds" "[LDivisionorder$Deed;", Cond.fieldLink RX6 282 "Divisionorder$Deed" "tract" "LDivisionorder$Tract;", Cond.fieldLink RX6 286 "Divisionorder$Deed" "month" "I"]
def wsX6_title_r2 : List Cond := [Cond.fieldLink RX6 289 "Divisionorder$Deed" "to" "I", Cond.fieldLink RX6 292 "Divisionorder$Deed" "parts" "I", Cond.fieldLink RX6 294 "Divisionorder$Deed" "from" "I"]
def wsX6_title : List Cond := .code yX6_title cX6_title 5 (some .int) :: ((wsX6_title_r1 ++ wsX6_title_r2) ++ wsX60 ++ wsX30 ++ wsX00 ++ (vx_atS RX6 113 "java/lang/IndexOutOfBoundsException" ["java/lang/RuntimeException", "java/lang/Exception"]).filter goodWord)
def wsX6_lease_r1 : List Cond := [Cond.classLink RX6 109 "java/lang/IndexOutOfBoundsException", Cond.initialized "java/lang/IndexOutOfBoundsException", Cond.classLink RX6 93 "java/lang/IllegalArgumentException", Cond.initialized "java/lang/IllegalArgumentException", Cond.classLink RX6 100 "java/lang/IllegalStateException", Cond.initialized "java/lang/IllegalStateException", Cond.fieldLink RX6 37 "Divisionorder" "leaseCount" "I", Cond.classLink RX6 31 RX1, Cond.instantiable RX1 6, Cond.initialized RX1, Cond.fieldLink RX6 9 "Divisionorder" "now" "I", Cond.fieldLink RX6 156 "Divisionorder$Lease" "firstMonth" "I", Cond.fieldLink RX6 159 "Divisionorder$Lease" "lastOfTerm" "I", Cond.fieldLink RX6 33 "Divisionorder" "leases" "[LDivisionorder$Lease;", Cond.methodLink RX6 121 yX6_tractAt, Cond.instanceMethod yX6_tractAt, Cond.selects RX6 yX6_tractAt yX6_tractAt, Cond.initialized RX6, Cond.code yX6_tractAt cX6_tractAt 2 (some (.object "Divisionorder$Tract")), Cond.fieldLink RX6 15 "Divisionorder" "tracts" "[LDivisionorder$Tract;", Cond.methodLink RX6 105 yX6_isOwner, Cond.static yX6_isOwner, Cond.code yX6_isOwner cX6_isOwner 1 (some .boolean), Cond.methodLink RX6 153 yX1_init]
def wsX6_lease_r2 : List Cond := [Cond.instanceMethod yX1_init, Cond.code yX1_init cX1_init 5 none, Cond.methodLink RX1 3 objectInit, Cond.instanceMethod objectInit, Cond.code objectInit ⟨#[0xb1]⟩ 1 none, Cond.fieldLink RX1 9 "Divisionorder$Lease" "firstMonth" "I", Cond.fieldLink RX1 15 "Divisionorder$Lease" "lastOfTerm" "I", Cond.fieldLink RX1 18 "Divisionorder$Lease" "tract" "LDivisionorder$Tract;", Cond.fieldLink RX1 22 "Divisionorder$Lease" "lessor" "I", Cond.fieldLink RX1 25 "Divisionorder$Lease" "lessee" "I", Cond.fieldLink RX1 28 "Divisionorder$Lease" "royalty" "I", Cond.methodLink RX6 141 yX6_unsettle, Cond.instanceMethod yX6_unsettle, Cond.selects RX6 yX6_unsettle yX6_unsettle, Cond.code yX6_unsettle cX6_unsettle 2 none, Cond.fieldLink RX6 75 "Divisionorder" "settledMonths" "I", Cond.methodLink RX6 297 Lib.Math.min.name, Cond.static Lib.Math.min.name, Cond.initialized "java/lang/Math", Cond.code Lib.Math.min.name Lib.Math.min.code 2 (some .int)]
def wsX6_lease : List Cond := .code yX6_lease cX6_lease 8 (some .int) :: ((wsX6_lease_r1 ++ wsX6_lease_r2) ++ wsX60 ++ wsX10 ++ (vx_atS RX6 113 "java/lang/IndexOutOfBoundsException" ["java/lang/RuntimeException", "java/lang/Exception"]).filter goodWord ++ (vx_atS RX6 97 "java/lang/IllegalArgumentException" ["java/lang/RuntimeException", "java/lang/Exception"]).filter goodWord ++ (vx_atS RX6 104 "java/lang/IllegalStateException" ["java/lang/RuntimeException", "java/lang/Exception"]).filter goodWord)
def wsX6_hasBit : List Cond := .code yX6_hasBit cX6_hasBit 2 (some .boolean) :: ([])
def wsX6_hasTractOfUnit : List Cond := .code yX6_hasTractOfUnit cX6_hasTractOfUnit 4 (some .boolean) :: ([.fieldLink RX6 15 "Divisionorder" "tracts" "[LDivisionorder$Tract;", .fieldLink RX6 179 "Divisionorder$Tract" "unit" "LDivisionorder$Unit;", .methodLink RX6 175 yX6_hasBit, .static yX6_hasBit, .initialized RX6, .code yX6_hasBit cX6_hasBit 2 (some .boolean)] ++ wsX60 ++ wsX30)
def wsX6_unit_r1 : List Cond := [Cond.classLink RX6 93 "java/lang/IllegalArgumentException", Cond.initialized "java/lang/IllegalArgumentException", Cond.classLink RX6 100 "java/lang/IllegalStateException", Cond.initialized "java/lang/IllegalStateException", Cond.fieldLink RX6 19 "Divisionorder" "tractCount" "I", Cond.fieldLink RX6 46 "Divisionorder" "unitCount" "I", Cond.classLink RX6 40 RX4, Cond.instantiable RX4 7, Cond.initialized RX4, Cond.fieldLink RX6 9 "Divisionorder" "now" "I", Cond.fieldLink RX6 15 "Divisionorder" "tracts" "[LDivisionorder$Tract;", Cond.fieldLink RX6 179 "Divisionorder$Tract" "unit" "LDivisionorder$Unit;", Cond.fieldLink RX6 42 "Divisionorder" "units" "[LDivisionorder$Unit;", Cond.methodLink RX6 169 yX6_hasTractOfUnit, Cond.instanceMethod yX6_hasTractOfUnit, Cond.selects RX6 yX6_hasTractOfUnit yX6_hasTractOfUnit, Cond.initialized RX6, Cond.code yX6_hasTractOfUnit cX6_hasTractOfUnit 4 (some .boolean), Cond.methodLink RX6 175 yX6_hasBit, Cond.static yX6_hasBit, Cond.code yX6_hasBit cX6_hasBit 2 (some .boolean), Cond.methodLink RX6 174 yX4_init, Cond.instanceMethod yX4_init, Cond.code yX4_init cX4_init 2 none]
def wsX6_unit_r2 : List Cond := [Cond.methodLink RX4 3 objectInit, Cond.instanceMethod objectInit, Cond.code objectInit ⟨#[0xb1]⟩ 1 none, Cond.arrayClass .int, Cond.fieldLink RX4 9 "Divisionorder$Unit" "refusing" "[I", Cond.fieldLink RX4 15 "Divisionorder$Unit" "barrels" "[I", Cond.fieldLink RX4 18 "Divisionorder$Unit" "gross" "[I", Cond.fieldLink RX4 21 "Divisionorder$Unit" "costs" "[I", Cond.arrayClass .long, Cond.fieldLink RX4 24 "Divisionorder$Unit" "dues" "[J", Cond.fieldLink RX4 28 "Divisionorder$Unit" "balances" "[J", Cond.fieldLink RX4 31 "Divisionorder$Unit" "firstMonth" "I", Cond.methodLink RX6 141 yX6_unsettle, Cond.instanceMethod yX6_unsettle, Cond.selects RX6 yX6_unsettle yX6_unsettle, Cond.code yX6_unsettle cX6_unsettle 2 none, Cond.fieldLink RX6 75 "Divisionorder" "settledMonths" "I", Cond.methodLink RX6 297 Lib.Math.min.name, Cond.static Lib.Math.min.name, Cond.initialized "java/lang/Math", Cond.code Lib.Math.min.name Lib.Math.min.code 2 (some .int)]
def wsX6_unit : List Cond := .code yX6_unit cX6_unit 5 (some .int) :: ((wsX6_unit_r1 ++ wsX6_unit_r2) ++ wsX60 ++ wsX40 ++ wsX30 ++ (vx_atS RX6 97 "java/lang/IllegalArgumentException" ["java/lang/RuntimeException", "java/lang/Exception"]).filter goodWord ++ (vx_atS RX6 104 "java/lang/IllegalStateException" ["java/lang/RuntimeException", "java/lang/Exception"]).filter goodWord)
def wsX6_unitAt : List Cond := .code yX6_unitAt cX6_unitAt 2 (some (.object "Divisionorder$Unit")) :: ([.fieldLink RX6 42 "Divisionorder" "units" "[LDivisionorder$Unit;"] ++ wsX60)
def wsX6_well_r1 : List Cond := [Cond.classLink RX6 109 "java/lang/IndexOutOfBoundsException", Cond.initialized "java/lang/IndexOutOfBoundsException", Cond.classLink RX6 100 "java/lang/IllegalStateException", Cond.initialized "java/lang/IllegalStateException", Cond.fieldLink RX6 55 "Divisionorder" "wellCount" "I", Cond.fieldLink RX6 51 "Divisionorder" "wells" "[LDivisionorder$Well;", Cond.classLink RX6 49 RX5, Cond.instantiable RX5 4, Cond.initialized RX5, Cond.methodLink RX6 183 yX6_unitAt, Cond.instanceMethod yX6_unitAt, Cond.selects RX6 yX6_unitAt yX6_unitAt, Cond.initialized RX6, Cond.code yX6_unitAt cX6_unitAt 2 (some (.object "Divisionorder$Unit")), Cond.fieldLink RX6 42 "Divisionorder" "units" "[LDivisionorder$Unit;", Cond.methodLink RX6 191 yX5_init, Cond.instanceMethod yX5_init, Cond.code yX5_init cX5_init 2 none, Cond.methodLink RX5 3 objectInit, Cond.instanceMethod objectInit, Cond.code objectInit ⟨#[0xb1]⟩ 1 none, Cond.arrayClass .int, Cond.fieldLink RX5 9 "Divisionorder$Well" "barrels" "[I", Cond.fieldLink RX5 15 "Divisionorder$Well" "prices" "[I"]
def wsX6_well_r2 : List Cond := [Cond.fieldLink RX5 18 "Divisionorder$Well" "costs" "[I", Cond.fieldLink RX5 21 "Divisionorder$Well" "unit" "LDivisionorder$Unit;"]
def wsX6_well : List Cond := .code yX6_well cX6_well 3 (some .int) :: ((wsX6_well_r1 ++ wsX6_well_r2) ++ wsX60 ++ wsX50 ++ (vx_atS RX6 113 "java/lang/IndexOutOfBoundsException" ["java/lang/RuntimeException", "java/lang/Exception"]).filter goodWord ++ (vx_atS RX6 104 "java/lang/IllegalStateException" ["java/lang/RuntimeException", "java/lang/Exception"]).filter goodWord)
def wsX6_wellAt : List Cond := .code yX6_wellAt cX6_wellAt 2 (some (.object "Divisionorder$Well")) :: ([.fieldLink RX6 51 "Divisionorder" "wells" "[LDivisionorder$Well;"] ++ wsX60)
def wsX6_oil_r1 : List Cond := [Cond.classLink RX6 109 "java/lang/IndexOutOfBoundsException", Cond.initialized "java/lang/IndexOutOfBoundsException", Cond.classLink RX6 93 "java/lang/IllegalArgumentException", Cond.initialized "java/lang/IllegalArgumentException", Cond.classLink RX6 100 "java/lang/IllegalStateException", Cond.initialized "java/lang/IllegalStateException", Cond.fieldLink RX6 202 "Divisionorder$Well" "unit" "LDivisionorder$Unit;", Cond.fieldLink RX6 203 "Divisionorder$Unit" "firstMonth" "I", Cond.fieldLink RX6 206 "Divisionorder$Well" "barrels" "[I", Cond.methodLink RX6 194 yX6_wellAt, Cond.instanceMethod yX6_wellAt, Cond.selects RX6 yX6_wellAt yX6_wellAt, Cond.initialized RX6, Cond.code yX6_wellAt cX6_wellAt 2 (some (.object "Divisionorder$Well")), Cond.fieldLink RX6 51 "Divisionorder" "wells" "[LDivisionorder$Well;", Cond.methodLink RX6 125 yX6_isMonth, Cond.instanceMethod yX6_isMonth, Cond.selects RX6 yX6_isMonth yX6_isMonth, Cond.code yX6_isMonth cX6_isMonth 2 (some .boolean), Cond.fieldLink RX6 9 "Divisionorder" "now" "I", Cond.methodLink RX6 209 yX5_tellOil, Cond.instanceMethod yX5_tellOil, Cond.selects RX5 yX5_tellOil yX5_tellOil, Cond.initialized RX5]
def wsX6_oil_r2 : List Cond := [Cond.code yX5_tellOil cX5_tellOil 4 none, Cond.fieldLink RX5 21 "Divisionorder$Well" "unit" "LDivisionorder$Unit;", Cond.fieldLink RX5 25 "Divisionorder$Unit" "barrels" "[I", Cond.fieldLink RX5 9 "Divisionorder$Well" "barrels" "[I", Cond.fieldLink RX5 28 "Divisionorder$Unit" "gross" "[I", Cond.fieldLink RX5 15 "Divisionorder$Well" "prices" "[I", Cond.methodLink RX6 141 yX6_unsettle, Cond.instanceMethod yX6_unsettle, Cond.selects RX6 yX6_unsettle yX6_unsettle, Cond.code yX6_unsettle cX6_unsettle 2 none, Cond.fieldLink RX6 75 "Divisionorder" "settledMonths" "I", Cond.methodLink RX6 297 Lib.Math.min.name, Cond.static Lib.Math.min.name, Cond.initialized "java/lang/Math", Cond.code Lib.Math.min.name Lib.Math.min.code 2 (some .int)]
def wsX6_oil : List Cond := .code yX6_oil cX6_oil 7 (some .int) :: ((wsX6_oil_r1 ++ wsX6_oil_r2) ++ wsX50 ++ wsX40 ++ wsX60 ++ (vx_atS RX6 113 "java/lang/IndexOutOfBoundsException" ["java/lang/RuntimeException", "java/lang/Exception"]).filter goodWord ++ (vx_atS RX6 97 "java/lang/IllegalArgumentException" ["java/lang/RuntimeException", "java/lang/Exception"]).filter goodWord ++ (vx_atS RX6 104 "java/lang/IllegalStateException" ["java/lang/RuntimeException", "java/lang/Exception"]).filter goodWord)
def wsX6_cost_r1 : List Cond := [Cond.classLink RX6 109 "java/lang/IndexOutOfBoundsException", Cond.initialized "java/lang/IndexOutOfBoundsException", Cond.classLink RX6 93 "java/lang/IllegalArgumentException", Cond.initialized "java/lang/IllegalArgumentException", Cond.classLink RX6 100 "java/lang/IllegalStateException", Cond.initialized "java/lang/IllegalStateException", Cond.constant RX6 213 (1000000), Cond.fieldLink RX6 202 "Divisionorder$Well" "unit" "LDivisionorder$Unit;", Cond.fieldLink RX6 203 "Divisionorder$Unit" "firstMonth" "I", Cond.fieldLink RX6 216 "Divisionorder$Well" "costs" "[I", Cond.constant RX6 219 (10000000), Cond.fieldLink RX6 222 "Divisionorder$Unit" "costs" "[I", Cond.methodLink RX6 194 yX6_wellAt, Cond.instanceMethod yX6_wellAt, Cond.selects RX6 yX6_wellAt yX6_wellAt, Cond.initialized RX6, Cond.code yX6_wellAt cX6_wellAt 2 (some (.object "Divisionorder$Well")), Cond.fieldLink RX6 51 "Divisionorder" "wells" "[LDivisionorder$Well;", Cond.methodLink RX6 125 yX6_isMonth, Cond.instanceMethod yX6_isMonth, Cond.selects RX6 yX6_isMonth yX6_isMonth, Cond.code yX6_isMonth cX6_isMonth 2 (some .boolean), Cond.fieldLink RX6 9 "Divisionorder" "now" "I", Cond.methodLink RX6 141 yX6_unsettle]
def wsX6_cost_r2 : List Cond := [Cond.instanceMethod yX6_unsettle, Cond.selects RX6 yX6_unsettle yX6_unsettle, Cond.code yX6_unsettle cX6_unsettle 2 none, Cond.fieldLink RX6 75 "Divisionorder" "settledMonths" "I", Cond.methodLink RX6 297 Lib.Math.min.name, Cond.static Lib.Math.min.name, Cond.initialized "java/lang/Math", Cond.code Lib.Math.min.name Lib.Math.min.code 2 (some .int)]
def wsX6_cost : List Cond := .code yX6_cost cX6_cost 5 (some .int) :: ((wsX6_cost_r1 ++ wsX6_cost_r2) ++ wsX50 ++ wsX40 ++ wsX60 ++ (vx_atS RX6 113 "java/lang/IndexOutOfBoundsException" ["java/lang/RuntimeException", "java/lang/Exception"]).filter goodWord ++ (vx_atS RX6 97 "java/lang/IllegalArgumentException" ["java/lang/RuntimeException", "java/lang/Exception"]).filter goodWord ++ (vx_atS RX6 104 "java/lang/IllegalStateException" ["java/lang/RuntimeException", "java/lang/Exception"]).filter goodWord)
def wsX6_taxIn : List Cond := .code yX6_taxIn cX6_taxIn 3 (some .int) :: ([.fieldLink RX6 58 "Divisionorder" "taxesTold" "[I"] ++ wsX60)
def wsX6_tax : List Cond := .code yX6_tax cX6_tax 4 (some .int) :: ([.classLink RX6 109 "java/lang/IndexOutOfBoundsException", .initialized "java/lang/IndexOutOfBoundsException", .classLink RX6 93 "java/lang/IllegalArgumentException", .initialized "java/lang/IllegalArgumentException", .fieldLink RX6 58 "Divisionorder" "taxesTold" "[I", .methodLink RX6 125 yX6_isMonth, .instanceMethod yX6_isMonth, .selects RX6 yX6_isMonth yX6_isMonth, .initialized RX6, .code yX6_isMonth cX6_isMonth 2 (some .boolean), .fieldLink RX6 9 "Divisionorder" "now" "I", .methodLink RX6 227 yX6_taxIn, .instanceMethod yX6_taxIn, .selects RX6 yX6_taxIn yX6_taxIn, .code yX6_taxIn cX6_taxIn 3 (some .int), .methodLink RX6 141 yX6_unsettle, .instanceMethod yX6_unsettle, .selects RX6 yX6_unsettle yX6_unsettle, .code yX6_unsettle cX6_unsettle 2 none, .fieldLink RX6 75 "Divisionorder" "settledMonths" "I", .methodLink RX6 297 Lib.Math.min.name, .static Lib.Math.min.name, .initialized "java/lang/Math", .code Lib.Math.min.name Lib.Math.min.code 2 (some .int)] ++ wsX60 ++ (vx_atS RX6 113 "java/lang/IndexOutOfBoundsException" ["java/lang/RuntimeException", "java/lang/Exception"]).filter goodWord ++ (vx_atS RX6 97 "java/lang/IllegalArgumentException" ["java/lang/RuntimeException", "java/lang/Exception"]).filter goodWord)
def wsX6_withBit : List Cond := .code yX6_withBit cX6_withBit 3 (some .int) :: ([])
def wsX6_consent_r1 : List Cond := [Cond.classLink RX6 109 "java/lang/IndexOutOfBoundsException", Cond.initialized "java/lang/IndexOutOfBoundsException", Cond.fieldLink RX6 233 "Divisionorder$Unit" "refusing" "[I", Cond.fieldLink RX6 9 "Divisionorder" "now" "I", Cond.methodLink RX6 183 yX6_unitAt, Cond.instanceMethod yX6_unitAt, Cond.selects RX6 yX6_unitAt yX6_unitAt, Cond.initialized RX6, Cond.code yX6_unitAt cX6_unitAt 2 (some (.object "Divisionorder$Unit")), Cond.fieldLink RX6 42 "Divisionorder" "units" "[LDivisionorder$Unit;", Cond.methodLink RX6 105 yX6_isOwner, Cond.static yX6_isOwner, Cond.code yX6_isOwner cX6_isOwner 1 (some .boolean), Cond.methodLink RX6 175 yX6_hasBit, Cond.static yX6_hasBit, Cond.code yX6_hasBit cX6_hasBit 2 (some .boolean), Cond.methodLink RX6 236 yX6_withBit, Cond.static yX6_withBit, Cond.code yX6_withBit cX6_withBit 3 (some .int), Cond.methodLink RX6 141 yX6_unsettle, Cond.instanceMethod yX6_unsettle, Cond.selects RX6 yX6_unsettle yX6_unsettle, Cond.code yX6_unsettle cX6_unsettle 2 none, Cond.fieldLink RX6 75 "Divisionorder" "settledMonths" "I"]
def wsX6_consent_r2 : List Cond := [Cond.methodLink RX6 297 Lib.Math.min.name, Cond.static Lib.Math.min.name, Cond.initialized "java/lang/Math", Cond.code Lib.Math.min.name Lib.Math.min.code 2 (some .int)]
def wsX6_consent : List Cond := .code yX6_consent cX6_consent 7 (some .boolean) :: ((wsX6_consent_r1 ++ wsX6_consent_r2) ++ wsX40 ++ wsX60 ++ (vx_atS RX6 113 "java/lang/IndexOutOfBoundsException" ["java/lang/RuntimeException", "java/lang/Exception"]).filter goodWord)
def wsX6_penalty : List Cond := .code yX6_penalty cX6_penalty 3 (some .int) :: ([.classLink RX6 93 "java/lang/IllegalArgumentException", .initialized "java/lang/IllegalArgumentException", .fieldLink RX6 62 "Divisionorder" "penaltyHundredths" "I", .methodLink RX6 141 yX6_unsettle, .instanceMethod yX6_unsettle, .selects RX6 yX6_unsettle yX6_unsettle, .initialized RX6, .code yX6_unsettle cX6_unsettle 2 none, .fieldLink RX6 75 "Divisionorder" "settledMonths" "I", .methodLink RX6 297 Lib.Math.min.name, .static Lib.Math.min.name, .initialized "java/lang/Math", .code Lib.Math.min.name Lib.Math.min.code 2 (some .int)] ++ wsX60 ++ (vx_atS RX6 97 "java/lang/IllegalArgumentException" ["java/lang/RuntimeException", "java/lang/Exception"]).filter goodWord)
def wsX6_unitIn : List Cond := .code yX6_unitIn cX6_unitIn 4 (some (.object "Divisionorder$Unit")) :: ([.fieldLink RX6 203 "Divisionorder$Unit" "firstMonth" "I", .fieldLink RX6 9 "Divisionorder" "now" "I", .methodLink RX6 183 yX6_unitAt, .instanceMethod yX6_unitAt, .selects RX6 yX6_unitAt yX6_unitAt, .initialized RX6, .code yX6_unitAt cX6_unitAt 2 (some (.object "Divisionorder$Unit")), .fieldLink RX6 42 "Divisionorder" "units" "[LDivisionorder$Unit;"] ++ wsX40 ++ wsX60)
def wsX6_readTitles : List Cond := .code yX6_readTitles cX6_readTitles 7 none :: ([.fieldLink RX6 78 "Divisionorder" "titles" "[I", .fieldLink RX6 279 "Divisionorder$Tract" "firstOwner" "I", .fieldLink RX6 24 "Divisionorder" "deeds" "[LDivisionorder$Deed;", .fieldLink RX6 282 "Divisionorder$Deed" "tract" "LDivisionorder$Tract;", .fieldLink RX6 286 "Divisionorder$Deed" "month" "I", .fieldLink RX6 294 "Divisionorder$Deed" "from" "I", .fieldLink RX6 292 "Divisionorder$Deed" "parts" "I", .fieldLink RX6 289 "Divisionorder$Deed" "to" "I"] ++ wsX60 ++ wsX30 ++ wsX00)
def wsX6_leaseThatCounts : List Cond := .code yX6_leaseThatCounts cX6_leaseThatCounts 8 (some (.object "Divisionorder$Lease")) :: ([.fieldLink RX6 33 "Divisionorder" "leases" "[LDivisionorder$Lease;", .fieldLink RX6 336 "Divisionorder$Lease" "tract" "LDivisionorder$Tract;", .fieldLink RX6 337 "Divisionorder$Lease" "lessor" "I", .methodLink RX6 164 yX1_isInForce, .instanceMethod yX1_isInForce, .selects RX1 yX1_isInForce yX1_isInForce, .initialized RX1, .code yX1_isInForce cX1_isInForce 4 (some .boolean), .fieldLink RX1 9 "Divisionorder$Lease" "firstMonth" "I", .fieldLink RX1 18 "Divisionorder$Lease" "tract" "LDivisionorder$Tract;", .fieldLink RX1 31 "Divisionorder$Tract" "unit" "LDivisionorder$Unit;", .fieldLink RX1 15 "Divisionorder$Lease" "lastOfTerm" "I", .fieldLink RX1 37 "Divisionorder$Unit" "barrels" "[I"] ++ wsX60 ++ wsX10 ++ wsX30 ++ wsX40)
def wsX6_layTract_r1 : List Cond := [Cond.fieldLink RX6 78 "Divisionorder" "titles" "[I", Cond.fieldLink RX6 318 "Divisionorder$Tract" "acres" "I", Cond.fieldLink RX6 86 "Divisionorder" "deck" "LDivisionorder$Parting;", Cond.fieldLink RX6 325 "Divisionorder$Parting" "weights" "[J", Cond.constantLong RX6 328 (1000), Cond.fieldLink RX6 330 "Divisionorder$Lease" "royalty" "I", Cond.fieldLink RX6 333 "Divisionorder$Lease" "lessee" "I", Cond.methodLink RX6 315 yX6_readTitles, Cond.instanceMethod yX6_readTitles, Cond.selects RX6 yX6_readTitles yX6_readTitles, Cond.initialized RX6, Cond.code yX6_readTitles cX6_readTitles 7 none, Cond.fieldLink RX6 279 "Divisionorder$Tract" "firstOwner" "I", Cond.fieldLink RX6 24 "Divisionorder" "deeds" "[LDivisionorder$Deed;", Cond.fieldLink RX6 282 "Divisionorder$Deed" "tract" "LDivisionorder$Tract;", Cond.fieldLink RX6 286 "Divisionorder$Deed" "month" "I", Cond.fieldLink RX6 294 "Divisionorder$Deed" "from" "I", Cond.fieldLink RX6 292 "Divisionorder$Deed" "parts" "I", Cond.fieldLink RX6 289 "Divisionorder$Deed" "to" "I", Cond.methodLink RX6 321 yX6_leaseThatCounts, Cond.instanceMethod yX6_leaseThatCounts, Cond.selects RX6 yX6_leaseThatCounts yX6_leaseThatCounts, Cond.code yX6_leaseThatCounts cX6_leaseThatCounts 8 (some (.object "Divisionorder$Lease")), Cond.fieldLink RX6 33 "Divisionorder" "leases" "[LDivisionorder$Lease;"]
def wsX6_layTract_r2 : List Cond := [Cond.fieldLink RX6 336 "Divisionorder$Lease" "tract" "LDivisionorder$Tract;", Cond.fieldLink RX6 337 "Divisionorder$Lease" "lessor" "I", Cond.methodLink RX6 164 yX1_isInForce, Cond.instanceMethod yX1_isInForce, Cond.selects RX1 yX1_isInForce yX1_isInForce, Cond.initialized RX1, Cond.code yX1_isInForce cX1_isInForce 4 (some .boolean), Cond.fieldLink RX1 9 "Divisionorder$Lease" "firstMonth" "I", Cond.fieldLink RX1 18 "Divisionorder$Lease" "tract" "LDivisionorder$Tract;", Cond.fieldLink RX1 31 "Divisionorder$Tract" "unit" "LDivisionorder$Unit;", Cond.fieldLink RX1 15 "Divisionorder$Lease" "lastOfTerm" "I", Cond.fieldLink RX1 37 "Divisionorder$Unit" "barrels" "[I"]
def wsX6_layTract : List Cond := .code yX6_layTract cX6_layTract 7 none :: ((wsX6_layTract_r1 ++ wsX6_layTract_r2) ++ wsX60 ++ wsX30 ++ wsX20 ++ wsX10 ++ wsX00 ++ wsX40)
def wsX6_layDeck_r1 : List Cond := [Cond.fieldLink RX6 86 "Divisionorder" "deck" "LDivisionorder$Parting;", Cond.fieldLink RX6 15 "Divisionorder" "tracts" "[LDivisionorder$Tract;", Cond.fieldLink RX6 179 "Divisionorder$Tract" "unit" "LDivisionorder$Unit;", Cond.methodLink RX6 308 yX2_clear, Cond.instanceMethod yX2_clear, Cond.selects RX2 yX2_clear yX2_clear, Cond.initialized RX2, Cond.code yX2_clear cX2_clear 2 none, Cond.fieldLink RX2 7 "Divisionorder$Parting" "weights" "[J", Cond.methodLink RX6 311 yX6_layTract, Cond.instanceMethod yX6_layTract, Cond.selects RX6 yX6_layTract yX6_layTract, Cond.initialized RX6, Cond.code yX6_layTract cX6_layTract 7 none, Cond.fieldLink RX6 78 "Divisionorder" "titles" "[I", Cond.fieldLink RX6 318 "Divisionorder$Tract" "acres" "I", Cond.fieldLink RX6 325 "Divisionorder$Parting" "weights" "[J", Cond.constantLong RX6 328 (1000), Cond.fieldLink RX6 330 "Divisionorder$Lease" "royalty" "I", Cond.fieldLink RX6 333 "Divisionorder$Lease" "lessee" "I", Cond.methodLink RX6 315 yX6_readTitles, Cond.instanceMethod yX6_readTitles, Cond.selects RX6 yX6_readTitles yX6_readTitles, Cond.code yX6_readTitles cX6_readTitles 7 none]
def wsX6_layDeck_r2 : List Cond := [Cond.fieldLink RX6 279 "Divisionorder$Tract" "firstOwner" "I", Cond.fieldLink RX6 24 "Divisionorder" "deeds" "[LDivisionorder$Deed;", Cond.fieldLink RX6 282 "Divisionorder$Deed" "tract" "LDivisionorder$Tract;", Cond.fieldLink RX6 286 "Divisionorder$Deed" "month" "I", Cond.fieldLink RX6 294 "Divisionorder$Deed" "from" "I", Cond.fieldLink RX6 292 "Divisionorder$Deed" "parts" "I", Cond.fieldLink RX6 289 "Divisionorder$Deed" "to" "I", Cond.methodLink RX6 321 yX6_leaseThatCounts, Cond.instanceMethod yX6_leaseThatCounts, Cond.selects RX6 yX6_leaseThatCounts yX6_leaseThatCounts, Cond.code yX6_leaseThatCounts cX6_leaseThatCounts 8 (some (.object "Divisionorder$Lease")), Cond.fieldLink RX6 33 "Divisionorder" "leases" "[LDivisionorder$Lease;", Cond.fieldLink RX6 336 "Divisionorder$Lease" "tract" "LDivisionorder$Tract;", Cond.fieldLink RX6 337 "Divisionorder$Lease" "lessor" "I", Cond.methodLink RX6 164 yX1_isInForce, Cond.instanceMethod yX1_isInForce, Cond.selects RX1 yX1_isInForce yX1_isInForce, Cond.initialized RX1, Cond.code yX1_isInForce cX1_isInForce 4 (some .boolean), Cond.fieldLink RX1 9 "Divisionorder$Lease" "firstMonth" "I", Cond.fieldLink RX1 18 "Divisionorder$Lease" "tract" "LDivisionorder$Tract;", Cond.fieldLink RX1 31 "Divisionorder$Tract" "unit" "LDivisionorder$Unit;", Cond.fieldLink RX1 15 "Divisionorder$Lease" "lastOfTerm" "I", Cond.fieldLink RX1 37 "Divisionorder$Unit" "barrels" "[I"]
def wsX6_layDeck : List Cond := .code yX6_layDeck cX6_layDeck 7 none :: ((wsX6_layDeck_r1 ++ wsX6_layDeck_r2) ++ wsX60 ++ wsX30 ++ wsX20 ++ wsX10 ++ wsX00 ++ wsX40)
def wsX6_interest_r1 : List Cond := [Cond.classLink RX6 109 "java/lang/IndexOutOfBoundsException", Cond.initialized "java/lang/IndexOutOfBoundsException", Cond.fieldLink RX6 86 "Divisionorder" "deck" "LDivisionorder$Parting;", Cond.constantLong RX6 250 (100000000), Cond.fieldLink RX6 256 "Divisionorder$Parting" "parts" "[J", Cond.methodLink RX6 240 yX6_unitIn, Cond.instanceMethod yX6_unitIn, Cond.selects RX6 yX6_unitIn yX6_unitIn, Cond.initialized RX6, Cond.code yX6_unitIn cX6_unitIn 4 (some (.object "Divisionorder$Unit")), Cond.fieldLink RX6 203 "Divisionorder$Unit" "firstMonth" "I", Cond.fieldLink RX6 9 "Divisionorder" "now" "I", Cond.methodLink RX6 183 yX6_unitAt, Cond.instanceMethod yX6_unitAt, Cond.selects RX6 yX6_unitAt yX6_unitAt, Cond.code yX6_unitAt cX6_unitAt 2 (some (.object "Divisionorder$Unit")), Cond.fieldLink RX6 42 "Divisionorder" "units" "[LDivisionorder$Unit;", Cond.methodLink RX6 105 yX6_isOwner, Cond.static yX6_isOwner, Cond.code yX6_isOwner cX6_isOwner 1 (some .boolean), Cond.methodLink RX6 246 yX6_layDeck, Cond.instanceMethod yX6_layDeck, Cond.selects RX6 yX6_layDeck yX6_layDeck, Cond.code yX6_layDeck cX6_layDeck 7 none]
def wsX6_interest_r2 : List Cond := [Cond.fieldLink RX6 15 "Divisionorder" "tracts" "[LDivisionorder$Tract;", Cond.fieldLink RX6 179 "Divisionorder$Tract" "unit" "LDivisionorder$Unit;", Cond.methodLink RX6 308 yX2_clear, Cond.instanceMethod yX2_clear, Cond.selects RX2 yX2_clear yX2_clear, Cond.initialized RX2, Cond.code yX2_clear cX2_clear 2 none, Cond.fieldLink RX2 7 "Divisionorder$Parting" "weights" "[J", Cond.methodLink RX6 311 yX6_layTract, Cond.instanceMethod yX6_layTract, Cond.selects RX6 yX6_layTract yX6_layTract, Cond.code yX6_layTract cX6_layTract 7 none, Cond.fieldLink RX6 78 "Divisionorder" "titles" "[I", Cond.fieldLink RX6 318 "Divisionorder$Tract" "acres" "I", Cond.fieldLink RX6 325 "Divisionorder$Parting" "weights" "[J", Cond.constantLong RX6 328 (1000), Cond.fieldLink RX6 330 "Divisionorder$Lease" "royalty" "I", Cond.fieldLink RX6 333 "Divisionorder$Lease" "lessee" "I", Cond.methodLink RX6 315 yX6_readTitles, Cond.instanceMethod yX6_readTitles, Cond.selects RX6 yX6_readTitles yX6_readTitles, Cond.code yX6_readTitles cX6_readTitles 7 none, Cond.fieldLink RX6 279 "Divisionorder$Tract" "firstOwner" "I", Cond.fieldLink RX6 24 "Divisionorder" "deeds" "[LDivisionorder$Deed;"]
def wsX6_interest_r3 : List Cond := [Cond.fieldLink RX6 282 "Divisionorder$Deed" "tract" "LDivisionorder$Tract;", Cond.fieldLink RX6 286 "Divisionorder$Deed" "month" "I", Cond.fieldLink RX6 294 "Divisionorder$Deed" "from" "I", Cond.fieldLink RX6 292 "Divisionorder$Deed" "parts" "I", Cond.fieldLink RX6 289 "Divisionorder$Deed" "to" "I", Cond.methodLink RX6 321 yX6_leaseThatCounts, Cond.instanceMethod yX6_leaseThatCounts, Cond.selects RX6 yX6_leaseThatCounts yX6_leaseThatCounts, Cond.code yX6_leaseThatCounts cX6_leaseThatCounts 8 (some (.object "Divisionorder$Lease")), Cond.fieldLink RX6 33 "Divisionorder" "leases" "[LDivisionorder$Lease;", Cond.fieldLink RX6 336 "Divisionorder$Lease" "tract" "LDivisionorder$Tract;", Cond.fieldLink RX6 337 "Divisionorder$Lease" "lessor" "I", Cond.methodLink RX6 164 yX1_isInForce, Cond.instanceMethod yX1_isInForce, Cond.selects RX1 yX1_isInForce yX1_isInForce, Cond.initialized RX1, Cond.code yX1_isInForce cX1_isInForce 4 (some .boolean), Cond.fieldLink RX1 9 "Divisionorder$Lease" "firstMonth" "I", Cond.fieldLink RX1 18 "Divisionorder$Lease" "tract" "LDivisionorder$Tract;", Cond.fieldLink RX1 31 "Divisionorder$Tract" "unit" "LDivisionorder$Unit;", Cond.fieldLink RX1 15 "Divisionorder$Lease" "lastOfTerm" "I", Cond.fieldLink RX1 37 "Divisionorder$Unit" "barrels" "[I", Cond.methodLink RX6 252 yX2_partOut, Cond.instanceMethod yX2_partOut]
def wsX6_interest_r4 : List Cond := [Cond.selects RX2 yX2_partOut yX2_partOut, Cond.code yX2_partOut cX2_partOut 10 none, Cond.fieldLink RX2 13 "Divisionorder$Parting" "parts" "[J", Cond.fieldLink RX2 16 "Divisionorder$Parting" "rests" "[J", Cond.methodLink RX2 19 yX2_giveOne, Cond.instanceMethod yX2_giveOne, Cond.selects RX2 yX2_giveOne yX2_giveOne, Cond.code yX2_giveOne cX2_giveOne 3 none, Cond.constantLong RX2 22 (-1)]
def wsX6_interest : List Cond := .code yX6_interest cX6_interest 6 (some .int) :: ((wsX6_interest_r1 ++ (wsX6_interest_r2 ++ (wsX6_interest_r3 ++ wsX6_interest_r4))) ++ wsX60 ++ wsX20 ++ wsX40 ++ wsX30 ++ wsX10 ++ wsX00 ++ (vx_atS RX6 113 "java/lang/IndexOutOfBoundsException" ["java/lang/RuntimeException", "java/lang/Exception"]).filter goodWord)
def wsX6_revenueOf : List Cond := .code yX6_revenueOf cX6_revenueOf 5 (some .long) :: ([.fieldLink RX6 303 "Divisionorder$Unit" "gross" "[I", .constantLong RX6 306 (100), .methodLink RX6 227 yX6_taxIn, .instanceMethod yX6_taxIn, .selects RX6 yX6_taxIn yX6_taxIn, .initialized RX6, .code yX6_taxIn cX6_taxIn 3 (some .int), .fieldLink RX6 58 "Divisionorder" "taxesTold" "[I"] ++ wsX40 ++ wsX60)
def wsX6_revenue_r1 : List Cond := [Cond.classLink RX6 109 "java/lang/IndexOutOfBoundsException", Cond.initialized "java/lang/IndexOutOfBoundsException", Cond.methodLink RX6 240 yX6_unitIn, Cond.instanceMethod yX6_unitIn, Cond.selects RX6 yX6_unitIn yX6_unitIn, Cond.initialized RX6, Cond.code yX6_unitIn cX6_unitIn 4 (some (.object "Divisionorder$Unit")), Cond.fieldLink RX6 203 "Divisionorder$Unit" "firstMonth" "I", Cond.fieldLink RX6 9 "Divisionorder" "now" "I", Cond.methodLink RX6 183 yX6_unitAt, Cond.instanceMethod yX6_unitAt, Cond.selects RX6 yX6_unitAt yX6_unitAt, Cond.code yX6_unitAt cX6_unitAt 2 (some (.object "Divisionorder$Unit")), Cond.fieldLink RX6 42 "Divisionorder" "units" "[LDivisionorder$Unit;", Cond.methodLink RX6 261 yX6_revenueOf, Cond.instanceMethod yX6_revenueOf, Cond.selects RX6 yX6_revenueOf yX6_revenueOf, Cond.code yX6_revenueOf cX6_revenueOf 5 (some .long), Cond.fieldLink RX6 303 "Divisionorder$Unit" "gross" "[I", Cond.constantLong RX6 306 (100), Cond.methodLink RX6 227 yX6_taxIn, Cond.instanceMethod yX6_taxIn, Cond.selects RX6 yX6_taxIn yX6_taxIn, Cond.code yX6_taxIn cX6_taxIn 3 (some .int)]
def wsX6_revenue_r2 : List Cond := [Cond.fieldLink RX6 58 "Divisionorder" "taxesTold" "[I"]
def wsX6_revenue : List Cond := .code yX6_revenue cX6_revenue 4 (some .int) :: ((wsX6_revenue_r1 ++ wsX6_revenue_r2) ++ wsX40 ++ wsX60 ++ (vx_atS RX6 113 "java/lang/IndexOutOfBoundsException" ["java/lang/RuntimeException", "java/lang/Exception"]).filter goodWord)
def wsX6_carriedOwners : List Cond := .code yX6_carriedOwners cX6_carriedOwners 7 (some .int) :: ([.fieldLink RX6 86 "Divisionorder" "deck" "LDivisionorder$Parting;", .fieldLink RX6 325 "Divisionorder$Parting" "weights" "[J", .fieldLink RX6 233 "Divisionorder$Unit" "refusing" "[I", .fieldLink RX6 271 "Divisionorder$Unit" "balances" "[J", .methodLink RX6 175 yX6_hasBit, .static yX6_hasBit, .initialized RX6, .code yX6_hasBit cX6_hasBit 2 (some .boolean), .methodLink RX6 236 yX6_withBit, .static yX6_withBit, .code yX6_withBit cX6_withBit 3 (some .int)] ++ wsX60 ++ wsX20 ++ wsX40)
def wsX6_partByWorking : List Cond := .code yX6_partByWorking cX6_partByWorking 5 none :: ([.fieldLink RX6 90 "Divisionorder" "sharers" "LDivisionorder$Parting;", .fieldLink RX6 325 "Divisionorder$Parting" "weights" "[J", .fieldLink RX6 86 "Divisionorder" "deck" "LDivisionorder$Parting;", .methodLink RX6 175 yX6_hasBit, .static yX6_hasBit, .initialized RX6, .code yX6_hasBit cX6_hasBit 2 (some .boolean), .methodLink RX6 252 yX2_partOut, .instanceMethod yX2_partOut, .selects RX2 yX2_partOut yX2_partOut, .initialized RX2, .code yX2_partOut cX2_partOut 10 none, .fieldLink RX2 7 "Divisionorder$Parting" "weights" "[J", .fieldLink RX2 13 "Divisionorder$Parting" "parts" "[J", .fieldLink RX2 16 "Divisionorder$Parting" "rests" "[J", .methodLink RX2 19 yX2_giveOne, .instanceMethod yX2_giveOne, .selects RX2 yX2_giveOne yX2_giveOne, .code yX2_giveOne cX2_giveOne 3 none, .constantLong RX2 22 (-1)] ++ wsX60 ++ wsX20)
def wsX6_bookCosts_r1 : List Cond := [Cond.fieldLink RX6 222 "Divisionorder$Unit" "costs" "[I", Cond.fieldLink RX6 271 "Divisionorder$Unit" "balances" "[J", Cond.fieldLink RX6 90 "Divisionorder" "sharers" "LDivisionorder$Parting;", Cond.fieldLink RX6 256 "Divisionorder$Parting" "parts" "[J", Cond.fieldLink RX6 62 "Divisionorder" "penaltyHundredths" "I", Cond.constantLong RX6 306 (100), Cond.fieldLink RX6 268 "Divisionorder$Unit" "dues" "[J", Cond.methodLink RX6 357 yX6_partByWorking, Cond.instanceMethod yX6_partByWorking, Cond.selects RX6 yX6_partByWorking yX6_partByWorking, Cond.initialized RX6, Cond.code yX6_partByWorking cX6_partByWorking 5 none, Cond.fieldLink RX6 325 "Divisionorder$Parting" "weights" "[J", Cond.fieldLink RX6 86 "Divisionorder" "deck" "LDivisionorder$Parting;", Cond.methodLink RX6 175 yX6_hasBit, Cond.static yX6_hasBit, Cond.code yX6_hasBit cX6_hasBit 2 (some .boolean), Cond.methodLink RX6 252 yX2_partOut, Cond.instanceMethod yX2_partOut, Cond.selects RX2 yX2_partOut yX2_partOut, Cond.initialized RX2, Cond.code yX2_partOut cX2_partOut 10 none, Cond.fieldLink RX2 7 "Divisionorder$Parting" "weights" "[J", Cond.fieldLink RX2 13 "Divisionorder$Parting" "parts" "[J"]
def wsX6_bookCosts_r2 : List Cond := [Cond.fieldLink RX2 16 "Divisionorder$Parting" "rests" "[J", Cond.methodLink RX2 19 yX2_giveOne, Cond.instanceMethod yX2_giveOne, Cond.selects RX2 yX2_giveOne yX2_giveOne, Cond.code yX2_giveOne cX2_giveOne 3 none, Cond.constantLong RX2 22 (-1)]
def wsX6_bookCosts : List Cond := .code yX6_bookCosts cX6_bookCosts 6 none :: ((wsX6_bookCosts_r1 ++ wsX6_bookCosts_r2) ++ wsX40 ++ wsX60 ++ wsX20)
def wsX6_bookRevenue_r1 : List Cond := [Cond.fieldLink RX6 86 "Divisionorder" "deck" "LDivisionorder$Parting;", Cond.fieldLink RX6 256 "Divisionorder$Parting" "parts" "[J", Cond.fieldLink RX6 271 "Divisionorder$Unit" "balances" "[J", Cond.methodLink RX6 361 Lib.MathLoose.min_long.x, Cond.static Lib.MathLoose.min_long.x, Cond.initialized "java/lang/Math", Cond.code Lib.MathLoose.min_long.x Lib.MathLoose.min_long.code 4 (some .long), Cond.fieldLink RX6 268 "Divisionorder$Unit" "dues" "[J", Cond.fieldLink RX6 90 "Divisionorder" "sharers" "LDivisionorder$Parting;", Cond.methodLink RX6 261 yX6_revenueOf, Cond.instanceMethod yX6_revenueOf, Cond.selects RX6 yX6_revenueOf yX6_revenueOf, Cond.initialized RX6, Cond.code yX6_revenueOf cX6_revenueOf 5 (some .long), Cond.fieldLink RX6 303 "Divisionorder$Unit" "gross" "[I", Cond.constantLong RX6 306 (100), Cond.methodLink RX6 227 yX6_taxIn, Cond.instanceMethod yX6_taxIn, Cond.selects RX6 yX6_taxIn yX6_taxIn, Cond.code yX6_taxIn cX6_taxIn 3 (some .int), Cond.fieldLink RX6 58 "Divisionorder" "taxesTold" "[I", Cond.methodLink RX6 252 yX2_partOut, Cond.instanceMethod yX2_partOut, Cond.selects RX2 yX2_partOut yX2_partOut]
def wsX6_bookRevenue_r2 : List Cond := [Cond.initialized RX2, Cond.code yX2_partOut cX2_partOut 10 none, Cond.fieldLink RX2 7 "Divisionorder$Parting" "weights" "[J", Cond.fieldLink RX2 13 "Divisionorder$Parting" "parts" "[J", Cond.fieldLink RX2 16 "Divisionorder$Parting" "rests" "[J", Cond.methodLink RX2 19 yX2_giveOne, Cond.instanceMethod yX2_giveOne, Cond.selects RX2 yX2_giveOne yX2_giveOne, Cond.code yX2_giveOne cX2_giveOne 3 none, Cond.constantLong RX2 22 (-1), Cond.methodLink RX6 175 yX6_hasBit, Cond.static yX6_hasBit, Cond.code yX6_hasBit cX6_hasBit 2 (some .boolean), Cond.methodLink RX6 357 yX6_partByWorking, Cond.instanceMethod yX6_partByWorking, Cond.selects RX6 yX6_partByWorking yX6_partByWorking, Cond.code yX6_partByWorking cX6_partByWorking 5 none, Cond.fieldLink RX6 325 "Divisionorder$Parting" "weights" "[J"]
def wsX6_bookRevenue : List Cond := .code yX6_bookRevenue cX6_bookRevenue 12 none :: ((wsX6_bookRevenue_r1 ++ wsX6_bookRevenue_r2) ++ wsX60 ++ wsX20 ++ wsX40)
def wsX6_settleMonth_r1 : List Cond := [Cond.fieldLink RX6 303 "Divisionorder$Unit" "gross" "[I", Cond.fieldLink RX6 222 "Divisionorder$Unit" "costs" "[I", Cond.methodLink RX6 343 yX4_openMonth, Cond.instanceMethod yX4_openMonth, Cond.selects RX4 yX4_openMonth yX4_openMonth, Cond.initialized RX4, Cond.code yX4_openMonth cX4_openMonth 5 none, Cond.fieldLink RX4 24 "Divisionorder$Unit" "dues" "[J", Cond.fieldLink RX4 28 "Divisionorder$Unit" "balances" "[J", Cond.fieldLink RX4 31 "Divisionorder$Unit" "firstMonth" "I", Cond.methodLink RX6 246 yX6_layDeck, Cond.instanceMethod yX6_layDeck, Cond.selects RX6 yX6_layDeck yX6_layDeck, Cond.initialized RX6, Cond.code yX6_layDeck cX6_layDeck 7 none, Cond.fieldLink RX6 86 "Divisionorder" "deck" "LDivisionorder$Parting;", Cond.fieldLink RX6 15 "Divisionorder" "tracts" "[LDivisionorder$Tract;", Cond.fieldLink RX6 179 "Divisionorder$Tract" "unit" "LDivisionorder$Unit;", Cond.methodLink RX6 308 yX2_clear, Cond.instanceMethod yX2_clear, Cond.selects RX2 yX2_clear yX2_clear, Cond.initialized RX2, Cond.code yX2_clear cX2_clear 2 none, Cond.fieldLink RX2 7 "Divisionorder$Parting" "weights" "[J"]
def wsX6_settleMonth_r2 : List Cond := [Cond.methodLink RX6 311 yX6_layTract, Cond.instanceMethod yX6_layTract, Cond.selects RX6 yX6_layTract yX6_layTract, Cond.code yX6_layTract cX6_layTract 7 none, Cond.fieldLink RX6 78 "Divisionorder" "titles" "[I", Cond.fieldLink RX6 318 "Divisionorder$Tract" "acres" "I", Cond.fieldLink RX6 325 "Divisionorder$Parting" "weights" "[J", Cond.constantLong RX6 328 (1000), Cond.fieldLink RX6 330 "Divisionorder$Lease" "royalty" "I", Cond.fieldLink RX6 333 "Divisionorder$Lease" "lessee" "I", Cond.methodLink RX6 315 yX6_readTitles, Cond.instanceMethod yX6_readTitles, Cond.selects RX6 yX6_readTitles yX6_readTitles, Cond.code yX6_readTitles cX6_readTitles 7 none, Cond.fieldLink RX6 279 "Divisionorder$Tract" "firstOwner" "I", Cond.fieldLink RX6 24 "Divisionorder" "deeds" "[LDivisionorder$Deed;", Cond.fieldLink RX6 282 "Divisionorder$Deed" "tract" "LDivisionorder$Tract;", Cond.fieldLink RX6 286 "Divisionorder$Deed" "month" "I", Cond.fieldLink RX6 294 "Divisionorder$Deed" "from" "I", Cond.fieldLink RX6 292 "Divisionorder$Deed" "parts" "I", Cond.fieldLink RX6 289 "Divisionorder$Deed" "to" "I", Cond.methodLink RX6 321 yX6_leaseThatCounts, Cond.instanceMethod yX6_leaseThatCounts, Cond.selects RX6 yX6_leaseThatCounts yX6_leaseThatCounts]
def wsX6_settleMonth_r3 : List Cond := [Cond.code yX6_leaseThatCounts cX6_leaseThatCounts 8 (some (.object "Divisionorder$Lease")), Cond.fieldLink RX6 33 "Divisionorder" "leases" "[LDivisionorder$Lease;", Cond.fieldLink RX6 336 "Divisionorder$Lease" "tract" "LDivisionorder$Tract;", Cond.fieldLink RX6 337 "Divisionorder$Lease" "lessor" "I", Cond.methodLink RX6 164 yX1_isInForce, Cond.instanceMethod yX1_isInForce, Cond.selects RX1 yX1_isInForce yX1_isInForce, Cond.initialized RX1, Cond.code yX1_isInForce cX1_isInForce 4 (some .boolean), Cond.fieldLink RX1 9 "Divisionorder$Lease" "firstMonth" "I", Cond.fieldLink RX1 18 "Divisionorder$Lease" "tract" "LDivisionorder$Tract;", Cond.fieldLink RX1 31 "Divisionorder$Tract" "unit" "LDivisionorder$Unit;", Cond.fieldLink RX1 15 "Divisionorder$Lease" "lastOfTerm" "I", Cond.fieldLink RX1 37 "Divisionorder$Unit" "barrels" "[I", Cond.methodLink RX6 346 yX6_carriedOwners, Cond.instanceMethod yX6_carriedOwners, Cond.selects RX6 yX6_carriedOwners yX6_carriedOwners, Cond.code yX6_carriedOwners cX6_carriedOwners 7 (some .int), Cond.fieldLink RX6 233 "Divisionorder$Unit" "refusing" "[I", Cond.fieldLink RX6 271 "Divisionorder$Unit" "balances" "[J", Cond.methodLink RX6 175 yX6_hasBit, Cond.static yX6_hasBit, Cond.code yX6_hasBit cX6_hasBit 2 (some .boolean), Cond.methodLink RX6 236 yX6_withBit]
def wsX6_settleMonth_r4 : List Cond := [Cond.static yX6_withBit, Cond.code yX6_withBit cX6_withBit 3 (some .int), Cond.methodLink RX6 350 yX6_bookCosts, Cond.instanceMethod yX6_bookCosts, Cond.selects RX6 yX6_bookCosts yX6_bookCosts, Cond.code yX6_bookCosts cX6_bookCosts 6 none, Cond.fieldLink RX6 90 "Divisionorder" "sharers" "LDivisionorder$Parting;", Cond.fieldLink RX6 256 "Divisionorder$Parting" "parts" "[J", Cond.fieldLink RX6 62 "Divisionorder" "penaltyHundredths" "I", Cond.constantLong RX6 306 (100), Cond.fieldLink RX6 268 "Divisionorder$Unit" "dues" "[J", Cond.methodLink RX6 357 yX6_partByWorking, Cond.instanceMethod yX6_partByWorking, Cond.selects RX6 yX6_partByWorking yX6_partByWorking, Cond.code yX6_partByWorking cX6_partByWorking 5 none, Cond.methodLink RX6 252 yX2_partOut, Cond.instanceMethod yX2_partOut, Cond.selects RX2 yX2_partOut yX2_partOut, Cond.code yX2_partOut cX2_partOut 10 none, Cond.fieldLink RX2 13 "Divisionorder$Parting" "parts" "[J", Cond.fieldLink RX2 16 "Divisionorder$Parting" "rests" "[J", Cond.methodLink RX2 19 yX2_giveOne, Cond.instanceMethod yX2_giveOne, Cond.selects RX2 yX2_giveOne yX2_giveOne]
def wsX6_settleMonth_r5 : List Cond := [Cond.code yX2_giveOne cX2_giveOne 3 none, Cond.constantLong RX2 22 (-1), Cond.methodLink RX6 354 yX6_bookRevenue, Cond.instanceMethod yX6_bookRevenue, Cond.selects RX6 yX6_bookRevenue yX6_bookRevenue, Cond.code yX6_bookRevenue cX6_bookRevenue 12 none, Cond.methodLink RX6 361 Lib.MathLoose.min_long.x, Cond.static Lib.MathLoose.min_long.x, Cond.initialized "java/lang/Math", Cond.code Lib.MathLoose.min_long.x Lib.MathLoose.min_long.code 4 (some .long), Cond.methodLink RX6 261 yX6_revenueOf, Cond.instanceMethod yX6_revenueOf, Cond.selects RX6 yX6_revenueOf yX6_revenueOf, Cond.code yX6_revenueOf cX6_revenueOf 5 (some .long), Cond.methodLink RX6 227 yX6_taxIn, Cond.instanceMethod yX6_taxIn, Cond.selects RX6 yX6_taxIn yX6_taxIn, Cond.code yX6_taxIn cX6_taxIn 3 (some .int), Cond.fieldLink RX6 58 "Divisionorder" "taxesTold" "[I"]
def wsX6_settleMonth : List Cond := .code yX6_settleMonth cX6_settleMonth 4 none :: ((wsX6_settleMonth_r1 ++ (wsX6_settleMonth_r2 ++ (wsX6_settleMonth_r3 ++ (wsX6_settleMonth_r4 ++ wsX6_settleMonth_r5)))) ++ wsX40 ++ wsX60 ++ wsX30 ++ wsX20 ++ wsX10 ++ wsX00)
def wsX6_settle_r1 : List Cond := [Cond.fieldLink RX6 75 "Divisionorder" "settledMonths" "I", Cond.fieldLink RX6 9 "Divisionorder" "now" "I", Cond.fieldLink RX6 42 "Divisionorder" "units" "[LDivisionorder$Unit;", Cond.fieldLink RX6 203 "Divisionorder$Unit" "firstMonth" "I", Cond.methodLink RX6 340 yX6_settleMonth, Cond.instanceMethod yX6_settleMonth, Cond.selects RX6 yX6_settleMonth yX6_settleMonth, Cond.initialized RX6, Cond.code yX6_settleMonth cX6_settleMonth 4 none, Cond.fieldLink RX6 303 "Divisionorder$Unit" "gross" "[I", Cond.fieldLink RX6 222 "Divisionorder$Unit" "costs" "[I", Cond.methodLink RX6 343 yX4_openMonth, Cond.instanceMethod yX4_openMonth, Cond.selects RX4 yX4_openMonth yX4_openMonth, Cond.initialized RX4, Cond.code yX4_openMonth cX4_openMonth 5 none, Cond.fieldLink RX4 24 "Divisionorder$Unit" "dues" "[J", Cond.fieldLink RX4 28 "Divisionorder$Unit" "balances" "[J", Cond.fieldLink RX4 31 "Divisionorder$Unit" "firstMonth" "I", Cond.methodLink RX6 246 yX6_layDeck, Cond.instanceMethod yX6_layDeck, Cond.selects RX6 yX6_layDeck yX6_layDeck, Cond.code yX6_layDeck cX6_layDeck 7 none, Cond.fieldLink RX6 86 "Divisionorder" "deck" "LDivisionorder$Parting;"]
def wsX6_settle_r2 : List Cond := [Cond.fieldLink RX6 15 "Divisionorder" "tracts" "[LDivisionorder$Tract;", Cond.fieldLink RX6 179 "Divisionorder$Tract" "unit" "LDivisionorder$Unit;", Cond.methodLink RX6 308 yX2_clear, Cond.instanceMethod yX2_clear, Cond.selects RX2 yX2_clear yX2_clear, Cond.initialized RX2, Cond.code yX2_clear cX2_clear 2 none, Cond.fieldLink RX2 7 "Divisionorder$Parting" "weights" "[J", Cond.methodLink RX6 311 yX6_layTract, Cond.instanceMethod yX6_layTract, Cond.selects RX6 yX6_layTract yX6_layTract, Cond.code yX6_layTract cX6_layTract 7 none, Cond.fieldLink RX6 78 "Divisionorder" "titles" "[I", Cond.fieldLink RX6 318 "Divisionorder$Tract" "acres" "I", Cond.fieldLink RX6 325 "Divisionorder$Parting" "weights" "[J", Cond.constantLong RX6 328 (1000), Cond.fieldLink RX6 330 "Divisionorder$Lease" "royalty" "I", Cond.fieldLink RX6 333 "Divisionorder$Lease" "lessee" "I", Cond.methodLink RX6 315 yX6_readTitles, Cond.instanceMethod yX6_readTitles, Cond.selects RX6 yX6_readTitles yX6_readTitles, Cond.code yX6_readTitles cX6_readTitles 7 none, Cond.fieldLink RX6 279 "Divisionorder$Tract" "firstOwner" "I", Cond.fieldLink RX6 24 "Divisionorder" "deeds" "[LDivisionorder$Deed;"]
def wsX6_settle_r3 : List Cond := [Cond.fieldLink RX6 282 "Divisionorder$Deed" "tract" "LDivisionorder$Tract;", Cond.fieldLink RX6 286 "Divisionorder$Deed" "month" "I", Cond.fieldLink RX6 294 "Divisionorder$Deed" "from" "I", Cond.fieldLink RX6 292 "Divisionorder$Deed" "parts" "I", Cond.fieldLink RX6 289 "Divisionorder$Deed" "to" "I", Cond.methodLink RX6 321 yX6_leaseThatCounts, Cond.instanceMethod yX6_leaseThatCounts, Cond.selects RX6 yX6_leaseThatCounts yX6_leaseThatCounts, Cond.code yX6_leaseThatCounts cX6_leaseThatCounts 8 (some (.object "Divisionorder$Lease")), Cond.fieldLink RX6 33 "Divisionorder" "leases" "[LDivisionorder$Lease;", Cond.fieldLink RX6 336 "Divisionorder$Lease" "tract" "LDivisionorder$Tract;", Cond.fieldLink RX6 337 "Divisionorder$Lease" "lessor" "I", Cond.methodLink RX6 164 yX1_isInForce, Cond.instanceMethod yX1_isInForce, Cond.selects RX1 yX1_isInForce yX1_isInForce, Cond.initialized RX1, Cond.code yX1_isInForce cX1_isInForce 4 (some .boolean), Cond.fieldLink RX1 9 "Divisionorder$Lease" "firstMonth" "I", Cond.fieldLink RX1 18 "Divisionorder$Lease" "tract" "LDivisionorder$Tract;", Cond.fieldLink RX1 31 "Divisionorder$Tract" "unit" "LDivisionorder$Unit;", Cond.fieldLink RX1 15 "Divisionorder$Lease" "lastOfTerm" "I", Cond.fieldLink RX1 37 "Divisionorder$Unit" "barrels" "[I", Cond.methodLink RX6 346 yX6_carriedOwners, Cond.instanceMethod yX6_carriedOwners]
def wsX6_settle_r4 : List Cond := [Cond.selects RX6 yX6_carriedOwners yX6_carriedOwners, Cond.code yX6_carriedOwners cX6_carriedOwners 7 (some .int), Cond.fieldLink RX6 233 "Divisionorder$Unit" "refusing" "[I", Cond.fieldLink RX6 271 "Divisionorder$Unit" "balances" "[J", Cond.methodLink RX6 175 yX6_hasBit, Cond.static yX6_hasBit, Cond.code yX6_hasBit cX6_hasBit 2 (some .boolean), Cond.methodLink RX6 236 yX6_withBit, Cond.static yX6_withBit, Cond.code yX6_withBit cX6_withBit 3 (some .int), Cond.methodLink RX6 350 yX6_bookCosts, Cond.instanceMethod yX6_bookCosts, Cond.selects RX6 yX6_bookCosts yX6_bookCosts, Cond.code yX6_bookCosts cX6_bookCosts 6 none, Cond.fieldLink RX6 90 "Divisionorder" "sharers" "LDivisionorder$Parting;", Cond.fieldLink RX6 256 "Divisionorder$Parting" "parts" "[J", Cond.fieldLink RX6 62 "Divisionorder" "penaltyHundredths" "I", Cond.constantLong RX6 306 (100), Cond.fieldLink RX6 268 "Divisionorder$Unit" "dues" "[J", Cond.methodLink RX6 357 yX6_partByWorking, Cond.instanceMethod yX6_partByWorking, Cond.selects RX6 yX6_partByWorking yX6_partByWorking, Cond.code yX6_partByWorking cX6_partByWorking 5 none, Cond.methodLink RX6 252 yX2_partOut]
def wsX6_settle_r5 : List Cond := [Cond.instanceMethod yX2_partOut, Cond.selects RX2 yX2_partOut yX2_partOut, Cond.code yX2_partOut cX2_partOut 10 none, Cond.fieldLink RX2 13 "Divisionorder$Parting" "parts" "[J", Cond.fieldLink RX2 16 "Divisionorder$Parting" "rests" "[J", Cond.methodLink RX2 19 yX2_giveOne, Cond.instanceMethod yX2_giveOne, Cond.selects RX2 yX2_giveOne yX2_giveOne, Cond.code yX2_giveOne cX2_giveOne 3 none, Cond.constantLong RX2 22 (-1), Cond.methodLink RX6 354 yX6_bookRevenue, Cond.instanceMethod yX6_bookRevenue, Cond.selects RX6 yX6_bookRevenue yX6_bookRevenue, Cond.code yX6_bookRevenue cX6_bookRevenue 12 none, Cond.methodLink RX6 361 Lib.MathLoose.min_long.x, Cond.static Lib.MathLoose.min_long.x, Cond.initialized "java/lang/Math", Cond.code Lib.MathLoose.min_long.x Lib.MathLoose.min_long.code 4 (some .long), Cond.methodLink RX6 261 yX6_revenueOf, Cond.instanceMethod yX6_revenueOf, Cond.selects RX6 yX6_revenueOf yX6_revenueOf, Cond.code yX6_revenueOf cX6_revenueOf 5 (some .long), Cond.methodLink RX6 227 yX6_taxIn, Cond.instanceMethod yX6_taxIn]
def wsX6_settle_r6 : List Cond := [Cond.selects RX6 yX6_taxIn yX6_taxIn, Cond.code yX6_taxIn cX6_taxIn 3 (some .int), Cond.fieldLink RX6 58 "Divisionorder" "taxesTold" "[I"]
def wsX6_settle : List Cond := .code yX6_settle cX6_settle 6 none :: ((wsX6_settle_r1 ++ (wsX6_settle_r2 ++ (wsX6_settle_r3 ++ (wsX6_settle_r4 ++ (wsX6_settle_r5 ++ wsX6_settle_r6))))) ++ wsX60 ++ wsX40 ++ wsX30 ++ wsX20 ++ wsX10 ++ wsX00)
def wsX6_due_r1 : List Cond := [Cond.classLink RX6 109 "java/lang/IndexOutOfBoundsException", Cond.initialized "java/lang/IndexOutOfBoundsException", Cond.fieldLink RX6 268 "Divisionorder$Unit" "dues" "[J", Cond.methodLink RX6 240 yX6_unitIn, Cond.instanceMethod yX6_unitIn, Cond.selects RX6 yX6_unitIn yX6_unitIn, Cond.initialized RX6, Cond.code yX6_unitIn cX6_unitIn 4 (some (.object "Divisionorder$Unit")), Cond.fieldLink RX6 203 "Divisionorder$Unit" "firstMonth" "I", Cond.fieldLink RX6 9 "Divisionorder" "now" "I", Cond.methodLink RX6 183 yX6_unitAt, Cond.instanceMethod yX6_unitAt, Cond.selects RX6 yX6_unitAt yX6_unitAt, Cond.code yX6_unitAt cX6_unitAt 2 (some (.object "Divisionorder$Unit")), Cond.fieldLink RX6 42 "Divisionorder" "units" "[LDivisionorder$Unit;", Cond.methodLink RX6 105 yX6_isOwner, Cond.static yX6_isOwner, Cond.code yX6_isOwner cX6_isOwner 1 (some .boolean), Cond.methodLink RX6 265 yX6_settle, Cond.instanceMethod yX6_settle, Cond.selects RX6 yX6_settle yX6_settle, Cond.code yX6_settle cX6_settle 6 none, Cond.fieldLink RX6 75 "Divisionorder" "settledMonths" "I", Cond.methodLink RX6 340 yX6_settleMonth]
def wsX6_due_r2 : List Cond := [Cond.instanceMethod yX6_settleMonth, Cond.selects RX6 yX6_settleMonth yX6_settleMonth, Cond.code yX6_settleMonth cX6_settleMonth 4 none, Cond.fieldLink RX6 303 "Divisionorder$Unit" "gross" "[I", Cond.fieldLink RX6 222 "Divisionorder$Unit" "costs" "[I", Cond.methodLink RX6 343 yX4_openMonth, Cond.instanceMethod yX4_openMonth, Cond.selects RX4 yX4_openMonth yX4_openMonth, Cond.initialized RX4, Cond.code yX4_openMonth cX4_openMonth 5 none, Cond.fieldLink RX4 24 "Divisionorder$Unit" "dues" "[J", Cond.fieldLink RX4 28 "Divisionorder$Unit" "balances" "[J", Cond.fieldLink RX4 31 "Divisionorder$Unit" "firstMonth" "I", Cond.methodLink RX6 246 yX6_layDeck, Cond.instanceMethod yX6_layDeck, Cond.selects RX6 yX6_layDeck yX6_layDeck, Cond.code yX6_layDeck cX6_layDeck 7 none, Cond.fieldLink RX6 86 "Divisionorder" "deck" "LDivisionorder$Parting;", Cond.fieldLink RX6 15 "Divisionorder" "tracts" "[LDivisionorder$Tract;", Cond.fieldLink RX6 179 "Divisionorder$Tract" "unit" "LDivisionorder$Unit;", Cond.methodLink RX6 308 yX2_clear, Cond.instanceMethod yX2_clear, Cond.selects RX2 yX2_clear yX2_clear, Cond.initialized RX2]
def wsX6_due_r3 : List Cond := [Cond.code yX2_clear cX2_clear 2 none, Cond.fieldLink RX2 7 "Divisionorder$Parting" "weights" "[J", Cond.methodLink RX6 311 yX6_layTract, Cond.instanceMethod yX6_layTract, Cond.selects RX6 yX6_layTract yX6_layTract, Cond.code yX6_layTract cX6_layTract 7 none, Cond.fieldLink RX6 78 "Divisionorder" "titles" "[I", Cond.fieldLink RX6 318 "Divisionorder$Tract" "acres" "I", Cond.fieldLink RX6 325 "Divisionorder$Parting" "weights" "[J", Cond.constantLong RX6 328 (1000), Cond.fieldLink RX6 330 "Divisionorder$Lease" "royalty" "I", Cond.fieldLink RX6 333 "Divisionorder$Lease" "lessee" "I", Cond.methodLink RX6 315 yX6_readTitles, Cond.instanceMethod yX6_readTitles, Cond.selects RX6 yX6_readTitles yX6_readTitles, Cond.code yX6_readTitles cX6_readTitles 7 none, Cond.fieldLink RX6 279 "Divisionorder$Tract" "firstOwner" "I", Cond.fieldLink RX6 24 "Divisionorder" "deeds" "[LDivisionorder$Deed;", Cond.fieldLink RX6 282 "Divisionorder$Deed" "tract" "LDivisionorder$Tract;", Cond.fieldLink RX6 286 "Divisionorder$Deed" "month" "I", Cond.fieldLink RX6 294 "Divisionorder$Deed" "from" "I", Cond.fieldLink RX6 292 "Divisionorder$Deed" "parts" "I", Cond.fieldLink RX6 289 "Divisionorder$Deed" "to" "I", Cond.methodLink RX6 321 yX6_leaseThatCounts]
def wsX6_due_r4 : List Cond := [Cond.instanceMethod yX6_leaseThatCounts, Cond.selects RX6 yX6_leaseThatCounts yX6_leaseThatCounts, Cond.code yX6_leaseThatCounts cX6_leaseThatCounts 8 (some (.object "Divisionorder$Lease")), Cond.fieldLink RX6 33 "Divisionorder" "leases" "[LDivisionorder$Lease;", Cond.fieldLink RX6 336 "Divisionorder$Lease" "tract" "LDivisionorder$Tract;", Cond.fieldLink RX6 337 "Divisionorder$Lease" "lessor" "I", Cond.methodLink RX6 164 yX1_isInForce, Cond.instanceMethod yX1_isInForce, Cond.selects RX1 yX1_isInForce yX1_isInForce, Cond.initialized RX1, Cond.code yX1_isInForce cX1_isInForce 4 (some .boolean), Cond.fieldLink RX1 9 "Divisionorder$Lease" "firstMonth" "I", Cond.fieldLink RX1 18 "Divisionorder$Lease" "tract" "LDivisionorder$Tract;", Cond.fieldLink RX1 31 "Divisionorder$Tract" "unit" "LDivisionorder$Unit;", Cond.fieldLink RX1 15 "Divisionorder$Lease" "lastOfTerm" "I", Cond.fieldLink RX1 37 "Divisionorder$Unit" "barrels" "[I", Cond.methodLink RX6 346 yX6_carriedOwners, Cond.instanceMethod yX6_carriedOwners, Cond.selects RX6 yX6_carriedOwners yX6_carriedOwners, Cond.code yX6_carriedOwners cX6_carriedOwners 7 (some .int), Cond.fieldLink RX6 233 "Divisionorder$Unit" "refusing" "[I", Cond.fieldLink RX6 271 "Divisionorder$Unit" "balances" "[J", Cond.methodLink RX6 175 yX6_hasBit, Cond.static yX6_hasBit]
def wsX6_due_r5 : List Cond := [Cond.code yX6_hasBit cX6_hasBit 2 (some .boolean), Cond.methodLink RX6 236 yX6_withBit, Cond.static yX6_withBit, Cond.code yX6_withBit cX6_withBit 3 (some .int), Cond.methodLink RX6 350 yX6_bookCosts, Cond.instanceMethod yX6_bookCosts, Cond.selects RX6 yX6_bookCosts yX6_bookCosts, Cond.code yX6_bookCosts cX6_bookCosts 6 none, Cond.fieldLink RX6 90 "Divisionorder" "sharers" "LDivisionorder$Parting;", Cond.fieldLink RX6 256 "Divisionorder$Parting" "parts" "[J", Cond.fieldLink RX6 62 "Divisionorder" "penaltyHundredths" "I", Cond.constantLong RX6 306 (100), Cond.methodLink RX6 357 yX6_partByWorking, Cond.instanceMethod yX6_partByWorking, Cond.selects RX6 yX6_partByWorking yX6_partByWorking, Cond.code yX6_partByWorking cX6_partByWorking 5 none, Cond.methodLink RX6 252 yX2_partOut, Cond.instanceMethod yX2_partOut, Cond.selects RX2 yX2_partOut yX2_partOut, Cond.code yX2_partOut cX2_partOut 10 none, Cond.fieldLink RX2 13 "Divisionorder$Parting" "parts" "[J", Cond.fieldLink RX2 16 "Divisionorder$Parting" "rests" "[J", Cond.methodLink RX2 19 yX2_giveOne, Cond.instanceMethod yX2_giveOne]
def wsX6_due_r6 : List Cond := [Cond.selects RX2 yX2_giveOne yX2_giveOne, Cond.code yX2_giveOne cX2_giveOne 3 none, Cond.constantLong RX2 22 (-1), Cond.methodLink RX6 354 yX6_bookRevenue, Cond.instanceMethod yX6_bookRevenue, Cond.selects RX6 yX6_bookRevenue yX6_bookRevenue, Cond.code yX6_bookRevenue cX6_bookRevenue 12 none, Cond.methodLink RX6 361 Lib.MathLoose.min_long.x, Cond.static Lib.MathLoose.min_long.x, Cond.initialized "java/lang/Math", Cond.code Lib.MathLoose.min_long.x Lib.MathLoose.min_long.code 4 (some .long), Cond.methodLink RX6 261 yX6_revenueOf, Cond.instanceMethod yX6_revenueOf, Cond.selects RX6 yX6_revenueOf yX6_revenueOf, Cond.code yX6_revenueOf cX6_revenueOf 5 (some .long), Cond.methodLink RX6 227 yX6_taxIn, Cond.instanceMethod yX6_taxIn, Cond.selects RX6 yX6_taxIn yX6_taxIn, Cond.code yX6_taxIn cX6_taxIn 3 (some .int), Cond.fieldLink RX6 58 "Divisionorder" "taxesTold" "[I"]
def wsX6_due : List Cond := .code yX6_due cX6_due 5 (some .int) :: ((wsX6_due_r1 ++ (wsX6_due_r2 ++ (wsX6_due_r3 ++ (wsX6_due_r4 ++ (wsX6_due_r5 ++ wsX6_due_r6))))) ++ wsX40 ++ wsX60 ++ wsX30 ++ wsX20 ++ wsX10 ++ wsX00 ++ (vx_atS RX6 113 "java/lang/IndexOutOfBoundsException" ["java/lang/RuntimeException", "java/lang/Exception"]).filter goodWord)
def wsX6_balance_r1 : List Cond := [Cond.classLink RX6 109 "java/lang/IndexOutOfBoundsException", Cond.initialized "java/lang/IndexOutOfBoundsException", Cond.fieldLink RX6 271 "Divisionorder$Unit" "balances" "[J", Cond.methodLink RX6 240 yX6_unitIn, Cond.instanceMethod yX6_unitIn, Cond.selects RX6 yX6_unitIn yX6_unitIn, Cond.initialized RX6, Cond.code yX6_unitIn cX6_unitIn 4 (some (.object "Divisionorder$Unit")), Cond.fieldLink RX6 203 "Divisionorder$Unit" "firstMonth" "I", Cond.fieldLink RX6 9 "Divisionorder" "now" "I", Cond.methodLink RX6 183 yX6_unitAt, Cond.instanceMethod yX6_unitAt, Cond.selects RX6 yX6_unitAt yX6_unitAt, Cond.code yX6_unitAt cX6_unitAt 2 (some (.object "Divisionorder$Unit")), Cond.fieldLink RX6 42 "Divisionorder" "units" "[LDivisionorder$Unit;", Cond.methodLink RX6 105 yX6_isOwner, Cond.static yX6_isOwner, Cond.code yX6_isOwner cX6_isOwner 1 (some .boolean), Cond.methodLink RX6 265 yX6_settle, Cond.instanceMethod yX6_settle, Cond.selects RX6 yX6_settle yX6_settle, Cond.code yX6_settle cX6_settle 6 none, Cond.fieldLink RX6 75 "Divisionorder" "settledMonths" "I", Cond.methodLink RX6 340 yX6_settleMonth]
def wsX6_balance_r2 : List Cond := [Cond.instanceMethod yX6_settleMonth, Cond.selects RX6 yX6_settleMonth yX6_settleMonth, Cond.code yX6_settleMonth cX6_settleMonth 4 none, Cond.fieldLink RX6 303 "Divisionorder$Unit" "gross" "[I", Cond.fieldLink RX6 222 "Divisionorder$Unit" "costs" "[I", Cond.methodLink RX6 343 yX4_openMonth, Cond.instanceMethod yX4_openMonth, Cond.selects RX4 yX4_openMonth yX4_openMonth, Cond.initialized RX4, Cond.code yX4_openMonth cX4_openMonth 5 none, Cond.fieldLink RX4 24 "Divisionorder$Unit" "dues" "[J", Cond.fieldLink RX4 28 "Divisionorder$Unit" "balances" "[J", Cond.fieldLink RX4 31 "Divisionorder$Unit" "firstMonth" "I", Cond.methodLink RX6 246 yX6_layDeck, Cond.instanceMethod yX6_layDeck, Cond.selects RX6 yX6_layDeck yX6_layDeck, Cond.code yX6_layDeck cX6_layDeck 7 none, Cond.fieldLink RX6 86 "Divisionorder" "deck" "LDivisionorder$Parting;", Cond.fieldLink RX6 15 "Divisionorder" "tracts" "[LDivisionorder$Tract;", Cond.fieldLink RX6 179 "Divisionorder$Tract" "unit" "LDivisionorder$Unit;", Cond.methodLink RX6 308 yX2_clear, Cond.instanceMethod yX2_clear, Cond.selects RX2 yX2_clear yX2_clear, Cond.initialized RX2]
def wsX6_balance_r3 : List Cond := [Cond.code yX2_clear cX2_clear 2 none, Cond.fieldLink RX2 7 "Divisionorder$Parting" "weights" "[J", Cond.methodLink RX6 311 yX6_layTract, Cond.instanceMethod yX6_layTract, Cond.selects RX6 yX6_layTract yX6_layTract, Cond.code yX6_layTract cX6_layTract 7 none, Cond.fieldLink RX6 78 "Divisionorder" "titles" "[I", Cond.fieldLink RX6 318 "Divisionorder$Tract" "acres" "I", Cond.fieldLink RX6 325 "Divisionorder$Parting" "weights" "[J", Cond.constantLong RX6 328 (1000), Cond.fieldLink RX6 330 "Divisionorder$Lease" "royalty" "I", Cond.fieldLink RX6 333 "Divisionorder$Lease" "lessee" "I", Cond.methodLink RX6 315 yX6_readTitles, Cond.instanceMethod yX6_readTitles, Cond.selects RX6 yX6_readTitles yX6_readTitles, Cond.code yX6_readTitles cX6_readTitles 7 none, Cond.fieldLink RX6 279 "Divisionorder$Tract" "firstOwner" "I", Cond.fieldLink RX6 24 "Divisionorder" "deeds" "[LDivisionorder$Deed;", Cond.fieldLink RX6 282 "Divisionorder$Deed" "tract" "LDivisionorder$Tract;", Cond.fieldLink RX6 286 "Divisionorder$Deed" "month" "I", Cond.fieldLink RX6 294 "Divisionorder$Deed" "from" "I", Cond.fieldLink RX6 292 "Divisionorder$Deed" "parts" "I", Cond.fieldLink RX6 289 "Divisionorder$Deed" "to" "I", Cond.methodLink RX6 321 yX6_leaseThatCounts]
def wsX6_balance_r4 : List Cond := [Cond.instanceMethod yX6_leaseThatCounts, Cond.selects RX6 yX6_leaseThatCounts yX6_leaseThatCounts, Cond.code yX6_leaseThatCounts cX6_leaseThatCounts 8 (some (.object "Divisionorder$Lease")), Cond.fieldLink RX6 33 "Divisionorder" "leases" "[LDivisionorder$Lease;", Cond.fieldLink RX6 336 "Divisionorder$Lease" "tract" "LDivisionorder$Tract;", Cond.fieldLink RX6 337 "Divisionorder$Lease" "lessor" "I", Cond.methodLink RX6 164 yX1_isInForce, Cond.instanceMethod yX1_isInForce, Cond.selects RX1 yX1_isInForce yX1_isInForce, Cond.initialized RX1, Cond.code yX1_isInForce cX1_isInForce 4 (some .boolean), Cond.fieldLink RX1 9 "Divisionorder$Lease" "firstMonth" "I", Cond.fieldLink RX1 18 "Divisionorder$Lease" "tract" "LDivisionorder$Tract;", Cond.fieldLink RX1 31 "Divisionorder$Tract" "unit" "LDivisionorder$Unit;", Cond.fieldLink RX1 15 "Divisionorder$Lease" "lastOfTerm" "I", Cond.fieldLink RX1 37 "Divisionorder$Unit" "barrels" "[I", Cond.methodLink RX6 346 yX6_carriedOwners, Cond.instanceMethod yX6_carriedOwners, Cond.selects RX6 yX6_carriedOwners yX6_carriedOwners, Cond.code yX6_carriedOwners cX6_carriedOwners 7 (some .int), Cond.fieldLink RX6 233 "Divisionorder$Unit" "refusing" "[I", Cond.methodLink RX6 175 yX6_hasBit, Cond.static yX6_hasBit, Cond.code yX6_hasBit cX6_hasBit 2 (some .boolean)]
def wsX6_balance_r5 : List Cond := [Cond.methodLink RX6 236 yX6_withBit, Cond.static yX6_withBit, Cond.code yX6_withBit cX6_withBit 3 (some .int), Cond.methodLink RX6 350 yX6_bookCosts, Cond.instanceMethod yX6_bookCosts, Cond.selects RX6 yX6_bookCosts yX6_bookCosts, Cond.code yX6_bookCosts cX6_bookCosts 6 none, Cond.fieldLink RX6 90 "Divisionorder" "sharers" "LDivisionorder$Parting;", Cond.fieldLink RX6 256 "Divisionorder$Parting" "parts" "[J", Cond.fieldLink RX6 62 "Divisionorder" "penaltyHundredths" "I", Cond.constantLong RX6 306 (100), Cond.fieldLink RX6 268 "Divisionorder$Unit" "dues" "[J", Cond.methodLink RX6 357 yX6_partByWorking, Cond.instanceMethod yX6_partByWorking, Cond.selects RX6 yX6_partByWorking yX6_partByWorking, Cond.code yX6_partByWorking cX6_partByWorking 5 none, Cond.methodLink RX6 252 yX2_partOut, Cond.instanceMethod yX2_partOut, Cond.selects RX2 yX2_partOut yX2_partOut, Cond.code yX2_partOut cX2_partOut 10 none, Cond.fieldLink RX2 13 "Divisionorder$Parting" "parts" "[J", Cond.fieldLink RX2 16 "Divisionorder$Parting" "rests" "[J", Cond.methodLink RX2 19 yX2_giveOne, Cond.instanceMethod yX2_giveOne]
def wsX6_balance_r6 : List Cond := [Cond.selects RX2 yX2_giveOne yX2_giveOne, Cond.code yX2_giveOne cX2_giveOne 3 none, Cond.constantLong RX2 22 (-1), Cond.methodLink RX6 354 yX6_bookRevenue, Cond.instanceMethod yX6_bookRevenue, Cond.selects RX6 yX6_bookRevenue yX6_bookRevenue, Cond.code yX6_bookRevenue cX6_bookRevenue 12 none, Cond.methodLink RX6 361 Lib.MathLoose.min_long.x, Cond.static Lib.MathLoose.min_long.x, Cond.initialized "java/lang/Math", Cond.code Lib.MathLoose.min_long.x Lib.MathLoose.min_long.code 4 (some .long), Cond.methodLink RX6 261 yX6_revenueOf, Cond.instanceMethod yX6_revenueOf, Cond.selects RX6 yX6_revenueOf yX6_revenueOf, Cond.code yX6_revenueOf cX6_revenueOf 5 (some .long), Cond.methodLink RX6 227 yX6_taxIn, Cond.instanceMethod yX6_taxIn, Cond.selects RX6 yX6_taxIn yX6_taxIn, Cond.code yX6_taxIn cX6_taxIn 3 (some .int), Cond.fieldLink RX6 58 "Divisionorder" "taxesTold" "[I"]
def wsX6_balance : List Cond := .code yX6_balance cX6_balance 5 (some .long) :: ((wsX6_balance_r1 ++ (wsX6_balance_r2 ++ (wsX6_balance_r3 ++ (wsX6_balance_r4 ++ (wsX6_balance_r5 ++ wsX6_balance_r6))))) ++ wsX40 ++ wsX60 ++ wsX30 ++ wsX20 ++ wsX10 ++ wsX00 ++ (vx_atS RX6 113 "java/lang/IndexOutOfBoundsException" ["java/lang/RuntimeException", "java/lang/Exception"]).filter goodWord)
def wsX6_agrees_r1 : List Cond := [Cond.classLink RX6 109 "java/lang/IndexOutOfBoundsException", Cond.initialized "java/lang/IndexOutOfBoundsException", Cond.fieldLink RX6 268 "Divisionorder$Unit" "dues" "[J", Cond.fieldLink RX6 222 "Divisionorder$Unit" "costs" "[I", Cond.methodLink RX6 240 yX6_unitIn, Cond.instanceMethod yX6_unitIn, Cond.selects RX6 yX6_unitIn yX6_unitIn, Cond.initialized RX6, Cond.code yX6_unitIn cX6_unitIn 4 (some (.object "Divisionorder$Unit")), Cond.fieldLink RX6 203 "Divisionorder$Unit" "firstMonth" "I", Cond.fieldLink RX6 9 "Divisionorder" "now" "I", Cond.methodLink RX6 183 yX6_unitAt, Cond.instanceMethod yX6_unitAt, Cond.selects RX6 yX6_unitAt yX6_unitAt, Cond.code yX6_unitAt cX6_unitAt 2 (some (.object "Divisionorder$Unit")), Cond.fieldLink RX6 42 "Divisionorder" "units" "[LDivisionorder$Unit;", Cond.methodLink RX6 265 yX6_settle, Cond.instanceMethod yX6_settle, Cond.selects RX6 yX6_settle yX6_settle, Cond.code yX6_settle cX6_settle 6 none, Cond.fieldLink RX6 75 "Divisionorder" "settledMonths" "I", Cond.methodLink RX6 340 yX6_settleMonth, Cond.instanceMethod yX6_settleMonth, Cond.selects RX6 yX6_settleMonth yX6_settleMonth]
def wsX6_agrees_r2 : List Cond := [Cond.code yX6_settleMonth cX6_settleMonth 4 none, Cond.fieldLink RX6 303 "Divisionorder$Unit" "gross" "[I", Cond.methodLink RX6 343 yX4_openMonth, Cond.instanceMethod yX4_openMonth, Cond.selects RX4 yX4_openMonth yX4_openMonth, Cond.initialized RX4, Cond.code yX4_openMonth cX4_openMonth 5 none, Cond.fieldLink RX4 24 "Divisionorder$Unit" "dues" "[J", Cond.fieldLink RX4 28 "Divisionorder$Unit" "balances" "[J", Cond.fieldLink RX4 31 "Divisionorder$Unit" "firstMonth" "I", Cond.methodLink RX6 246 yX6_layDeck, Cond.instanceMethod yX6_layDeck, Cond.selects RX6 yX6_layDeck yX6_layDeck, Cond.code yX6_layDeck cX6_layDeck 7 none, Cond.fieldLink RX6 86 "Divisionorder" "deck" "LDivisionorder$Parting;", Cond.fieldLink RX6 15 "Divisionorder" "tracts" "[LDivisionorder$Tract;", Cond.fieldLink RX6 179 "Divisionorder$Tract" "unit" "LDivisionorder$Unit;", Cond.methodLink RX6 308 yX2_clear, Cond.instanceMethod yX2_clear, Cond.selects RX2 yX2_clear yX2_clear, Cond.initialized RX2, Cond.code yX2_clear cX2_clear 2 none, Cond.fieldLink RX2 7 "Divisionorder$Parting" "weights" "[J", Cond.methodLink RX6 311 yX6_layTract]
def wsX6_agrees_r3 : List Cond := [Cond.instanceMethod yX6_layTract, Cond.selects RX6 yX6_layTract yX6_layTract, Cond.code yX6_layTract cX6_layTract 7 none, Cond.fieldLink RX6 78 "Divisionorder" "titles" "[I", Cond.fieldLink RX6 318 "Divisionorder$Tract" "acres" "I", Cond.fieldLink RX6 325 "Divisionorder$Parting" "weights" "[J", Cond.constantLong RX6 328 (1000), Cond.fieldLink RX6 330 "Divisionorder$Lease" "royalty" "I", Cond.fieldLink RX6 333 "Divisionorder$Lease" "lessee" "I", Cond.methodLink RX6 315 yX6_readTitles, Cond.instanceMethod yX6_readTitles, Cond.selects RX6 yX6_readTitles yX6_readTitles, Cond.code yX6_readTitles cX6_readTitles 7 none, Cond.fieldLink RX6 279 "Divisionorder$Tract" "firstOwner" "I", Cond.fieldLink RX6 24 "Divisionorder" "deeds" "[LDivisionorder$Deed;", Cond.fieldLink RX6 282 "Divisionorder$Deed" "tract" "LDivisionorder$Tract;", Cond.fieldLink RX6 286 "Divisionorder$Deed" "month" "I", Cond.fieldLink RX6 294 "Divisionorder$Deed" "from" "I", Cond.fieldLink RX6 292 "Divisionorder$Deed" "parts" "I", Cond.fieldLink RX6 289 "Divisionorder$Deed" "to" "I", Cond.methodLink RX6 321 yX6_leaseThatCounts, Cond.instanceMethod yX6_leaseThatCounts, Cond.selects RX6 yX6_leaseThatCounts yX6_leaseThatCounts, Cond.code yX6_leaseThatCounts cX6_leaseThatCounts 8 (some (.object "Divisionorder$Lease"))]
def wsX6_agrees_r4 : List Cond := [Cond.fieldLink RX6 33 "Divisionorder" "leases" "[LDivisionorder$Lease;", Cond.fieldLink RX6 336 "Divisionorder$Lease" "tract" "LDivisionorder$Tract;", Cond.fieldLink RX6 337 "Divisionorder$Lease" "lessor" "I", Cond.methodLink RX6 164 yX1_isInForce, Cond.instanceMethod yX1_isInForce, Cond.selects RX1 yX1_isInForce yX1_isInForce, Cond.initialized RX1, Cond.code yX1_isInForce cX1_isInForce 4 (some .boolean), Cond.fieldLink RX1 9 "Divisionorder$Lease" "firstMonth" "I", Cond.fieldLink RX1 18 "Divisionorder$Lease" "tract" "LDivisionorder$Tract;", Cond.fieldLink RX1 31 "Divisionorder$Tract" "unit" "LDivisionorder$Unit;", Cond.fieldLink RX1 15 "Divisionorder$Lease" "lastOfTerm" "I", Cond.fieldLink RX1 37 "Divisionorder$Unit" "barrels" "[I", Cond.methodLink RX6 346 yX6_carriedOwners, Cond.instanceMethod yX6_carriedOwners, Cond.selects RX6 yX6_carriedOwners yX6_carriedOwners, Cond.code yX6_carriedOwners cX6_carriedOwners 7 (some .int), Cond.fieldLink RX6 233 "Divisionorder$Unit" "refusing" "[I", Cond.fieldLink RX6 271 "Divisionorder$Unit" "balances" "[J", Cond.methodLink RX6 175 yX6_hasBit, Cond.static yX6_hasBit, Cond.code yX6_hasBit cX6_hasBit 2 (some .boolean), Cond.methodLink RX6 236 yX6_withBit, Cond.static yX6_withBit]
def wsX6_agrees_r5 : List Cond := [Cond.code yX6_withBit cX6_withBit 3 (some .int), Cond.methodLink RX6 350 yX6_bookCosts, Cond.instanceMethod yX6_bookCosts, Cond.selects RX6 yX6_bookCosts yX6_bookCosts, Cond.code yX6_bookCosts cX6_bookCosts 6 none, Cond.fieldLink RX6 90 "Divisionorder" "sharers" "LDivisionorder$Parting;", Cond.fieldLink RX6 256 "Divisionorder$Parting" "parts" "[J", Cond.fieldLink RX6 62 "Divisionorder" "penaltyHundredths" "I", Cond.constantLong RX6 306 (100), Cond.methodLink RX6 357 yX6_partByWorking, Cond.instanceMethod yX6_partByWorking, Cond.selects RX6 yX6_partByWorking yX6_partByWorking, Cond.code yX6_partByWorking cX6_partByWorking 5 none, Cond.methodLink RX6 252 yX2_partOut, Cond.instanceMethod yX2_partOut, Cond.selects RX2 yX2_partOut yX2_partOut, Cond.code yX2_partOut cX2_partOut 10 none, Cond.fieldLink RX2 13 "Divisionorder$Parting" "parts" "[J", Cond.fieldLink RX2 16 "Divisionorder$Parting" "rests" "[J", Cond.methodLink RX2 19 yX2_giveOne, Cond.instanceMethod yX2_giveOne, Cond.selects RX2 yX2_giveOne yX2_giveOne, Cond.code yX2_giveOne cX2_giveOne 3 none, Cond.constantLong RX2 22 (-1)]
def wsX6_agrees_r6 : List Cond := [Cond.methodLink RX6 354 yX6_bookRevenue, Cond.instanceMethod yX6_bookRevenue, Cond.selects RX6 yX6_bookRevenue yX6_bookRevenue, Cond.code yX6_bookRevenue cX6_bookRevenue 12 none, Cond.methodLink RX6 361 Lib.MathLoose.min_long.x, Cond.static Lib.MathLoose.min_long.x, Cond.initialized "java/lang/Math", Cond.code Lib.MathLoose.min_long.x Lib.MathLoose.min_long.code 4 (some .long), Cond.methodLink RX6 261 yX6_revenueOf, Cond.instanceMethod yX6_revenueOf, Cond.selects RX6 yX6_revenueOf yX6_revenueOf, Cond.code yX6_revenueOf cX6_revenueOf 5 (some .long), Cond.methodLink RX6 227 yX6_taxIn, Cond.instanceMethod yX6_taxIn, Cond.selects RX6 yX6_taxIn yX6_taxIn, Cond.code yX6_taxIn cX6_taxIn 3 (some .int), Cond.fieldLink RX6 58 "Divisionorder" "taxesTold" "[I"]
def wsX6_agrees : List Cond := .code yX6_agrees cX6_agrees 7 (some .boolean) :: ((wsX6_agrees_r1 ++ (wsX6_agrees_r2 ++ (wsX6_agrees_r3 ++ (wsX6_agrees_r4 ++ (wsX6_agrees_r5 ++ wsX6_agrees_r6))))) ++ wsX40 ++ wsX60 ++ wsX30 ++ wsX20 ++ wsX10 ++ wsX00 ++ (vx_atS RX6 113 "java/lang/IndexOutOfBoundsException" ["java/lang/RuntimeException", "java/lang/Exception"]).filter goodWord)
def wsX6_suspend : List Cond := .code yX6_suspend cX6_suspend 4 (some .boolean) :: ([.classLink RX6 109 "java/lang/IndexOutOfBoundsException", .initialized "java/lang/IndexOutOfBoundsException", .fieldLink RX6 65 "Divisionorder" "suspendedOwners" "I", .methodLink RX6 105 yX6_isOwner, .static yX6_isOwner, .initialized RX6, .code yX6_isOwner cX6_isOwner 1 (some .boolean), .methodLink RX6 175 yX6_hasBit, .static yX6_hasBit, .code yX6_hasBit cX6_hasBit 2 (some .boolean), .methodLink RX6 236 yX6_withBit, .static yX6_withBit, .code yX6_withBit cX6_withBit 3 (some .int)] ++ wsX60 ++ (vx_atS RX6 113 "java/lang/IndexOutOfBoundsException" ["java/lang/RuntimeException", "java/lang/Exception"]).filter goodWord)
def wsX6_least : List Cond := .code yX6_least cX6_least 3 (some .int) :: ([.classLink RX6 93 "java/lang/IllegalArgumentException", .initialized "java/lang/IllegalArgumentException", .constant RX6 274 (100000), .fieldLink RX6 68 "Divisionorder" "leastCheque" "I"] ++ wsX60 ++ (vx_atS RX6 97 "java/lang/IllegalArgumentException" ["java/lang/RuntimeException", "java/lang/Exception"]).filter goodWord)
def wsX6_settledOwed : List Cond := .code yX6_settledOwed cX6_settledOwed 9 (some .long) :: ([.fieldLink RX6 71 "Divisionorder" "paidCents" "[J", .fieldLink RX6 42 "Divisionorder" "units" "[LDivisionorder$Unit;", .fieldLink RX6 203 "Divisionorder$Unit" "firstMonth" "I", .fieldLink RX6 9 "Divisionorder" "now" "I", .fieldLink RX6 268 "Divisionorder$Unit" "dues" "[J"] ++ wsX60 ++ wsX40)
def wsX6_payDay_r1 : List Cond := [Cond.fieldLink RX6 65 "Divisionorder" "suspendedOwners" "I", Cond.fieldLink RX6 68 "Divisionorder" "leastCheque" "I", Cond.fieldLink RX6 71 "Divisionorder" "paidCents" "[J", Cond.methodLink RX6 265 yX6_settle, Cond.instanceMethod yX6_settle, Cond.selects RX6 yX6_settle yX6_settle, Cond.initialized RX6, Cond.code yX6_settle cX6_settle 6 none, Cond.fieldLink RX6 75 "Divisionorder" "settledMonths" "I", Cond.fieldLink RX6 9 "Divisionorder" "now" "I", Cond.fieldLink RX6 42 "Divisionorder" "units" "[LDivisionorder$Unit;", Cond.fieldLink RX6 203 "Divisionorder$Unit" "firstMonth" "I", Cond.methodLink RX6 340 yX6_settleMonth, Cond.instanceMethod yX6_settleMonth, Cond.selects RX6 yX6_settleMonth yX6_settleMonth, Cond.code yX6_settleMonth cX6_settleMonth 4 none, Cond.fieldLink RX6 303 "Divisionorder$Unit" "gross" "[I", Cond.fieldLink RX6 222 "Divisionorder$Unit" "costs" "[I", Cond.methodLink RX6 343 yX4_openMonth, Cond.instanceMethod yX4_openMonth, Cond.selects RX4 yX4_openMonth yX4_openMonth, Cond.initialized RX4, Cond.code yX4_openMonth cX4_openMonth 5 none, Cond.fieldLink RX4 24 "Divisionorder$Unit" "dues" "[J"]
def wsX6_payDay_r2 : List Cond := [Cond.fieldLink RX4 28 "Divisionorder$Unit" "balances" "[J", Cond.fieldLink RX4 31 "Divisionorder$Unit" "firstMonth" "I", Cond.methodLink RX6 246 yX6_layDeck, Cond.instanceMethod yX6_layDeck, Cond.selects RX6 yX6_layDeck yX6_layDeck, Cond.code yX6_layDeck cX6_layDeck 7 none, Cond.fieldLink RX6 86 "Divisionorder" "deck" "LDivisionorder$Parting;", Cond.fieldLink RX6 15 "Divisionorder" "tracts" "[LDivisionorder$Tract;", Cond.fieldLink RX6 179 "Divisionorder$Tract" "unit" "LDivisionorder$Unit;", Cond.methodLink RX6 308 yX2_clear, Cond.instanceMethod yX2_clear, Cond.selects RX2 yX2_clear yX2_clear, Cond.initialized RX2, Cond.code yX2_clear cX2_clear 2 none, Cond.fieldLink RX2 7 "Divisionorder$Parting" "weights" "[J", Cond.methodLink RX6 311 yX6_layTract, Cond.instanceMethod yX6_layTract, Cond.selects RX6 yX6_layTract yX6_layTract, Cond.code yX6_layTract cX6_layTract 7 none, Cond.fieldLink RX6 78 "Divisionorder" "titles" "[I", Cond.fieldLink RX6 318 "Divisionorder$Tract" "acres" "I", Cond.fieldLink RX6 325 "Divisionorder$Parting" "weights" "[J", Cond.constantLong RX6 328 (1000), Cond.fieldLink RX6 330 "Divisionorder$Lease" "royalty" "I"]
def wsX6_payDay_r3 : List Cond := [Cond.fieldLink RX6 333 "Divisionorder$Lease" "lessee" "I", Cond.methodLink RX6 315 yX6_readTitles, Cond.instanceMethod yX6_readTitles, Cond.selects RX6 yX6_readTitles yX6_readTitles, Cond.code yX6_readTitles cX6_readTitles 7 none, Cond.fieldLink RX6 279 "Divisionorder$Tract" "firstOwner" "I", Cond.fieldLink RX6 24 "Divisionorder" "deeds" "[LDivisionorder$Deed;", Cond.fieldLink RX6 282 "Divisionorder$Deed" "tract" "LDivisionorder$Tract;", Cond.fieldLink RX6 286 "Divisionorder$Deed" "month" "I", Cond.fieldLink RX6 294 "Divisionorder$Deed" "from" "I", Cond.fieldLink RX6 292 "Divisionorder$Deed" "parts" "I", Cond.fieldLink RX6 289 "Divisionorder$Deed" "to" "I", Cond.methodLink RX6 321 yX6_leaseThatCounts, Cond.instanceMethod yX6_leaseThatCounts, Cond.selects RX6 yX6_leaseThatCounts yX6_leaseThatCounts, Cond.code yX6_leaseThatCounts cX6_leaseThatCounts 8 (some (.object "Divisionorder$Lease")), Cond.fieldLink RX6 33 "Divisionorder" "leases" "[LDivisionorder$Lease;", Cond.fieldLink RX6 336 "Divisionorder$Lease" "tract" "LDivisionorder$Tract;", Cond.fieldLink RX6 337 "Divisionorder$Lease" "lessor" "I", Cond.methodLink RX6 164 yX1_isInForce, Cond.instanceMethod yX1_isInForce, Cond.selects RX1 yX1_isInForce yX1_isInForce, Cond.initialized RX1, Cond.code yX1_isInForce cX1_isInForce 4 (some .boolean)]
def wsX6_payDay_r4 : List Cond := [Cond.fieldLink RX1 9 "Divisionorder$Lease" "firstMonth" "I", Cond.fieldLink RX1 18 "Divisionorder$Lease" "tract" "LDivisionorder$Tract;", Cond.fieldLink RX1 31 "Divisionorder$Tract" "unit" "LDivisionorder$Unit;", Cond.fieldLink RX1 15 "Divisionorder$Lease" "lastOfTerm" "I", Cond.fieldLink RX1 37 "Divisionorder$Unit" "barrels" "[I", Cond.methodLink RX6 346 yX6_carriedOwners, Cond.instanceMethod yX6_carriedOwners, Cond.selects RX6 yX6_carriedOwners yX6_carriedOwners, Cond.code yX6_carriedOwners cX6_carriedOwners 7 (some .int), Cond.fieldLink RX6 233 "Divisionorder$Unit" "refusing" "[I", Cond.fieldLink RX6 271 "Divisionorder$Unit" "balances" "[J", Cond.methodLink RX6 175 yX6_hasBit, Cond.static yX6_hasBit, Cond.code yX6_hasBit cX6_hasBit 2 (some .boolean), Cond.methodLink RX6 236 yX6_withBit, Cond.static yX6_withBit, Cond.code yX6_withBit cX6_withBit 3 (some .int), Cond.methodLink RX6 350 yX6_bookCosts, Cond.instanceMethod yX6_bookCosts, Cond.selects RX6 yX6_bookCosts yX6_bookCosts, Cond.code yX6_bookCosts cX6_bookCosts 6 none, Cond.fieldLink RX6 90 "Divisionorder" "sharers" "LDivisionorder$Parting;", Cond.fieldLink RX6 256 "Divisionorder$Parting" "parts" "[J", Cond.fieldLink RX6 62 "Divisionorder" "penaltyHundredths" "I"]
def wsX6_payDay_r5 : List Cond := [Cond.constantLong RX6 306 (100), Cond.fieldLink RX6 268 "Divisionorder$Unit" "dues" "[J", Cond.methodLink RX6 357 yX6_partByWorking, Cond.instanceMethod yX6_partByWorking, Cond.selects RX6 yX6_partByWorking yX6_partByWorking, Cond.code yX6_partByWorking cX6_partByWorking 5 none, Cond.methodLink RX6 252 yX2_partOut, Cond.instanceMethod yX2_partOut, Cond.selects RX2 yX2_partOut yX2_partOut, Cond.code yX2_partOut cX2_partOut 10 none, Cond.fieldLink RX2 13 "Divisionorder$Parting" "parts" "[J", Cond.fieldLink RX2 16 "Divisionorder$Parting" "rests" "[J", Cond.methodLink RX2 19 yX2_giveOne, Cond.instanceMethod yX2_giveOne, Cond.selects RX2 yX2_giveOne yX2_giveOne, Cond.code yX2_giveOne cX2_giveOne 3 none, Cond.constantLong RX2 22 (-1), Cond.methodLink RX6 354 yX6_bookRevenue, Cond.instanceMethod yX6_bookRevenue, Cond.selects RX6 yX6_bookRevenue yX6_bookRevenue, Cond.code yX6_bookRevenue cX6_bookRevenue 12 none, Cond.methodLink RX6 361 Lib.MathLoose.min_long.x, Cond.static Lib.MathLoose.min_long.x, Cond.initialized "java/lang/Math"]
def wsX6_payDay_r6 : List Cond := [Cond.code Lib.MathLoose.min_long.x Lib.MathLoose.min_long.code 4 (some .long), Cond.methodLink RX6 261 yX6_revenueOf, Cond.instanceMethod yX6_revenueOf, Cond.selects RX6 yX6_revenueOf yX6_revenueOf, Cond.code yX6_revenueOf cX6_revenueOf 5 (some .long), Cond.methodLink RX6 227 yX6_taxIn, Cond.instanceMethod yX6_taxIn, Cond.selects RX6 yX6_taxIn yX6_taxIn, Cond.code yX6_taxIn cX6_taxIn 3 (some .int), Cond.fieldLink RX6 58 "Divisionorder" "taxesTold" "[I", Cond.methodLink RX6 275 yX6_settledOwed, Cond.instanceMethod yX6_settledOwed, Cond.selects RX6 yX6_settledOwed yX6_settledOwed, Cond.code yX6_settledOwed cX6_settledOwed 9 (some .long)]
def wsX6_payDay : List Cond := .code yX6_payDay cX6_payDay 6 (some .long) :: ((wsX6_payDay_r1 ++ (wsX6_payDay_r2 ++ (wsX6_payDay_r3 ++ (wsX6_payDay_r4 ++ (wsX6_payDay_r5 ++ wsX6_payDay_r6))))) ++ wsX60 ++ wsX40 ++ wsX30 ++ wsX20 ++ wsX10 ++ wsX00)
def wsX6_owed_r1 : List Cond := [Cond.classLink RX6 109 "java/lang/IndexOutOfBoundsException", Cond.initialized "java/lang/IndexOutOfBoundsException", Cond.methodLink RX6 105 yX6_isOwner, Cond.static yX6_isOwner, Cond.initialized RX6, Cond.code yX6_isOwner cX6_isOwner 1 (some .boolean), Cond.methodLink RX6 265 yX6_settle, Cond.instanceMethod yX6_settle, Cond.selects RX6 yX6_settle yX6_settle, Cond.code yX6_settle cX6_settle 6 none, Cond.fieldLink RX6 75 "Divisionorder" "settledMonths" "I", Cond.fieldLink RX6 9 "Divisionorder" "now" "I", Cond.fieldLink RX6 42 "Divisionorder" "units" "[LDivisionorder$Unit;", Cond.fieldLink RX6 203 "Divisionorder$Unit" "firstMonth" "I", Cond.methodLink RX6 340 yX6_settleMonth, Cond.instanceMethod yX6_settleMonth, Cond.selects RX6 yX6_settleMonth yX6_settleMonth, Cond.code yX6_settleMonth cX6_settleMonth 4 none, Cond.fieldLink RX6 303 "Divisionorder$Unit" "gross" "[I", Cond.fieldLink RX6 222 "Divisionorder$Unit" "costs" "[I", Cond.methodLink RX6 343 yX4_openMonth, Cond.instanceMethod yX4_openMonth, Cond.selects RX4 yX4_openMonth yX4_openMonth, Cond.initialized RX4]
def wsX6_owed_r2 : List Cond := [Cond.code yX4_openMonth cX4_openMonth 5 none, Cond.fieldLink RX4 24 "Divisionorder$Unit" "dues" "[J", Cond.fieldLink RX4 28 "Divisionorder$Unit" "balances" "[J", Cond.fieldLink RX4 31 "Divisionorder$Unit" "firstMonth" "I", Cond.methodLink RX6 246 yX6_layDeck, Cond.instanceMethod yX6_layDeck, Cond.selects RX6 yX6_layDeck yX6_layDeck, Cond.code yX6_layDeck cX6_layDeck 7 none, Cond.fieldLink RX6 86 "Divisionorder" "deck" "LDivisionorder$Parting;", Cond.fieldLink RX6 15 "Divisionorder" "tracts" "[LDivisionorder$Tract;", Cond.fieldLink RX6 179 "Divisionorder$Tract" "unit" "LDivisionorder$Unit;", Cond.methodLink RX6 308 yX2_clear, Cond.instanceMethod yX2_clear, Cond.selects RX2 yX2_clear yX2_clear, Cond.initialized RX2, Cond.code yX2_clear cX2_clear 2 none, Cond.fieldLink RX2 7 "Divisionorder$Parting" "weights" "[J", Cond.methodLink RX6 311 yX6_layTract, Cond.instanceMethod yX6_layTract, Cond.selects RX6 yX6_layTract yX6_layTract, Cond.code yX6_layTract cX6_layTract 7 none, Cond.fieldLink RX6 78 "Divisionorder" "titles" "[I", Cond.fieldLink RX6 318 "Divisionorder$Tract" "acres" "I", Cond.fieldLink RX6 325 "Divisionorder$Parting" "weights" "[J"]
def wsX6_owed_r3 : List Cond := [Cond.constantLong RX6 328 (1000), Cond.fieldLink RX6 330 "Divisionorder$Lease" "royalty" "I", Cond.fieldLink RX6 333 "Divisionorder$Lease" "lessee" "I", Cond.methodLink RX6 315 yX6_readTitles, Cond.instanceMethod yX6_readTitles, Cond.selects RX6 yX6_readTitles yX6_readTitles, Cond.code yX6_readTitles cX6_readTitles 7 none, Cond.fieldLink RX6 279 "Divisionorder$Tract" "firstOwner" "I", Cond.fieldLink RX6 24 "Divisionorder" "deeds" "[LDivisionorder$Deed;", Cond.fieldLink RX6 282 "Divisionorder$Deed" "tract" "LDivisionorder$Tract;", Cond.fieldLink RX6 286 "Divisionorder$Deed" "month" "I", Cond.fieldLink RX6 294 "Divisionorder$Deed" "from" "I", Cond.fieldLink RX6 292 "Divisionorder$Deed" "parts" "I", Cond.fieldLink RX6 289 "Divisionorder$Deed" "to" "I", Cond.methodLink RX6 321 yX6_leaseThatCounts, Cond.instanceMethod yX6_leaseThatCounts, Cond.selects RX6 yX6_leaseThatCounts yX6_leaseThatCounts, Cond.code yX6_leaseThatCounts cX6_leaseThatCounts 8 (some (.object "Divisionorder$Lease")), Cond.fieldLink RX6 33 "Divisionorder" "leases" "[LDivisionorder$Lease;", Cond.fieldLink RX6 336 "Divisionorder$Lease" "tract" "LDivisionorder$Tract;", Cond.fieldLink RX6 337 "Divisionorder$Lease" "lessor" "I", Cond.methodLink RX6 164 yX1_isInForce, Cond.instanceMethod yX1_isInForce, Cond.selects RX1 yX1_isInForce yX1_isInForce]
def wsX6_owed_r4 : List Cond := [Cond.initialized RX1, Cond.code yX1_isInForce cX1_isInForce 4 (some .boolean), Cond.fieldLink RX1 9 "Divisionorder$Lease" "firstMonth" "I", Cond.fieldLink RX1 18 "Divisionorder$Lease" "tract" "LDivisionorder$Tract;", Cond.fieldLink RX1 31 "Divisionorder$Tract" "unit" "LDivisionorder$Unit;", Cond.fieldLink RX1 15 "Divisionorder$Lease" "lastOfTerm" "I", Cond.fieldLink RX1 37 "Divisionorder$Unit" "barrels" "[I", Cond.methodLink RX6 346 yX6_carriedOwners, Cond.instanceMethod yX6_carriedOwners, Cond.selects RX6 yX6_carriedOwners yX6_carriedOwners, Cond.code yX6_carriedOwners cX6_carriedOwners 7 (some .int), Cond.fieldLink RX6 233 "Divisionorder$Unit" "refusing" "[I", Cond.fieldLink RX6 271 "Divisionorder$Unit" "balances" "[J", Cond.methodLink RX6 175 yX6_hasBit, Cond.static yX6_hasBit, Cond.code yX6_hasBit cX6_hasBit 2 (some .boolean), Cond.methodLink RX6 236 yX6_withBit, Cond.static yX6_withBit, Cond.code yX6_withBit cX6_withBit 3 (some .int), Cond.methodLink RX6 350 yX6_bookCosts, Cond.instanceMethod yX6_bookCosts, Cond.selects RX6 yX6_bookCosts yX6_bookCosts, Cond.code yX6_bookCosts cX6_bookCosts 6 none, Cond.fieldLink RX6 90 "Divisionorder" "sharers" "LDivisionorder$Parting;"]
def wsX6_owed_r5 : List Cond := [Cond.fieldLink RX6 256 "Divisionorder$Parting" "parts" "[J", Cond.fieldLink RX6 62 "Divisionorder" "penaltyHundredths" "I", Cond.constantLong RX6 306 (100), Cond.fieldLink RX6 268 "Divisionorder$Unit" "dues" "[J", Cond.methodLink RX6 357 yX6_partByWorking, Cond.instanceMethod yX6_partByWorking, Cond.selects RX6 yX6_partByWorking yX6_partByWorking, Cond.code yX6_partByWorking cX6_partByWorking 5 none, Cond.methodLink RX6 252 yX2_partOut, Cond.instanceMethod yX2_partOut, Cond.selects RX2 yX2_partOut yX2_partOut, Cond.code yX2_partOut cX2_partOut 10 none, Cond.fieldLink RX2 13 "Divisionorder$Parting" "parts" "[J", Cond.fieldLink RX2 16 "Divisionorder$Parting" "rests" "[J", Cond.methodLink RX2 19 yX2_giveOne, Cond.instanceMethod yX2_giveOne, Cond.selects RX2 yX2_giveOne yX2_giveOne, Cond.code yX2_giveOne cX2_giveOne 3 none, Cond.constantLong RX2 22 (-1), Cond.methodLink RX6 354 yX6_bookRevenue, Cond.instanceMethod yX6_bookRevenue, Cond.selects RX6 yX6_bookRevenue yX6_bookRevenue, Cond.code yX6_bookRevenue cX6_bookRevenue 12 none, Cond.methodLink RX6 361 Lib.MathLoose.min_long.x]
def wsX6_owed_r6 : List Cond := [Cond.static Lib.MathLoose.min_long.x, Cond.initialized "java/lang/Math", Cond.code Lib.MathLoose.min_long.x Lib.MathLoose.min_long.code 4 (some .long), Cond.methodLink RX6 261 yX6_revenueOf, Cond.instanceMethod yX6_revenueOf, Cond.selects RX6 yX6_revenueOf yX6_revenueOf, Cond.code yX6_revenueOf cX6_revenueOf 5 (some .long), Cond.methodLink RX6 227 yX6_taxIn, Cond.instanceMethod yX6_taxIn, Cond.selects RX6 yX6_taxIn yX6_taxIn, Cond.code yX6_taxIn cX6_taxIn 3 (some .int), Cond.fieldLink RX6 58 "Divisionorder" "taxesTold" "[I", Cond.methodLink RX6 275 yX6_settledOwed, Cond.instanceMethod yX6_settledOwed, Cond.selects RX6 yX6_settledOwed yX6_settledOwed, Cond.code yX6_settledOwed cX6_settledOwed 9 (some .long), Cond.fieldLink RX6 71 "Divisionorder" "paidCents" "[J"]
def wsX6_owed : List Cond := .code yX6_owed cX6_owed 2 (some .long) :: ((wsX6_owed_r1 ++ (wsX6_owed_r2 ++ (wsX6_owed_r3 ++ (wsX6_owed_r4 ++ (wsX6_owed_r5 ++ wsX6_owed_r6))))) ++ wsX60 ++ wsX40 ++ wsX30 ++ wsX20 ++ wsX10 ++ wsX00 ++ (vx_atS RX6 113 "java/lang/IndexOutOfBoundsException" ["java/lang/RuntimeException", "java/lang/Exception"]).filter goodWord)
def wsX6_paid : List Cond := .code yX6_paid cX6_paid 2 (some .long) :: ([.classLink RX6 109 "java/lang/IndexOutOfBoundsException", .initialized "java/lang/IndexOutOfBoundsException", .fieldLink RX6 71 "Divisionorder" "paidCents" "[J", .methodLink RX6 105 yX6_isOwner, .static yX6_isOwner, .initialized RX6, .code yX6_isOwner cX6_isOwner 1 (some .boolean)] ++ wsX60 ++ (vx_atS RX6 113 "java/lang/IndexOutOfBoundsException" ["java/lang/RuntimeException", "java/lang/Exception"]).filter goodWord)
def wsJ9_min_7cf53 : List Cond := .code yJ9_min_7cf53 cJ9_min_7cf53 2 (some .int) :: ([])
def wsJ9_min_f86c9 : List Cond := .code yJ9_min_f86c9 cJ9_min_f86c9 4 (some .long) :: ([])
def wsL_drawn : List Cond := .code yL_drawn cL_drawn 2 (some .int) :: ([.constant RL 7 (39119), .constant RL 8 (2147483647)])
def wsL_pass : List Cond := .codeWith yL_pass cL_pass 3 (some .int) [(0, 5, 6, 15), (0, 5, 10, 17)] :: ([.classLink RL 15 "java/lang/IllegalArgumentException", .classLink RL 17 "java/lang/IllegalStateException", .methodLink RL 9 yX6_pass, .instanceMethod yX6_pass, .selects RX6 yX6_pass yX6_pass, .initialized RX6, .code yX6_pass cX6_pass 2 (some .int), .classLink RX6 93 "java/lang/IllegalArgumentException", .initialized "java/lang/IllegalArgumentException", .classLink RX6 100 "java/lang/IllegalStateException", .initialized "java/lang/IllegalStateException", .fieldLink RX6 9 "Divisionorder" "now" "I"] ++ wsX60 ++ (vx_atS RX6 97 "java/lang/IllegalArgumentException" ["java/lang/RuntimeException", "java/lang/Exception"]).filter goodWord ++ (vx_atS RX6 104 "java/lang/IllegalStateException" ["java/lang/RuntimeException", "java/lang/Exception"]).filter goodWord)
def wsL_tract_r1 : List Cond := [Cond.classLink RL 23 "java/lang/IndexOutOfBoundsException", Cond.classLink RL 15 "java/lang/IllegalArgumentException", Cond.classLink RL 17 "java/lang/IllegalStateException", Cond.methodLink RL 19 yX6_tract, Cond.instanceMethod yX6_tract, Cond.selects RX6 yX6_tract yX6_tract, Cond.initialized RX6, Cond.code yX6_tract cX6_tract 3 (some .int), Cond.classLink RX6 109 "java/lang/IndexOutOfBoundsException", Cond.initialized "java/lang/IndexOutOfBoundsException", Cond.classLink RX6 93 "java/lang/IllegalArgumentException", Cond.initialized "java/lang/IllegalArgumentException", Cond.classLink RX6 100 "java/lang/IllegalStateException", Cond.initialized "java/lang/IllegalStateException", Cond.fieldLink RX6 19 "Divisionorder" "tractCount" "I", Cond.fieldLink RX6 15 "Divisionorder" "tracts" "[LDivisionorder$Tract;", Cond.classLink RX6 13 RX3, Cond.instantiable RX3 3, Cond.initialized RX3, Cond.methodLink RX6 105 yX6_isOwner, Cond.static yX6_isOwner, Cond.code yX6_isOwner cX6_isOwner 1 (some .boolean), Cond.methodLink RX6 118 yX3_init, Cond.instanceMethod yX3_init]
def wsL_tract_r2 : List Cond := [Cond.code yX3_init cX3_init 3 none, Cond.methodLink RX3 1 objectInit, Cond.instanceMethod objectInit, Cond.code objectInit ⟨#[0xb1]⟩ 1 none, Cond.fieldLink RX3 7 "Divisionorder$Tract" "unit" "LDivisionorder$Unit;", Cond.fieldLink RX3 13 "Divisionorder$Tract" "acres" "I", Cond.fieldLink RX3 17 "Divisionorder$Tract" "firstOwner" "I"]
def wsL_tract : List Cond := .codeWith yL_tract cL_tract 4 (some .int) [(0, 6, 7, 23), (0, 6, 11, 15), (0, 6, 15, 17)] :: ((wsL_tract_r1 ++ wsL_tract_r2) ++ wsX60 ++ wsX30 ++ (vx_atS RX6 113 "java/lang/IndexOutOfBoundsException" ["java/lang/RuntimeException", "java/lang/Exception"]).filter goodWord ++ (vx_atS RX6 97 "java/lang/IllegalArgumentException" ["java/lang/RuntimeException", "java/lang/Exception"]).filter goodWord ++ (vx_atS RX6 104 "java/lang/IllegalStateException" ["java/lang/RuntimeException", "java/lang/Exception"]).filter goodWord)
def wsL_deed_r1 : List Cond := [Cond.classLink RL 23 "java/lang/IndexOutOfBoundsException", Cond.classLink RL 15 "java/lang/IllegalArgumentException", Cond.classLink RL 17 "java/lang/IllegalStateException", Cond.methodLink RL 25 yX6_deed, Cond.instanceMethod yX6_deed, Cond.selects RX6 yX6_deed yX6_deed, Cond.initialized RX6, Cond.code yX6_deed cX6_deed 7 (some .int), Cond.classLink RX6 109 "java/lang/IndexOutOfBoundsException", Cond.initialized "java/lang/IndexOutOfBoundsException", Cond.classLink RX6 93 "java/lang/IllegalArgumentException", Cond.initialized "java/lang/IllegalArgumentException", Cond.classLink RX6 100 "java/lang/IllegalStateException", Cond.initialized "java/lang/IllegalStateException", Cond.fieldLink RX6 28 "Divisionorder" "deedCount" "I", Cond.fieldLink RX6 24 "Divisionorder" "deeds" "[LDivisionorder$Deed;", Cond.classLink RX6 22 RX0, Cond.instantiable RX0 5, Cond.initialized RX0, Cond.fieldLink RX6 9 "Divisionorder" "now" "I", Cond.methodLink RX6 121 yX6_tractAt, Cond.instanceMethod yX6_tractAt, Cond.selects RX6 yX6_tractAt yX6_tractAt, Cond.code yX6_tractAt cX6_tractAt 2 (some (.object "Divisionorder$Tract"))]
def wsL_deed_r2 : List Cond := [Cond.fieldLink RX6 15 "Divisionorder" "tracts" "[LDivisionorder$Tract;", Cond.methodLink RX6 105 yX6_isOwner, Cond.static yX6_isOwner, Cond.code yX6_isOwner cX6_isOwner 1 (some .boolean), Cond.methodLink RX6 125 yX6_isMonth, Cond.instanceMethod yX6_isMonth, Cond.selects RX6 yX6_isMonth yX6_isMonth, Cond.code yX6_isMonth cX6_isMonth 2 (some .boolean), Cond.methodLink RX6 132 yX6_leastTitle, Cond.instanceMethod yX6_leastTitle, Cond.selects RX6 yX6_leastTitle yX6_leastTitle, Cond.code yX6_leastTitle cX6_leastTitle 6 (some .int), Cond.methodLink RX6 297 Lib.Math.min.name, Cond.static Lib.Math.min.name, Cond.initialized "java/lang/Math", Cond.code Lib.Math.min.name Lib.Math.min.code 2 (some .int), Cond.methodLink RX6 144 yX6_titleOf, Cond.instanceMethod yX6_titleOf, Cond.selects RX6 yX6_titleOf yX6_titleOf, Cond.code yX6_titleOf cX6_titleOf 9 (some .int), Cond.fieldLink RX6 279 "Divisionorder$Tract" "firstOwner" "I", Cond.fieldLink RX6 282 "Divisionorder$Deed" "tract" "LDivisionorder$Tract;", Cond.fieldLink RX6 286 "Divisionorder$Deed" "month" "I", Cond.fieldLink RX6 289 "Divisionorder$Deed" "to" "I"]
def wsL_deed_r3 : List Cond := [Cond.fieldLink RX6 292 "Divisionorder$Deed" "parts" "I", Cond.fieldLink RX6 294 "Divisionorder$Deed" "from" "I", Cond.methodLink RX6 138 yX0_init, Cond.instanceMethod yX0_init, Cond.code yX0_init cX0_init 6 none, Cond.methodLink RX0 1 objectInit, Cond.instanceMethod objectInit, Cond.code objectInit ⟨#[0xb1]⟩ 1 none, Cond.fieldLink RX0 7 "Divisionorder$Deed" "tract" "LDivisionorder$Tract;", Cond.fieldLink RX0 13 "Divisionorder$Deed" "from" "I", Cond.fieldLink RX0 17 "Divisionorder$Deed" "to" "I", Cond.fieldLink RX0 20 "Divisionorder$Deed" "parts" "I", Cond.fieldLink RX0 23 "Divisionorder$Deed" "month" "I", Cond.methodLink RX6 141 yX6_unsettle, Cond.instanceMethod yX6_unsettle, Cond.selects RX6 yX6_unsettle yX6_unsettle, Cond.code yX6_unsettle cX6_unsettle 2 none, Cond.fieldLink RX6 75 "Divisionorder" "settledMonths" "I"]
def wsL_deed : List Cond := .codeWith yL_deed cL_deed 7 (some .int) [(0, 11, 12, 23), (0, 11, 17, 15), (0, 11, 22, 17)] :: ((wsL_deed_r1 ++ (wsL_deed_r2 ++ wsL_deed_r3)) ++ wsX60 ++ wsX00 ++ wsX30 ++ (vx_atS RX6 113 "java/lang/IndexOutOfBoundsException" ["java/lang/RuntimeException", "java/lang/Exception"]).filter goodWord ++ (vx_atS RX6 97 "java/lang/IllegalArgumentException" ["java/lang/RuntimeException", "java/lang/Exception"]).filter goodWord ++ (vx_atS RX6 104 "java/lang/IllegalStateException" ["java/lang/RuntimeException", "java/lang/Exception"]).filter goodWord)
def wsL_title_r1 : List Cond := [Cond.classLink RL 23 "java/lang/IndexOutOfBoundsException", Cond.methodLink RL 29 yX6_title, Cond.instanceMethod yX6_title, Cond.selects RX6 yX6_title yX6_title, Cond.initialized RX6, Cond.code yX6_title cX6_title 5 (some .int), Cond.classLink RX6 109 "java/lang/IndexOutOfBoundsException", Cond.initialized "java/lang/IndexOutOfBoundsException", Cond.methodLink RX6 121 yX6_tractAt, Cond.instanceMethod yX6_tractAt, Cond.selects RX6 yX6_tractAt yX6_tractAt, Cond.code yX6_tractAt cX6_tractAt 2 (some (.object "Divisionorder$Tract")), Cond.fieldLink RX6 15 "Divisionorder" "tracts" "[LDivisionorder$Tract;", Cond.methodLink RX6 105 yX6_isOwner, Cond.static yX6_isOwner, Cond.code yX6_isOwner cX6_isOwner 1 (some .boolean), Cond.methodLink RX6 125 yX6_isMonth, Cond.instanceMethod yX6_isMonth, Cond.selects RX6 yX6_isMonth yX6_isMonth, Cond.code yX6_isMonth cX6_isMonth 2 (some .boolean), Cond.fieldLink RX6 9 "Divisionorder" "now" "I", Cond.methodLink RX6 144 yX6_titleOf, Cond.instanceMethod yX6_titleOf, Cond.selects RX6 yX6_titleOf yX6_titleOf]
def wsL_title_r2 : List Cond := [Cond.code yX6_titleOf cX6_titleOf 9 (some .int), Cond.fieldLink RX6 279 "Divisionorder$Tract" "firstOwner" "I", Cond.fieldLink RX6 24 "Divisionorder" "deeds" "[LDivisionorder$Deed;", Cond.fieldLink RX6 282 "Divisionorder$Deed" "tract" "LDivisionorder$Tract;", Cond.fieldLink RX6 286 "Divisionorder$Deed" "month" "I", Cond.fieldLink RX6 289 "Divisionorder$Deed" "to" "I", Cond.fieldLink RX6 292 "Divisionorder$Deed" "parts" "I", Cond.fieldLink RX6 294 "Divisionorder$Deed" "from" "I"]
def wsL_title : List Cond := .codeWith yL_title cL_title 5 (some .int) [(0, 7, 8, 23)] :: ((wsL_title_r1 ++ wsL_title_r2) ++ wsX60 ++ wsX30 ++ wsX00 ++ (vx_atS RX6 113 "java/lang/IndexOutOfBoundsException" ["java/lang/RuntimeException", "java/lang/Exception"]).filter goodWord)
def wsL_lease_r1 : List Cond := [Cond.classLink RL 23 "java/lang/IndexOutOfBoundsException", Cond.classLink RL 15 "java/lang/IllegalArgumentException", Cond.classLink RL 17 "java/lang/IllegalStateException", Cond.methodLink RL 33 yX6_lease, Cond.instanceMethod yX6_lease, Cond.selects RX6 yX6_lease yX6_lease, Cond.initialized RX6, Cond.code yX6_lease cX6_lease 8 (some .int), Cond.classLink RX6 109 "java/lang/IndexOutOfBoundsException", Cond.initialized "java/lang/IndexOutOfBoundsException", Cond.classLink RX6 93 "java/lang/IllegalArgumentException", Cond.initialized "java/lang/IllegalArgumentException", Cond.classLink RX6 100 "java/lang/IllegalStateException", Cond.initialized "java/lang/IllegalStateException", Cond.fieldLink RX6 37 "Divisionorder" "leaseCount" "I", Cond.classLink RX6 31 RX1, Cond.instantiable RX1 6, Cond.initialized RX1, Cond.fieldLink RX6 9 "Divisionorder" "now" "I", Cond.fieldLink RX6 156 "Divisionorder$Lease" "firstMonth" "I", Cond.fieldLink RX6 159 "Divisionorder$Lease" "lastOfTerm" "I", Cond.fieldLink RX6 33 "Divisionorder" "leases" "[LDivisionorder$Lease;", Cond.methodLink RX6 121 yX6_tractAt, Cond.instanceMethod yX6_tractAt]
def wsL_lease_r2 : List Cond := [Cond.selects RX6 yX6_tractAt yX6_tractAt, Cond.code yX6_tractAt cX6_tractAt 2 (some (.object "Divisionorder$Tract")), Cond.fieldLink RX6 15 "Divisionorder" "tracts" "[LDivisionorder$Tract;", Cond.methodLink RX6 105 yX6_isOwner, Cond.static yX6_isOwner, Cond.code yX6_isOwner cX6_isOwner 1 (some .boolean), Cond.methodLink RX6 153 yX1_init, Cond.instanceMethod yX1_init, Cond.code yX1_init cX1_init 5 none, Cond.methodLink RX1 3 objectInit, Cond.instanceMethod objectInit, Cond.code objectInit ⟨#[0xb1]⟩ 1 none, Cond.fieldLink RX1 9 "Divisionorder$Lease" "firstMonth" "I", Cond.fieldLink RX1 15 "Divisionorder$Lease" "lastOfTerm" "I", Cond.fieldLink RX1 18 "Divisionorder$Lease" "tract" "LDivisionorder$Tract;", Cond.fieldLink RX1 22 "Divisionorder$Lease" "lessor" "I", Cond.fieldLink RX1 25 "Divisionorder$Lease" "lessee" "I", Cond.fieldLink RX1 28 "Divisionorder$Lease" "royalty" "I", Cond.methodLink RX6 141 yX6_unsettle, Cond.instanceMethod yX6_unsettle, Cond.selects RX6 yX6_unsettle yX6_unsettle, Cond.code yX6_unsettle cX6_unsettle 2 none, Cond.fieldLink RX6 75 "Divisionorder" "settledMonths" "I", Cond.methodLink RX6 297 Lib.Math.min.name]
def wsL_lease_r3 : List Cond := [Cond.static Lib.Math.min.name, Cond.initialized "java/lang/Math", Cond.code Lib.Math.min.name Lib.Math.min.code 2 (some .int)]
def wsL_lease : List Cond := .codeWith yL_lease cL_lease 7 (some .int) [(0, 11, 12, 23), (0, 11, 17, 15), (0, 11, 22, 17)] :: ((wsL_lease_r1 ++ (wsL_lease_r2 ++ wsL_lease_r3)) ++ wsX60 ++ wsX10 ++ (vx_atS RX6 113 "java/lang/IndexOutOfBoundsException" ["java/lang/RuntimeException", "java/lang/Exception"]).filter goodWord ++ (vx_atS RX6 97 "java/lang/IllegalArgumentException" ["java/lang/RuntimeException", "java/lang/Exception"]).filter goodWord ++ (vx_atS RX6 104 "java/lang/IllegalStateException" ["java/lang/RuntimeException", "java/lang/Exception"]).filter goodWord)
def wsL_unit_r1 : List Cond := [Cond.classLink RL 15 "java/lang/IllegalArgumentException", Cond.classLink RL 17 "java/lang/IllegalStateException", Cond.methodLink RL 36 yX6_unit, Cond.instanceMethod yX6_unit, Cond.selects RX6 yX6_unit yX6_unit, Cond.initialized RX6, Cond.code yX6_unit cX6_unit 5 (some .int), Cond.classLink RX6 93 "java/lang/IllegalArgumentException", Cond.initialized "java/lang/IllegalArgumentException", Cond.classLink RX6 100 "java/lang/IllegalStateException", Cond.initialized "java/lang/IllegalStateException", Cond.fieldLink RX6 19 "Divisionorder" "tractCount" "I", Cond.fieldLink RX6 46 "Divisionorder" "unitCount" "I", Cond.classLink RX6 40 RX4, Cond.instantiable RX4 7, Cond.initialized RX4, Cond.fieldLink RX6 9 "Divisionorder" "now" "I", Cond.fieldLink RX6 15 "Divisionorder" "tracts" "[LDivisionorder$Tract;", Cond.fieldLink RX6 179 "Divisionorder$Tract" "unit" "LDivisionorder$Unit;", Cond.fieldLink RX6 42 "Divisionorder" "units" "[LDivisionorder$Unit;", Cond.methodLink RX6 169 yX6_hasTractOfUnit, Cond.instanceMethod yX6_hasTractOfUnit, Cond.selects RX6 yX6_hasTractOfUnit yX6_hasTractOfUnit, Cond.code yX6_hasTractOfUnit cX6_hasTractOfUnit 4 (some .boolean)]
def wsL_unit_r2 : List Cond := [Cond.methodLink RX6 175 yX6_hasBit, Cond.static yX6_hasBit, Cond.code yX6_hasBit cX6_hasBit 2 (some .boolean), Cond.methodLink RX6 174 yX4_init, Cond.instanceMethod yX4_init, Cond.code yX4_init cX4_init 2 none, Cond.methodLink RX4 3 objectInit, Cond.instanceMethod objectInit, Cond.code objectInit ⟨#[0xb1]⟩ 1 none, Cond.arrayClass .int, Cond.fieldLink RX4 9 "Divisionorder$Unit" "refusing" "[I", Cond.fieldLink RX4 15 "Divisionorder$Unit" "barrels" "[I", Cond.fieldLink RX4 18 "Divisionorder$Unit" "gross" "[I", Cond.fieldLink RX4 21 "Divisionorder$Unit" "costs" "[I", Cond.arrayClass .long, Cond.fieldLink RX4 24 "Divisionorder$Unit" "dues" "[J", Cond.fieldLink RX4 28 "Divisionorder$Unit" "balances" "[J", Cond.fieldLink RX4 31 "Divisionorder$Unit" "firstMonth" "I", Cond.methodLink RX6 141 yX6_unsettle, Cond.instanceMethod yX6_unsettle, Cond.selects RX6 yX6_unsettle yX6_unsettle, Cond.code yX6_unsettle cX6_unsettle 2 none, Cond.fieldLink RX6 75 "Divisionorder" "settledMonths" "I", Cond.methodLink RX6 297 Lib.Math.min.name]
def wsL_unit_r3 : List Cond := [Cond.static Lib.Math.min.name, Cond.initialized "java/lang/Math", Cond.code Lib.Math.min.name Lib.Math.min.code 2 (some .int)]
def wsL_unit : List Cond := .codeWith yL_unit cL_unit 3 (some .int) [(0, 5, 6, 15), (0, 5, 10, 17)] :: ((wsL_unit_r1 ++ (wsL_unit_r2 ++ wsL_unit_r3)) ++ wsX60 ++ wsX40 ++ wsX30 ++ (vx_atS RX6 97 "java/lang/IllegalArgumentException" ["java/lang/RuntimeException", "java/lang/Exception"]).filter goodWord ++ (vx_atS RX6 104 "java/lang/IllegalStateException" ["java/lang/RuntimeException", "java/lang/Exception"]).filter goodWord)
def wsL_well_r1 : List Cond := [Cond.classLink RL 23 "java/lang/IndexOutOfBoundsException", Cond.classLink RL 17 "java/lang/IllegalStateException", Cond.methodLink RL 39 yX6_well, Cond.instanceMethod yX6_well, Cond.selects RX6 yX6_well yX6_well, Cond.initialized RX6, Cond.code yX6_well cX6_well 3 (some .int), Cond.classLink RX6 109 "java/lang/IndexOutOfBoundsException", Cond.initialized "java/lang/IndexOutOfBoundsException", Cond.classLink RX6 100 "java/lang/IllegalStateException", Cond.initialized "java/lang/IllegalStateException", Cond.fieldLink RX6 55 "Divisionorder" "wellCount" "I", Cond.fieldLink RX6 51 "Divisionorder" "wells" "[LDivisionorder$Well;", Cond.classLink RX6 49 RX5, Cond.instantiable RX5 4, Cond.initialized RX5, Cond.methodLink RX6 183 yX6_unitAt, Cond.instanceMethod yX6_unitAt, Cond.selects RX6 yX6_unitAt yX6_unitAt, Cond.code yX6_unitAt cX6_unitAt 2 (some (.object "Divisionorder$Unit")), Cond.fieldLink RX6 42 "Divisionorder" "units" "[LDivisionorder$Unit;", Cond.methodLink RX6 191 yX5_init, Cond.instanceMethod yX5_init, Cond.code yX5_init cX5_init 2 none]
def wsL_well_r2 : List Cond := [Cond.methodLink RX5 3 objectInit, Cond.instanceMethod objectInit, Cond.code objectInit ⟨#[0xb1]⟩ 1 none, Cond.arrayClass .int, Cond.fieldLink RX5 9 "Divisionorder$Well" "barrels" "[I", Cond.fieldLink RX5 15 "Divisionorder$Well" "prices" "[I", Cond.fieldLink RX5 18 "Divisionorder$Well" "costs" "[I", Cond.fieldLink RX5 21 "Divisionorder$Well" "unit" "LDivisionorder$Unit;"]
def wsL_well : List Cond := .codeWith yL_well cL_well 3 (some .int) [(0, 5, 6, 23), (0, 5, 10, 17)] :: ((wsL_well_r1 ++ wsL_well_r2) ++ wsX60 ++ wsX50 ++ (vx_atS RX6 113 "java/lang/IndexOutOfBoundsException" ["java/lang/RuntimeException", "java/lang/Exception"]).filter goodWord ++ (vx_atS RX6 104 "java/lang/IllegalStateException" ["java/lang/RuntimeException", "java/lang/Exception"]).filter goodWord)
def wsL_oil_r1 : List Cond := [Cond.classLink RL 23 "java/lang/IndexOutOfBoundsException", Cond.classLink RL 15 "java/lang/IllegalArgumentException", Cond.classLink RL 17 "java/lang/IllegalStateException", Cond.methodLink RL 42 yX6_oil, Cond.instanceMethod yX6_oil, Cond.selects RX6 yX6_oil yX6_oil, Cond.initialized RX6, Cond.code yX6_oil cX6_oil 7 (some .int), Cond.classLink RX6 109 "java/lang/IndexOutOfBoundsException", Cond.initialized "java/lang/IndexOutOfBoundsException", Cond.classLink RX6 93 "java/lang/IllegalArgumentException", Cond.initialized "java/lang/IllegalArgumentException", Cond.classLink RX6 100 "java/lang/IllegalStateException", Cond.initialized "java/lang/IllegalStateException", Cond.fieldLink RX6 202 "Divisionorder$Well" "unit" "LDivisionorder$Unit;", Cond.fieldLink RX6 203 "Divisionorder$Unit" "firstMonth" "I", Cond.fieldLink RX6 206 "Divisionorder$Well" "barrels" "[I", Cond.methodLink RX6 194 yX6_wellAt, Cond.instanceMethod yX6_wellAt, Cond.selects RX6 yX6_wellAt yX6_wellAt, Cond.code yX6_wellAt cX6_wellAt 2 (some (.object "Divisionorder$Well")), Cond.fieldLink RX6 51 "Divisionorder" "wells" "[LDivisionorder$Well;", Cond.methodLink RX6 125 yX6_isMonth, Cond.instanceMethod yX6_isMonth]
def wsL_oil_r2 : List Cond := [Cond.selects RX6 yX6_isMonth yX6_isMonth, Cond.code yX6_isMonth cX6_isMonth 2 (some .boolean), Cond.fieldLink RX6 9 "Divisionorder" "now" "I", Cond.methodLink RX6 209 yX5_tellOil, Cond.instanceMethod yX5_tellOil, Cond.selects RX5 yX5_tellOil yX5_tellOil, Cond.initialized RX5, Cond.code yX5_tellOil cX5_tellOil 4 none, Cond.fieldLink RX5 21 "Divisionorder$Well" "unit" "LDivisionorder$Unit;", Cond.fieldLink RX5 25 "Divisionorder$Unit" "barrels" "[I", Cond.fieldLink RX5 9 "Divisionorder$Well" "barrels" "[I", Cond.fieldLink RX5 28 "Divisionorder$Unit" "gross" "[I", Cond.fieldLink RX5 15 "Divisionorder$Well" "prices" "[I", Cond.methodLink RX6 141 yX6_unsettle, Cond.instanceMethod yX6_unsettle, Cond.selects RX6 yX6_unsettle yX6_unsettle, Cond.code yX6_unsettle cX6_unsettle 2 none, Cond.fieldLink RX6 75 "Divisionorder" "settledMonths" "I", Cond.methodLink RX6 297 Lib.Math.min.name, Cond.static Lib.Math.min.name, Cond.initialized "java/lang/Math", Cond.code Lib.Math.min.name Lib.Math.min.code 2 (some .int)]
def wsL_oil : List Cond := .codeWith yL_oil cL_oil 6 (some .int) [(0, 9, 10, 23), (0, 9, 15, 15), (0, 9, 20, 17)] :: ((wsL_oil_r1 ++ wsL_oil_r2) ++ wsX50 ++ wsX40 ++ wsX60 ++ (vx_atS RX6 113 "java/lang/IndexOutOfBoundsException" ["java/lang/RuntimeException", "java/lang/Exception"]).filter goodWord ++ (vx_atS RX6 97 "java/lang/IllegalArgumentException" ["java/lang/RuntimeException", "java/lang/Exception"]).filter goodWord ++ (vx_atS RX6 104 "java/lang/IllegalStateException" ["java/lang/RuntimeException", "java/lang/Exception"]).filter goodWord)
def wsL_cost_r1 : List Cond := [Cond.classLink RL 23 "java/lang/IndexOutOfBoundsException", Cond.classLink RL 15 "java/lang/IllegalArgumentException", Cond.classLink RL 17 "java/lang/IllegalStateException", Cond.methodLink RL 46 yX6_cost, Cond.instanceMethod yX6_cost, Cond.selects RX6 yX6_cost yX6_cost, Cond.initialized RX6, Cond.code yX6_cost cX6_cost 5 (some .int), Cond.classLink RX6 109 "java/lang/IndexOutOfBoundsException", Cond.initialized "java/lang/IndexOutOfBoundsException", Cond.classLink RX6 93 "java/lang/IllegalArgumentException", Cond.initialized "java/lang/IllegalArgumentException", Cond.classLink RX6 100 "java/lang/IllegalStateException", Cond.initialized "java/lang/IllegalStateException", Cond.constant RX6 213 (1000000), Cond.fieldLink RX6 202 "Divisionorder$Well" "unit" "LDivisionorder$Unit;", Cond.fieldLink RX6 203 "Divisionorder$Unit" "firstMonth" "I", Cond.fieldLink RX6 216 "Divisionorder$Well" "costs" "[I", Cond.constant RX6 219 (10000000), Cond.fieldLink RX6 222 "Divisionorder$Unit" "costs" "[I", Cond.methodLink RX6 194 yX6_wellAt, Cond.instanceMethod yX6_wellAt, Cond.selects RX6 yX6_wellAt yX6_wellAt, Cond.code yX6_wellAt cX6_wellAt 2 (some (.object "Divisionorder$Well"))]
def wsL_cost_r2 : List Cond := [Cond.fieldLink RX6 51 "Divisionorder" "wells" "[LDivisionorder$Well;", Cond.methodLink RX6 125 yX6_isMonth, Cond.instanceMethod yX6_isMonth, Cond.selects RX6 yX6_isMonth yX6_isMonth, Cond.code yX6_isMonth cX6_isMonth 2 (some .boolean), Cond.fieldLink RX6 9 "Divisionorder" "now" "I", Cond.methodLink RX6 141 yX6_unsettle, Cond.instanceMethod yX6_unsettle, Cond.selects RX6 yX6_unsettle yX6_unsettle, Cond.code yX6_unsettle cX6_unsettle 2 none, Cond.fieldLink RX6 75 "Divisionorder" "settledMonths" "I", Cond.methodLink RX6 297 Lib.Math.min.name, Cond.static Lib.Math.min.name, Cond.initialized "java/lang/Math", Cond.code Lib.Math.min.name Lib.Math.min.code 2 (some .int)]
def wsL_cost : List Cond := .codeWith yL_cost cL_cost 5 (some .int) [(0, 7, 8, 23), (0, 7, 13, 15), (0, 7, 18, 17)] :: ((wsL_cost_r1 ++ wsL_cost_r2) ++ wsX50 ++ wsX40 ++ wsX60 ++ (vx_atS RX6 113 "java/lang/IndexOutOfBoundsException" ["java/lang/RuntimeException", "java/lang/Exception"]).filter goodWord ++ (vx_atS RX6 97 "java/lang/IllegalArgumentException" ["java/lang/RuntimeException", "java/lang/Exception"]).filter goodWord ++ (vx_atS RX6 104 "java/lang/IllegalStateException" ["java/lang/RuntimeException", "java/lang/Exception"]).filter goodWord)
def wsL_tax_r1 : List Cond := [Cond.classLink RL 23 "java/lang/IndexOutOfBoundsException", Cond.classLink RL 15 "java/lang/IllegalArgumentException", Cond.methodLink RL 49 yX6_tax, Cond.instanceMethod yX6_tax, Cond.selects RX6 yX6_tax yX6_tax, Cond.initialized RX6, Cond.code yX6_tax cX6_tax 4 (some .int), Cond.classLink RX6 109 "java/lang/IndexOutOfBoundsException", Cond.initialized "java/lang/IndexOutOfBoundsException", Cond.classLink RX6 93 "java/lang/IllegalArgumentException", Cond.initialized "java/lang/IllegalArgumentException", Cond.fieldLink RX6 58 "Divisionorder" "taxesTold" "[I", Cond.methodLink RX6 125 yX6_isMonth, Cond.instanceMethod yX6_isMonth, Cond.selects RX6 yX6_isMonth yX6_isMonth, Cond.code yX6_isMonth cX6_isMonth 2 (some .boolean), Cond.fieldLink RX6 9 "Divisionorder" "now" "I", Cond.methodLink RX6 227 yX6_taxIn, Cond.instanceMethod yX6_taxIn, Cond.selects RX6 yX6_taxIn yX6_taxIn, Cond.code yX6_taxIn cX6_taxIn 3 (some .int), Cond.methodLink RX6 141 yX6_unsettle, Cond.instanceMethod yX6_unsettle, Cond.selects RX6 yX6_unsettle yX6_unsettle]
def wsL_tax_r2 : List Cond := [Cond.code yX6_unsettle cX6_unsettle 2 none, Cond.fieldLink RX6 75 "Divisionorder" "settledMonths" "I", Cond.methodLink RX6 297 Lib.Math.min.name, Cond.static Lib.Math.min.name, Cond.initialized "java/lang/Math", Cond.code Lib.Math.min.name Lib.Math.min.code 2 (some .int)]
def wsL_tax : List Cond := .codeWith yL_tax cL_tax 4 (some .int) [(0, 6, 7, 23), (0, 6, 11, 15)] :: ((wsL_tax_r1 ++ wsL_tax_r2) ++ wsX60 ++ (vx_atS RX6 113 "java/lang/IndexOutOfBoundsException" ["java/lang/RuntimeException", "java/lang/Exception"]).filter goodWord ++ (vx_atS RX6 97 "java/lang/IllegalArgumentException" ["java/lang/RuntimeException", "java/lang/Exception"]).filter goodWord)
def wsL_consent_r1 : List Cond := [Cond.classLink RL 23 "java/lang/IndexOutOfBoundsException", Cond.methodLink RL 52 yX6_consent, Cond.instanceMethod yX6_consent, Cond.selects RX6 yX6_consent yX6_consent, Cond.initialized RX6, Cond.code yX6_consent cX6_consent 7 (some .boolean), Cond.classLink RX6 109 "java/lang/IndexOutOfBoundsException", Cond.initialized "java/lang/IndexOutOfBoundsException", Cond.fieldLink RX6 233 "Divisionorder$Unit" "refusing" "[I", Cond.fieldLink RX6 9 "Divisionorder" "now" "I", Cond.methodLink RX6 183 yX6_unitAt, Cond.instanceMethod yX6_unitAt, Cond.selects RX6 yX6_unitAt yX6_unitAt, Cond.code yX6_unitAt cX6_unitAt 2 (some (.object "Divisionorder$Unit")), Cond.fieldLink RX6 42 "Divisionorder" "units" "[LDivisionorder$Unit;", Cond.methodLink RX6 105 yX6_isOwner, Cond.static yX6_isOwner, Cond.code yX6_isOwner cX6_isOwner 1 (some .boolean), Cond.methodLink RX6 175 yX6_hasBit, Cond.static yX6_hasBit, Cond.code yX6_hasBit cX6_hasBit 2 (some .boolean), Cond.methodLink RX6 236 yX6_withBit, Cond.static yX6_withBit, Cond.code yX6_withBit cX6_withBit 3 (some .int)]
def wsL_consent_r2 : List Cond := [Cond.methodLink RX6 141 yX6_unsettle, Cond.instanceMethod yX6_unsettle, Cond.selects RX6 yX6_unsettle yX6_unsettle, Cond.code yX6_unsettle cX6_unsettle 2 none, Cond.fieldLink RX6 75 "Divisionorder" "settledMonths" "I", Cond.methodLink RX6 297 Lib.Math.min.name, Cond.static Lib.Math.min.name, Cond.initialized "java/lang/Math", Cond.code Lib.Math.min.name Lib.Math.min.code 2 (some .int)]
def wsL_consent : List Cond := .codeWith yL_consent cL_consent 5 (some .int) [(0, 15, 16, 23)] :: ((wsL_consent_r1 ++ wsL_consent_r2) ++ wsX40 ++ wsX60 ++ (vx_atS RX6 113 "java/lang/IndexOutOfBoundsException" ["java/lang/RuntimeException", "java/lang/Exception"]).filter goodWord)
def wsL_penalty : List Cond := .codeWith yL_penalty cL_penalty 3 (some .int) [(0, 5, 6, 15)] :: ([.classLink RL 15 "java/lang/IllegalArgumentException", .methodLink RL 56 yX6_penalty, .instanceMethod yX6_penalty, .selects RX6 yX6_penalty yX6_penalty, .initialized RX6, .code yX6_penalty cX6_penalty 3 (some .int), .classLink RX6 93 "java/lang/IllegalArgumentException", .initialized "java/lang/IllegalArgumentException", .fieldLink RX6 62 "Divisionorder" "penaltyHundredths" "I", .methodLink RX6 141 yX6_unsettle, .instanceMethod yX6_unsettle, .selects RX6 yX6_unsettle yX6_unsettle, .code yX6_unsettle cX6_unsettle 2 none, .fieldLink RX6 75 "Divisionorder" "settledMonths" "I", .methodLink RX6 297 Lib.Math.min.name, .static Lib.Math.min.name, .initialized "java/lang/Math", .code Lib.Math.min.name Lib.Math.min.code 2 (some .int)] ++ wsX60 ++ (vx_atS RX6 97 "java/lang/IllegalArgumentException" ["java/lang/RuntimeException", "java/lang/Exception"]).filter goodWord)
def wsL_interest_r1 : List Cond := [Cond.classLink RL 23 "java/lang/IndexOutOfBoundsException", Cond.methodLink RL 59 yX6_interest, Cond.instanceMethod yX6_interest, Cond.selects RX6 yX6_interest yX6_interest, Cond.initialized RX6, Cond.code yX6_interest cX6_interest 6 (some .int), Cond.classLink RX6 109 "java/lang/IndexOutOfBoundsException", Cond.initialized "java/lang/IndexOutOfBoundsException", Cond.fieldLink RX6 86 "Divisionorder" "deck" "LDivisionorder$Parting;", Cond.constantLong RX6 250 (100000000), Cond.fieldLink RX6 256 "Divisionorder$Parting" "parts" "[J", Cond.methodLink RX6 240 yX6_unitIn, Cond.instanceMethod yX6_unitIn, Cond.selects RX6 yX6_unitIn yX6_unitIn, Cond.code yX6_unitIn cX6_unitIn 4 (some (.object "Divisionorder$Unit")), Cond.fieldLink RX6 203 "Divisionorder$Unit" "firstMonth" "I", Cond.fieldLink RX6 9 "Divisionorder" "now" "I", Cond.methodLink RX6 183 yX6_unitAt, Cond.instanceMethod yX6_unitAt, Cond.selects RX6 yX6_unitAt yX6_unitAt, Cond.code yX6_unitAt cX6_unitAt 2 (some (.object "Divisionorder$Unit")), Cond.fieldLink RX6 42 "Divisionorder" "units" "[LDivisionorder$Unit;", Cond.methodLink RX6 105 yX6_isOwner, Cond.static yX6_isOwner]
def wsL_interest_r2 : List Cond := [Cond.code yX6_isOwner cX6_isOwner 1 (some .boolean), Cond.methodLink RX6 246 yX6_layDeck, Cond.instanceMethod yX6_layDeck, Cond.selects RX6 yX6_layDeck yX6_layDeck, Cond.code yX6_layDeck cX6_layDeck 7 none, Cond.fieldLink RX6 15 "Divisionorder" "tracts" "[LDivisionorder$Tract;", Cond.fieldLink RX6 179 "Divisionorder$Tract" "unit" "LDivisionorder$Unit;", Cond.methodLink RX6 308 yX2_clear, Cond.instanceMethod yX2_clear, Cond.selects RX2 yX2_clear yX2_clear, Cond.initialized RX2, Cond.code yX2_clear cX2_clear 2 none, Cond.fieldLink RX2 7 "Divisionorder$Parting" "weights" "[J", Cond.methodLink RX6 311 yX6_layTract, Cond.instanceMethod yX6_layTract, Cond.selects RX6 yX6_layTract yX6_layTract, Cond.code yX6_layTract cX6_layTract 7 none, Cond.fieldLink RX6 78 "Divisionorder" "titles" "[I", Cond.fieldLink RX6 318 "Divisionorder$Tract" "acres" "I", Cond.fieldLink RX6 325 "Divisionorder$Parting" "weights" "[J", Cond.constantLong RX6 328 (1000), Cond.fieldLink RX6 330 "Divisionorder$Lease" "royalty" "I", Cond.fieldLink RX6 333 "Divisionorder$Lease" "lessee" "I", Cond.methodLink RX6 315 yX6_readTitles]
def wsL_interest_r3 : List Cond := [Cond.instanceMethod yX6_readTitles, Cond.selects RX6 yX6_readTitles yX6_readTitles, Cond.code yX6_readTitles cX6_readTitles 7 none, Cond.fieldLink RX6 279 "Divisionorder$Tract" "firstOwner" "I", Cond.fieldLink RX6 24 "Divisionorder" "deeds" "[LDivisionorder$Deed;", Cond.fieldLink RX6 282 "Divisionorder$Deed" "tract" "LDivisionorder$Tract;", Cond.fieldLink RX6 286 "Divisionorder$Deed" "month" "I", Cond.fieldLink RX6 294 "Divisionorder$Deed" "from" "I", Cond.fieldLink RX6 292 "Divisionorder$Deed" "parts" "I", Cond.fieldLink RX6 289 "Divisionorder$Deed" "to" "I", Cond.methodLink RX6 321 yX6_leaseThatCounts, Cond.instanceMethod yX6_leaseThatCounts, Cond.selects RX6 yX6_leaseThatCounts yX6_leaseThatCounts, Cond.code yX6_leaseThatCounts cX6_leaseThatCounts 8 (some (.object "Divisionorder$Lease")), Cond.fieldLink RX6 33 "Divisionorder" "leases" "[LDivisionorder$Lease;", Cond.fieldLink RX6 336 "Divisionorder$Lease" "tract" "LDivisionorder$Tract;", Cond.fieldLink RX6 337 "Divisionorder$Lease" "lessor" "I", Cond.methodLink RX6 164 yX1_isInForce, Cond.instanceMethod yX1_isInForce, Cond.selects RX1 yX1_isInForce yX1_isInForce, Cond.initialized RX1, Cond.code yX1_isInForce cX1_isInForce 4 (some .boolean), Cond.fieldLink RX1 9 "Divisionorder$Lease" "firstMonth" "I", Cond.fieldLink RX1 18 "Divisionorder$Lease" "tract" "LDivisionorder$Tract;"]
def wsL_interest_r4 : List Cond := [Cond.fieldLink RX1 31 "Divisionorder$Tract" "unit" "LDivisionorder$Unit;", Cond.fieldLink RX1 15 "Divisionorder$Lease" "lastOfTerm" "I", Cond.fieldLink RX1 37 "Divisionorder$Unit" "barrels" "[I", Cond.methodLink RX6 252 yX2_partOut, Cond.instanceMethod yX2_partOut, Cond.selects RX2 yX2_partOut yX2_partOut, Cond.code yX2_partOut cX2_partOut 10 none, Cond.fieldLink RX2 13 "Divisionorder$Parting" "parts" "[J", Cond.fieldLink RX2 16 "Divisionorder$Parting" "rests" "[J", Cond.methodLink RX2 19 yX2_giveOne, Cond.instanceMethod yX2_giveOne, Cond.selects RX2 yX2_giveOne yX2_giveOne, Cond.code yX2_giveOne cX2_giveOne 3 none, Cond.constantLong RX2 22 (-1)]
def wsL_interest : List Cond := .codeWith yL_interest cL_interest 6 (some .int) [(0, 9, 10, 23)] :: ((wsL_interest_r1 ++ (wsL_interest_r2 ++ (wsL_interest_r3 ++ wsL_interest_r4))) ++ wsX60 ++ wsX20 ++ wsX40 ++ wsX30 ++ wsX10 ++ wsX00 ++ (vx_atS RX6 113 "java/lang/IndexOutOfBoundsException" ["java/lang/RuntimeException", "java/lang/Exception"]).filter goodWord)
def wsL_revenue_r1 : List Cond := [Cond.classLink RL 23 "java/lang/IndexOutOfBoundsException", Cond.methodLink RL 63 yX6_revenue, Cond.instanceMethod yX6_revenue, Cond.selects RX6 yX6_revenue yX6_revenue, Cond.initialized RX6, Cond.code yX6_revenue cX6_revenue 4 (some .int), Cond.classLink RX6 109 "java/lang/IndexOutOfBoundsException", Cond.initialized "java/lang/IndexOutOfBoundsException", Cond.methodLink RX6 240 yX6_unitIn, Cond.instanceMethod yX6_unitIn, Cond.selects RX6 yX6_unitIn yX6_unitIn, Cond.code yX6_unitIn cX6_unitIn 4 (some (.object "Divisionorder$Unit")), Cond.fieldLink RX6 203 "Divisionorder$Unit" "firstMonth" "I", Cond.fieldLink RX6 9 "Divisionorder" "now" "I", Cond.methodLink RX6 183 yX6_unitAt, Cond.instanceMethod yX6_unitAt, Cond.selects RX6 yX6_unitAt yX6_unitAt, Cond.code yX6_unitAt cX6_unitAt 2 (some (.object "Divisionorder$Unit")), Cond.fieldLink RX6 42 "Divisionorder" "units" "[LDivisionorder$Unit;", Cond.methodLink RX6 261 yX6_revenueOf, Cond.instanceMethod yX6_revenueOf, Cond.selects RX6 yX6_revenueOf yX6_revenueOf, Cond.code yX6_revenueOf cX6_revenueOf 5 (some .long), Cond.fieldLink RX6 303 "Divisionorder$Unit" "gross" "[I"]
def wsL_revenue_r2 : List Cond := [Cond.constantLong RX6 306 (100), Cond.methodLink RX6 227 yX6_taxIn, Cond.instanceMethod yX6_taxIn, Cond.selects RX6 yX6_taxIn yX6_taxIn, Cond.code yX6_taxIn cX6_taxIn 3 (some .int), Cond.fieldLink RX6 58 "Divisionorder" "taxesTold" "[I"]
def wsL_revenue : List Cond := .codeWith yL_revenue cL_revenue 4 (some .int) [(0, 6, 7, 23)] :: ((wsL_revenue_r1 ++ wsL_revenue_r2) ++ wsX40 ++ wsX60 ++ (vx_atS RX6 113 "java/lang/IndexOutOfBoundsException" ["java/lang/RuntimeException", "java/lang/Exception"]).filter goodWord)
def wsL_due_r1 : List Cond := [Cond.classLink RL 23 "java/lang/IndexOutOfBoundsException", Cond.constant RL 69 (-2000000001), Cond.methodLink RL 66 yX6_due, Cond.instanceMethod yX6_due, Cond.selects RX6 yX6_due yX6_due, Cond.initialized RX6, Cond.code yX6_due cX6_due 5 (some .int), Cond.classLink RX6 109 "java/lang/IndexOutOfBoundsException", Cond.initialized "java/lang/IndexOutOfBoundsException", Cond.fieldLink RX6 268 "Divisionorder$Unit" "dues" "[J", Cond.methodLink RX6 240 yX6_unitIn, Cond.instanceMethod yX6_unitIn, Cond.selects RX6 yX6_unitIn yX6_unitIn, Cond.code yX6_unitIn cX6_unitIn 4 (some (.object "Divisionorder$Unit")), Cond.fieldLink RX6 203 "Divisionorder$Unit" "firstMonth" "I", Cond.fieldLink RX6 9 "Divisionorder" "now" "I", Cond.methodLink RX6 183 yX6_unitAt, Cond.instanceMethod yX6_unitAt, Cond.selects RX6 yX6_unitAt yX6_unitAt, Cond.code yX6_unitAt cX6_unitAt 2 (some (.object "Divisionorder$Unit")), Cond.fieldLink RX6 42 "Divisionorder" "units" "[LDivisionorder$Unit;", Cond.methodLink RX6 105 yX6_isOwner, Cond.static yX6_isOwner, Cond.code yX6_isOwner cX6_isOwner 1 (some .boolean)]
def wsL_due_r2 : List Cond := [Cond.methodLink RX6 265 yX6_settle, Cond.instanceMethod yX6_settle, Cond.selects RX6 yX6_settle yX6_settle, Cond.code yX6_settle cX6_settle 6 none, Cond.fieldLink RX6 75 "Divisionorder" "settledMonths" "I", Cond.methodLink RX6 340 yX6_settleMonth, Cond.instanceMethod yX6_settleMonth, Cond.selects RX6 yX6_settleMonth yX6_settleMonth, Cond.code yX6_settleMonth cX6_settleMonth 4 none, Cond.fieldLink RX6 303 "Divisionorder$Unit" "gross" "[I", Cond.fieldLink RX6 222 "Divisionorder$Unit" "costs" "[I", Cond.methodLink RX6 343 yX4_openMonth, Cond.instanceMethod yX4_openMonth, Cond.selects RX4 yX4_openMonth yX4_openMonth, Cond.initialized RX4, Cond.code yX4_openMonth cX4_openMonth 5 none, Cond.fieldLink RX4 24 "Divisionorder$Unit" "dues" "[J", Cond.fieldLink RX4 28 "Divisionorder$Unit" "balances" "[J", Cond.fieldLink RX4 31 "Divisionorder$Unit" "firstMonth" "I", Cond.methodLink RX6 246 yX6_layDeck, Cond.instanceMethod yX6_layDeck, Cond.selects RX6 yX6_layDeck yX6_layDeck, Cond.code yX6_layDeck cX6_layDeck 7 none, Cond.fieldLink RX6 86 "Divisionorder" "deck" "LDivisionorder$Parting;"]
def wsL_due_r3 : List Cond := [Cond.fieldLink RX6 15 "Divisionorder" "tracts" "[LDivisionorder$Tract;", Cond.fieldLink RX6 179 "Divisionorder$Tract" "unit" "LDivisionorder$Unit;", Cond.methodLink RX6 308 yX2_clear, Cond.instanceMethod yX2_clear, Cond.selects RX2 yX2_clear yX2_clear, Cond.initialized RX2, Cond.code yX2_clear cX2_clear 2 none, Cond.fieldLink RX2 7 "Divisionorder$Parting" "weights" "[J", Cond.methodLink RX6 311 yX6_layTract, Cond.instanceMethod yX6_layTract, Cond.selects RX6 yX6_layTract yX6_layTract, Cond.code yX6_layTract cX6_layTract 7 none, Cond.fieldLink RX6 78 "Divisionorder" "titles" "[I", Cond.fieldLink RX6 318 "Divisionorder$Tract" "acres" "I", Cond.fieldLink RX6 325 "Divisionorder$Parting" "weights" "[J", Cond.constantLong RX6 328 (1000), Cond.fieldLink RX6 330 "Divisionorder$Lease" "royalty" "I", Cond.fieldLink RX6 333 "Divisionorder$Lease" "lessee" "I", Cond.methodLink RX6 315 yX6_readTitles, Cond.instanceMethod yX6_readTitles, Cond.selects RX6 yX6_readTitles yX6_readTitles, Cond.code yX6_readTitles cX6_readTitles 7 none, Cond.fieldLink RX6 279 "Divisionorder$Tract" "firstOwner" "I", Cond.fieldLink RX6 24 "Divisionorder" "deeds" "[LDivisionorder$Deed;"]
def wsL_due_r4 : List Cond := [Cond.fieldLink RX6 282 "Divisionorder$Deed" "tract" "LDivisionorder$Tract;", Cond.fieldLink RX6 286 "Divisionorder$Deed" "month" "I", Cond.fieldLink RX6 294 "Divisionorder$Deed" "from" "I", Cond.fieldLink RX6 292 "Divisionorder$Deed" "parts" "I", Cond.fieldLink RX6 289 "Divisionorder$Deed" "to" "I", Cond.methodLink RX6 321 yX6_leaseThatCounts, Cond.instanceMethod yX6_leaseThatCounts, Cond.selects RX6 yX6_leaseThatCounts yX6_leaseThatCounts, Cond.code yX6_leaseThatCounts cX6_leaseThatCounts 8 (some (.object "Divisionorder$Lease")), Cond.fieldLink RX6 33 "Divisionorder" "leases" "[LDivisionorder$Lease;", Cond.fieldLink RX6 336 "Divisionorder$Lease" "tract" "LDivisionorder$Tract;", Cond.fieldLink RX6 337 "Divisionorder$Lease" "lessor" "I", Cond.methodLink RX6 164 yX1_isInForce, Cond.instanceMethod yX1_isInForce, Cond.selects RX1 yX1_isInForce yX1_isInForce, Cond.initialized RX1, Cond.code yX1_isInForce cX1_isInForce 4 (some .boolean), Cond.fieldLink RX1 9 "Divisionorder$Lease" "firstMonth" "I", Cond.fieldLink RX1 18 "Divisionorder$Lease" "tract" "LDivisionorder$Tract;", Cond.fieldLink RX1 31 "Divisionorder$Tract" "unit" "LDivisionorder$Unit;", Cond.fieldLink RX1 15 "Divisionorder$Lease" "lastOfTerm" "I", Cond.fieldLink RX1 37 "Divisionorder$Unit" "barrels" "[I", Cond.methodLink RX6 346 yX6_carriedOwners, Cond.instanceMethod yX6_carriedOwners]
def wsL_due_r5 : List Cond := [Cond.selects RX6 yX6_carriedOwners yX6_carriedOwners, Cond.code yX6_carriedOwners cX6_carriedOwners 7 (some .int), Cond.fieldLink RX6 233 "Divisionorder$Unit" "refusing" "[I", Cond.fieldLink RX6 271 "Divisionorder$Unit" "balances" "[J", Cond.methodLink RX6 175 yX6_hasBit, Cond.static yX6_hasBit, Cond.code yX6_hasBit cX6_hasBit 2 (some .boolean), Cond.methodLink RX6 236 yX6_withBit, Cond.static yX6_withBit, Cond.code yX6_withBit cX6_withBit 3 (some .int), Cond.methodLink RX6 350 yX6_bookCosts, Cond.instanceMethod yX6_bookCosts, Cond.selects RX6 yX6_bookCosts yX6_bookCosts, Cond.code yX6_bookCosts cX6_bookCosts 6 none, Cond.fieldLink RX6 90 "Divisionorder" "sharers" "LDivisionorder$Parting;", Cond.fieldLink RX6 256 "Divisionorder$Parting" "parts" "[J", Cond.fieldLink RX6 62 "Divisionorder" "penaltyHundredths" "I", Cond.constantLong RX6 306 (100), Cond.methodLink RX6 357 yX6_partByWorking, Cond.instanceMethod yX6_partByWorking, Cond.selects RX6 yX6_partByWorking yX6_partByWorking, Cond.code yX6_partByWorking cX6_partByWorking 5 none, Cond.methodLink RX6 252 yX2_partOut, Cond.instanceMethod yX2_partOut]
def wsL_due_r6 : List Cond := [Cond.selects RX2 yX2_partOut yX2_partOut, Cond.code yX2_partOut cX2_partOut 10 none, Cond.fieldLink RX2 13 "Divisionorder$Parting" "parts" "[J", Cond.fieldLink RX2 16 "Divisionorder$Parting" "rests" "[J", Cond.methodLink RX2 19 yX2_giveOne, Cond.instanceMethod yX2_giveOne, Cond.selects RX2 yX2_giveOne yX2_giveOne, Cond.code yX2_giveOne cX2_giveOne 3 none, Cond.constantLong RX2 22 (-1), Cond.methodLink RX6 354 yX6_bookRevenue, Cond.instanceMethod yX6_bookRevenue, Cond.selects RX6 yX6_bookRevenue yX6_bookRevenue, Cond.code yX6_bookRevenue cX6_bookRevenue 12 none, Cond.methodLink RX6 361 Lib.MathLoose.min_long.x, Cond.static Lib.MathLoose.min_long.x, Cond.initialized "java/lang/Math", Cond.code Lib.MathLoose.min_long.x Lib.MathLoose.min_long.code 4 (some .long), Cond.methodLink RX6 261 yX6_revenueOf, Cond.instanceMethod yX6_revenueOf, Cond.selects RX6 yX6_revenueOf yX6_revenueOf, Cond.code yX6_revenueOf cX6_revenueOf 5 (some .long), Cond.methodLink RX6 227 yX6_taxIn, Cond.instanceMethod yX6_taxIn, Cond.selects RX6 yX6_taxIn yX6_taxIn]
def wsL_due_r7 : List Cond := [Cond.code yX6_taxIn cX6_taxIn 3 (some .int), Cond.fieldLink RX6 58 "Divisionorder" "taxesTold" "[I"]
def wsL_due : List Cond := .codeWith yL_due cL_due 5 (some .int) [(0, 7, 8, 23)] :: ((wsL_due_r1 ++ (wsL_due_r2 ++ (wsL_due_r3 ++ (wsL_due_r4 ++ (wsL_due_r5 ++ (wsL_due_r6 ++ wsL_due_r7)))))) ++ wsX40 ++ wsX60 ++ wsX30 ++ wsX20 ++ wsX10 ++ wsX00 ++ (vx_atS RX6 113 "java/lang/IndexOutOfBoundsException" ["java/lang/RuntimeException", "java/lang/Exception"]).filter goodWord)
def wsL_balance_r1 : List Cond := [Cond.classLink RL 23 "java/lang/IndexOutOfBoundsException", Cond.constantLong RL 74 (-101), Cond.methodLink RL 70 yX6_balance, Cond.instanceMethod yX6_balance, Cond.selects RX6 yX6_balance yX6_balance, Cond.initialized RX6, Cond.code yX6_balance cX6_balance 5 (some .long), Cond.classLink RX6 109 "java/lang/IndexOutOfBoundsException", Cond.initialized "java/lang/IndexOutOfBoundsException", Cond.fieldLink RX6 271 "Divisionorder$Unit" "balances" "[J", Cond.methodLink RX6 240 yX6_unitIn, Cond.instanceMethod yX6_unitIn, Cond.selects RX6 yX6_unitIn yX6_unitIn, Cond.code yX6_unitIn cX6_unitIn 4 (some (.object "Divisionorder$Unit")), Cond.fieldLink RX6 203 "Divisionorder$Unit" "firstMonth" "I", Cond.fieldLink RX6 9 "Divisionorder" "now" "I", Cond.methodLink RX6 183 yX6_unitAt, Cond.instanceMethod yX6_unitAt, Cond.selects RX6 yX6_unitAt yX6_unitAt, Cond.code yX6_unitAt cX6_unitAt 2 (some (.object "Divisionorder$Unit")), Cond.fieldLink RX6 42 "Divisionorder" "units" "[LDivisionorder$Unit;", Cond.methodLink RX6 105 yX6_isOwner, Cond.static yX6_isOwner, Cond.code yX6_isOwner cX6_isOwner 1 (some .boolean)]
def wsL_balance_r2 : List Cond := [Cond.methodLink RX6 265 yX6_settle, Cond.instanceMethod yX6_settle, Cond.selects RX6 yX6_settle yX6_settle, Cond.code yX6_settle cX6_settle 6 none, Cond.fieldLink RX6 75 "Divisionorder" "settledMonths" "I", Cond.methodLink RX6 340 yX6_settleMonth, Cond.instanceMethod yX6_settleMonth, Cond.selects RX6 yX6_settleMonth yX6_settleMonth, Cond.code yX6_settleMonth cX6_settleMonth 4 none, Cond.fieldLink RX6 303 "Divisionorder$Unit" "gross" "[I", Cond.fieldLink RX6 222 "Divisionorder$Unit" "costs" "[I", Cond.methodLink RX6 343 yX4_openMonth, Cond.instanceMethod yX4_openMonth, Cond.selects RX4 yX4_openMonth yX4_openMonth, Cond.initialized RX4, Cond.code yX4_openMonth cX4_openMonth 5 none, Cond.fieldLink RX4 24 "Divisionorder$Unit" "dues" "[J", Cond.fieldLink RX4 28 "Divisionorder$Unit" "balances" "[J", Cond.fieldLink RX4 31 "Divisionorder$Unit" "firstMonth" "I", Cond.methodLink RX6 246 yX6_layDeck, Cond.instanceMethod yX6_layDeck, Cond.selects RX6 yX6_layDeck yX6_layDeck, Cond.code yX6_layDeck cX6_layDeck 7 none, Cond.fieldLink RX6 86 "Divisionorder" "deck" "LDivisionorder$Parting;"]
def wsL_balance_r3 : List Cond := [Cond.fieldLink RX6 15 "Divisionorder" "tracts" "[LDivisionorder$Tract;", Cond.fieldLink RX6 179 "Divisionorder$Tract" "unit" "LDivisionorder$Unit;", Cond.methodLink RX6 308 yX2_clear, Cond.instanceMethod yX2_clear, Cond.selects RX2 yX2_clear yX2_clear, Cond.initialized RX2, Cond.code yX2_clear cX2_clear 2 none, Cond.fieldLink RX2 7 "Divisionorder$Parting" "weights" "[J", Cond.methodLink RX6 311 yX6_layTract, Cond.instanceMethod yX6_layTract, Cond.selects RX6 yX6_layTract yX6_layTract, Cond.code yX6_layTract cX6_layTract 7 none, Cond.fieldLink RX6 78 "Divisionorder" "titles" "[I", Cond.fieldLink RX6 318 "Divisionorder$Tract" "acres" "I", Cond.fieldLink RX6 325 "Divisionorder$Parting" "weights" "[J", Cond.constantLong RX6 328 (1000), Cond.fieldLink RX6 330 "Divisionorder$Lease" "royalty" "I", Cond.fieldLink RX6 333 "Divisionorder$Lease" "lessee" "I", Cond.methodLink RX6 315 yX6_readTitles, Cond.instanceMethod yX6_readTitles, Cond.selects RX6 yX6_readTitles yX6_readTitles, Cond.code yX6_readTitles cX6_readTitles 7 none, Cond.fieldLink RX6 279 "Divisionorder$Tract" "firstOwner" "I", Cond.fieldLink RX6 24 "Divisionorder" "deeds" "[LDivisionorder$Deed;"]
def wsL_balance_r4 : List Cond := [Cond.fieldLink RX6 282 "Divisionorder$Deed" "tract" "LDivisionorder$Tract;", Cond.fieldLink RX6 286 "Divisionorder$Deed" "month" "I", Cond.fieldLink RX6 294 "Divisionorder$Deed" "from" "I", Cond.fieldLink RX6 292 "Divisionorder$Deed" "parts" "I", Cond.fieldLink RX6 289 "Divisionorder$Deed" "to" "I", Cond.methodLink RX6 321 yX6_leaseThatCounts, Cond.instanceMethod yX6_leaseThatCounts, Cond.selects RX6 yX6_leaseThatCounts yX6_leaseThatCounts, Cond.code yX6_leaseThatCounts cX6_leaseThatCounts 8 (some (.object "Divisionorder$Lease")), Cond.fieldLink RX6 33 "Divisionorder" "leases" "[LDivisionorder$Lease;", Cond.fieldLink RX6 336 "Divisionorder$Lease" "tract" "LDivisionorder$Tract;", Cond.fieldLink RX6 337 "Divisionorder$Lease" "lessor" "I", Cond.methodLink RX6 164 yX1_isInForce, Cond.instanceMethod yX1_isInForce, Cond.selects RX1 yX1_isInForce yX1_isInForce, Cond.initialized RX1, Cond.code yX1_isInForce cX1_isInForce 4 (some .boolean), Cond.fieldLink RX1 9 "Divisionorder$Lease" "firstMonth" "I", Cond.fieldLink RX1 18 "Divisionorder$Lease" "tract" "LDivisionorder$Tract;", Cond.fieldLink RX1 31 "Divisionorder$Tract" "unit" "LDivisionorder$Unit;", Cond.fieldLink RX1 15 "Divisionorder$Lease" "lastOfTerm" "I", Cond.fieldLink RX1 37 "Divisionorder$Unit" "barrels" "[I", Cond.methodLink RX6 346 yX6_carriedOwners, Cond.instanceMethod yX6_carriedOwners]
def wsL_balance_r5 : List Cond := [Cond.selects RX6 yX6_carriedOwners yX6_carriedOwners, Cond.code yX6_carriedOwners cX6_carriedOwners 7 (some .int), Cond.fieldLink RX6 233 "Divisionorder$Unit" "refusing" "[I", Cond.methodLink RX6 175 yX6_hasBit, Cond.static yX6_hasBit, Cond.code yX6_hasBit cX6_hasBit 2 (some .boolean), Cond.methodLink RX6 236 yX6_withBit, Cond.static yX6_withBit, Cond.code yX6_withBit cX6_withBit 3 (some .int), Cond.methodLink RX6 350 yX6_bookCosts, Cond.instanceMethod yX6_bookCosts, Cond.selects RX6 yX6_bookCosts yX6_bookCosts, Cond.code yX6_bookCosts cX6_bookCosts 6 none, Cond.fieldLink RX6 90 "Divisionorder" "sharers" "LDivisionorder$Parting;", Cond.fieldLink RX6 256 "Divisionorder$Parting" "parts" "[J", Cond.fieldLink RX6 62 "Divisionorder" "penaltyHundredths" "I", Cond.constantLong RX6 306 (100), Cond.fieldLink RX6 268 "Divisionorder$Unit" "dues" "[J", Cond.methodLink RX6 357 yX6_partByWorking, Cond.instanceMethod yX6_partByWorking, Cond.selects RX6 yX6_partByWorking yX6_partByWorking, Cond.code yX6_partByWorking cX6_partByWorking 5 none, Cond.methodLink RX6 252 yX2_partOut, Cond.instanceMethod yX2_partOut]
def wsL_balance_r6 : List Cond := [Cond.selects RX2 yX2_partOut yX2_partOut, Cond.code yX2_partOut cX2_partOut 10 none, Cond.fieldLink RX2 13 "Divisionorder$Parting" "parts" "[J", Cond.fieldLink RX2 16 "Divisionorder$Parting" "rests" "[J", Cond.methodLink RX2 19 yX2_giveOne, Cond.instanceMethod yX2_giveOne, Cond.selects RX2 yX2_giveOne yX2_giveOne, Cond.code yX2_giveOne cX2_giveOne 3 none, Cond.constantLong RX2 22 (-1), Cond.methodLink RX6 354 yX6_bookRevenue, Cond.instanceMethod yX6_bookRevenue, Cond.selects RX6 yX6_bookRevenue yX6_bookRevenue, Cond.code yX6_bookRevenue cX6_bookRevenue 12 none, Cond.methodLink RX6 361 Lib.MathLoose.min_long.x, Cond.static Lib.MathLoose.min_long.x, Cond.initialized "java/lang/Math", Cond.code Lib.MathLoose.min_long.x Lib.MathLoose.min_long.code 4 (some .long), Cond.methodLink RX6 261 yX6_revenueOf, Cond.instanceMethod yX6_revenueOf, Cond.selects RX6 yX6_revenueOf yX6_revenueOf, Cond.code yX6_revenueOf cX6_revenueOf 5 (some .long), Cond.methodLink RX6 227 yX6_taxIn, Cond.instanceMethod yX6_taxIn, Cond.selects RX6 yX6_taxIn yX6_taxIn]
def wsL_balance_r7 : List Cond := [Cond.code yX6_taxIn cX6_taxIn 3 (some .int), Cond.fieldLink RX6 58 "Divisionorder" "taxesTold" "[I"]
def wsL_balance : List Cond := .codeWith yL_balance cL_balance 5 (some .long) [(0, 7, 8, 23)] :: ((wsL_balance_r1 ++ (wsL_balance_r2 ++ (wsL_balance_r3 ++ (wsL_balance_r4 ++ (wsL_balance_r5 ++ (wsL_balance_r6 ++ wsL_balance_r7)))))) ++ wsX40 ++ wsX60 ++ wsX30 ++ wsX20 ++ wsX10 ++ wsX00 ++ (vx_atS RX6 113 "java/lang/IndexOutOfBoundsException" ["java/lang/RuntimeException", "java/lang/Exception"]).filter goodWord)
def wsL_agrees_r1 : List Cond := [Cond.classLink RL 23 "java/lang/IndexOutOfBoundsException", Cond.methodLink RL 76 yX6_agrees, Cond.instanceMethod yX6_agrees, Cond.selects RX6 yX6_agrees yX6_agrees, Cond.initialized RX6, Cond.code yX6_agrees cX6_agrees 7 (some .boolean), Cond.classLink RX6 109 "java/lang/IndexOutOfBoundsException", Cond.initialized "java/lang/IndexOutOfBoundsException", Cond.fieldLink RX6 268 "Divisionorder$Unit" "dues" "[J", Cond.fieldLink RX6 222 "Divisionorder$Unit" "costs" "[I", Cond.methodLink RX6 240 yX6_unitIn, Cond.instanceMethod yX6_unitIn, Cond.selects RX6 yX6_unitIn yX6_unitIn, Cond.code yX6_unitIn cX6_unitIn 4 (some (.object "Divisionorder$Unit")), Cond.fieldLink RX6 203 "Divisionorder$Unit" "firstMonth" "I", Cond.fieldLink RX6 9 "Divisionorder" "now" "I", Cond.methodLink RX6 183 yX6_unitAt, Cond.instanceMethod yX6_unitAt, Cond.selects RX6 yX6_unitAt yX6_unitAt, Cond.code yX6_unitAt cX6_unitAt 2 (some (.object "Divisionorder$Unit")), Cond.fieldLink RX6 42 "Divisionorder" "units" "[LDivisionorder$Unit;", Cond.methodLink RX6 265 yX6_settle, Cond.instanceMethod yX6_settle, Cond.selects RX6 yX6_settle yX6_settle]
def wsL_agrees_r2 : List Cond := [Cond.code yX6_settle cX6_settle 6 none, Cond.fieldLink RX6 75 "Divisionorder" "settledMonths" "I", Cond.methodLink RX6 340 yX6_settleMonth, Cond.instanceMethod yX6_settleMonth, Cond.selects RX6 yX6_settleMonth yX6_settleMonth, Cond.code yX6_settleMonth cX6_settleMonth 4 none, Cond.fieldLink RX6 303 "Divisionorder$Unit" "gross" "[I", Cond.methodLink RX6 343 yX4_openMonth, Cond.instanceMethod yX4_openMonth, Cond.selects RX4 yX4_openMonth yX4_openMonth, Cond.initialized RX4, Cond.code yX4_openMonth cX4_openMonth 5 none, Cond.fieldLink RX4 24 "Divisionorder$Unit" "dues" "[J", Cond.fieldLink RX4 28 "Divisionorder$Unit" "balances" "[J", Cond.fieldLink RX4 31 "Divisionorder$Unit" "firstMonth" "I", Cond.methodLink RX6 246 yX6_layDeck, Cond.instanceMethod yX6_layDeck, Cond.selects RX6 yX6_layDeck yX6_layDeck, Cond.code yX6_layDeck cX6_layDeck 7 none, Cond.fieldLink RX6 86 "Divisionorder" "deck" "LDivisionorder$Parting;", Cond.fieldLink RX6 15 "Divisionorder" "tracts" "[LDivisionorder$Tract;", Cond.fieldLink RX6 179 "Divisionorder$Tract" "unit" "LDivisionorder$Unit;", Cond.methodLink RX6 308 yX2_clear, Cond.instanceMethod yX2_clear]
def wsL_agrees_r3 : List Cond := [Cond.selects RX2 yX2_clear yX2_clear, Cond.initialized RX2, Cond.code yX2_clear cX2_clear 2 none, Cond.fieldLink RX2 7 "Divisionorder$Parting" "weights" "[J", Cond.methodLink RX6 311 yX6_layTract, Cond.instanceMethod yX6_layTract, Cond.selects RX6 yX6_layTract yX6_layTract, Cond.code yX6_layTract cX6_layTract 7 none, Cond.fieldLink RX6 78 "Divisionorder" "titles" "[I", Cond.fieldLink RX6 318 "Divisionorder$Tract" "acres" "I", Cond.fieldLink RX6 325 "Divisionorder$Parting" "weights" "[J", Cond.constantLong RX6 328 (1000), Cond.fieldLink RX6 330 "Divisionorder$Lease" "royalty" "I", Cond.fieldLink RX6 333 "Divisionorder$Lease" "lessee" "I", Cond.methodLink RX6 315 yX6_readTitles, Cond.instanceMethod yX6_readTitles, Cond.selects RX6 yX6_readTitles yX6_readTitles, Cond.code yX6_readTitles cX6_readTitles 7 none, Cond.fieldLink RX6 279 "Divisionorder$Tract" "firstOwner" "I", Cond.fieldLink RX6 24 "Divisionorder" "deeds" "[LDivisionorder$Deed;", Cond.fieldLink RX6 282 "Divisionorder$Deed" "tract" "LDivisionorder$Tract;", Cond.fieldLink RX6 286 "Divisionorder$Deed" "month" "I", Cond.fieldLink RX6 294 "Divisionorder$Deed" "from" "I", Cond.fieldLink RX6 292 "Divisionorder$Deed" "parts" "I"]
def wsL_agrees_r4 : List Cond := [Cond.fieldLink RX6 289 "Divisionorder$Deed" "to" "I", Cond.methodLink RX6 321 yX6_leaseThatCounts, Cond.instanceMethod yX6_leaseThatCounts, Cond.selects RX6 yX6_leaseThatCounts yX6_leaseThatCounts, Cond.code yX6_leaseThatCounts cX6_leaseThatCounts 8 (some (.object "Divisionorder$Lease")), Cond.fieldLink RX6 33 "Divisionorder" "leases" "[LDivisionorder$Lease;", Cond.fieldLink RX6 336 "Divisionorder$Lease" "tract" "LDivisionorder$Tract;", Cond.fieldLink RX6 337 "Divisionorder$Lease" "lessor" "I", Cond.methodLink RX6 164 yX1_isInForce, Cond.instanceMethod yX1_isInForce, Cond.selects RX1 yX1_isInForce yX1_isInForce, Cond.initialized RX1, Cond.code yX1_isInForce cX1_isInForce 4 (some .boolean), Cond.fieldLink RX1 9 "Divisionorder$Lease" "firstMonth" "I", Cond.fieldLink RX1 18 "Divisionorder$Lease" "tract" "LDivisionorder$Tract;", Cond.fieldLink RX1 31 "Divisionorder$Tract" "unit" "LDivisionorder$Unit;", Cond.fieldLink RX1 15 "Divisionorder$Lease" "lastOfTerm" "I", Cond.fieldLink RX1 37 "Divisionorder$Unit" "barrels" "[I", Cond.methodLink RX6 346 yX6_carriedOwners, Cond.instanceMethod yX6_carriedOwners, Cond.selects RX6 yX6_carriedOwners yX6_carriedOwners, Cond.code yX6_carriedOwners cX6_carriedOwners 7 (some .int), Cond.fieldLink RX6 233 "Divisionorder$Unit" "refusing" "[I", Cond.fieldLink RX6 271 "Divisionorder$Unit" "balances" "[J"]
def wsL_agrees_r5 : List Cond := [Cond.methodLink RX6 175 yX6_hasBit, Cond.static yX6_hasBit, Cond.code yX6_hasBit cX6_hasBit 2 (some .boolean), Cond.methodLink RX6 236 yX6_withBit, Cond.static yX6_withBit, Cond.code yX6_withBit cX6_withBit 3 (some .int), Cond.methodLink RX6 350 yX6_bookCosts, Cond.instanceMethod yX6_bookCosts, Cond.selects RX6 yX6_bookCosts yX6_bookCosts, Cond.code yX6_bookCosts cX6_bookCosts 6 none, Cond.fieldLink RX6 90 "Divisionorder" "sharers" "LDivisionorder$Parting;", Cond.fieldLink RX6 256 "Divisionorder$Parting" "parts" "[J", Cond.fieldLink RX6 62 "Divisionorder" "penaltyHundredths" "I", Cond.constantLong RX6 306 (100), Cond.methodLink RX6 357 yX6_partByWorking, Cond.instanceMethod yX6_partByWorking, Cond.selects RX6 yX6_partByWorking yX6_partByWorking, Cond.code yX6_partByWorking cX6_partByWorking 5 none, Cond.methodLink RX6 252 yX2_partOut, Cond.instanceMethod yX2_partOut, Cond.selects RX2 yX2_partOut yX2_partOut, Cond.code yX2_partOut cX2_partOut 10 none, Cond.fieldLink RX2 13 "Divisionorder$Parting" "parts" "[J", Cond.fieldLink RX2 16 "Divisionorder$Parting" "rests" "[J"]
def wsL_agrees_r6 : List Cond := [Cond.methodLink RX2 19 yX2_giveOne, Cond.instanceMethod yX2_giveOne, Cond.selects RX2 yX2_giveOne yX2_giveOne, Cond.code yX2_giveOne cX2_giveOne 3 none, Cond.constantLong RX2 22 (-1), Cond.methodLink RX6 354 yX6_bookRevenue, Cond.instanceMethod yX6_bookRevenue, Cond.selects RX6 yX6_bookRevenue yX6_bookRevenue, Cond.code yX6_bookRevenue cX6_bookRevenue 12 none, Cond.methodLink RX6 361 Lib.MathLoose.min_long.x, Cond.static Lib.MathLoose.min_long.x, Cond.initialized "java/lang/Math", Cond.code Lib.MathLoose.min_long.x Lib.MathLoose.min_long.code 4 (some .long), Cond.methodLink RX6 261 yX6_revenueOf, Cond.instanceMethod yX6_revenueOf, Cond.selects RX6 yX6_revenueOf yX6_revenueOf, Cond.code yX6_revenueOf cX6_revenueOf 5 (some .long), Cond.methodLink RX6 227 yX6_taxIn, Cond.instanceMethod yX6_taxIn, Cond.selects RX6 yX6_taxIn yX6_taxIn, Cond.code yX6_taxIn cX6_taxIn 3 (some .int), Cond.fieldLink RX6 58 "Divisionorder" "taxesTold" "[I"]
def wsL_agrees : List Cond := .codeWith yL_agrees cL_agrees 4 (some .int) [(0, 14, 15, 23)] :: ((wsL_agrees_r1 ++ (wsL_agrees_r2 ++ (wsL_agrees_r3 ++ (wsL_agrees_r4 ++ (wsL_agrees_r5 ++ wsL_agrees_r6))))) ++ wsX40 ++ wsX60 ++ wsX30 ++ wsX20 ++ wsX10 ++ wsX00 ++ (vx_atS RX6 113 "java/lang/IndexOutOfBoundsException" ["java/lang/RuntimeException", "java/lang/Exception"]).filter goodWord)
def wsL_suspend : List Cond := .codeWith yL_suspend cL_suspend 4 (some .int) [(0, 14, 15, 23)] :: ([.classLink RL 23 "java/lang/IndexOutOfBoundsException", .methodLink RL 80 yX6_suspend, .instanceMethod yX6_suspend, .selects RX6 yX6_suspend yX6_suspend, .initialized RX6, .code yX6_suspend cX6_suspend 4 (some .boolean), .classLink RX6 109 "java/lang/IndexOutOfBoundsException", .initialized "java/lang/IndexOutOfBoundsException", .fieldLink RX6 65 "Divisionorder" "suspendedOwners" "I", .methodLink RX6 105 yX6_isOwner, .static yX6_isOwner, .code yX6_isOwner cX6_isOwner 1 (some .boolean), .methodLink RX6 175 yX6_hasBit, .static yX6_hasBit, .code yX6_hasBit cX6_hasBit 2 (some .boolean), .methodLink RX6 236 yX6_withBit, .static yX6_withBit, .code yX6_withBit cX6_withBit 3 (some .int)] ++ wsX60 ++ (vx_atS RX6 113 "java/lang/IndexOutOfBoundsException" ["java/lang/RuntimeException", "java/lang/Exception"]).filter goodWord)
def wsL_least : List Cond := .codeWith yL_least cL_least 3 (some .int) [(0, 5, 6, 15)] :: ([.classLink RL 15 "java/lang/IllegalArgumentException", .methodLink RL 84 yX6_least, .instanceMethod yX6_least, .selects RX6 yX6_least yX6_least, .initialized RX6, .code yX6_least cX6_least 3 (some .int), .classLink RX6 93 "java/lang/IllegalArgumentException", .initialized "java/lang/IllegalArgumentException", .constant RX6 274 (100000), .fieldLink RX6 68 "Divisionorder" "leastCheque" "I"] ++ wsX60 ++ (vx_atS RX6 97 "java/lang/IllegalArgumentException" ["java/lang/RuntimeException", "java/lang/Exception"]).filter goodWord)
def wsL_owed_r1 : List Cond := [Cond.classLink RL 23 "java/lang/IndexOutOfBoundsException", Cond.constantLong RL 91 (-1000000000001), Cond.methodLink RL 87 yX6_owed, Cond.instanceMethod yX6_owed, Cond.selects RX6 yX6_owed yX6_owed, Cond.initialized RX6, Cond.code yX6_owed cX6_owed 2 (some .long), Cond.classLink RX6 109 "java/lang/IndexOutOfBoundsException", Cond.initialized "java/lang/IndexOutOfBoundsException", Cond.methodLink RX6 105 yX6_isOwner, Cond.static yX6_isOwner, Cond.code yX6_isOwner cX6_isOwner 1 (some .boolean), Cond.methodLink RX6 265 yX6_settle, Cond.instanceMethod yX6_settle, Cond.selects RX6 yX6_settle yX6_settle, Cond.code yX6_settle cX6_settle 6 none, Cond.fieldLink RX6 75 "Divisionorder" "settledMonths" "I", Cond.fieldLink RX6 9 "Divisionorder" "now" "I", Cond.fieldLink RX6 42 "Divisionorder" "units" "[LDivisionorder$Unit;", Cond.fieldLink RX6 203 "Divisionorder$Unit" "firstMonth" "I", Cond.methodLink RX6 340 yX6_settleMonth, Cond.instanceMethod yX6_settleMonth, Cond.selects RX6 yX6_settleMonth yX6_settleMonth, Cond.code yX6_settleMonth cX6_settleMonth 4 none]
def wsL_owed_r2 : List Cond := [Cond.fieldLink RX6 303 "Divisionorder$Unit" "gross" "[I", Cond.fieldLink RX6 222 "Divisionorder$Unit" "costs" "[I", Cond.methodLink RX6 343 yX4_openMonth, Cond.instanceMethod yX4_openMonth, Cond.selects RX4 yX4_openMonth yX4_openMonth, Cond.initialized RX4, Cond.code yX4_openMonth cX4_openMonth 5 none, Cond.fieldLink RX4 24 "Divisionorder$Unit" "dues" "[J", Cond.fieldLink RX4 28 "Divisionorder$Unit" "balances" "[J", Cond.fieldLink RX4 31 "Divisionorder$Unit" "firstMonth" "I", Cond.methodLink RX6 246 yX6_layDeck, Cond.instanceMethod yX6_layDeck, Cond.selects RX6 yX6_layDeck yX6_layDeck, Cond.code yX6_layDeck cX6_layDeck 7 none, Cond.fieldLink RX6 86 "Divisionorder" "deck" "LDivisionorder$Parting;", Cond.fieldLink RX6 15 "Divisionorder" "tracts" "[LDivisionorder$Tract;", Cond.fieldLink RX6 179 "Divisionorder$Tract" "unit" "LDivisionorder$Unit;", Cond.methodLink RX6 308 yX2_clear, Cond.instanceMethod yX2_clear, Cond.selects RX2 yX2_clear yX2_clear, Cond.initialized RX2, Cond.code yX2_clear cX2_clear 2 none, Cond.fieldLink RX2 7 "Divisionorder$Parting" "weights" "[J", Cond.methodLink RX6 311 yX6_layTract]
def wsL_owed_r3 : List Cond := [Cond.instanceMethod yX6_layTract, Cond.selects RX6 yX6_layTract yX6_layTract, Cond.code yX6_layTract cX6_layTract 7 none, Cond.fieldLink RX6 78 "Divisionorder" "titles" "[I", Cond.fieldLink RX6 318 "Divisionorder$Tract" "acres" "I", Cond.fieldLink RX6 325 "Divisionorder$Parting" "weights" "[J", Cond.constantLong RX6 328 (1000), Cond.fieldLink RX6 330 "Divisionorder$Lease" "royalty" "I", Cond.fieldLink RX6 333 "Divisionorder$Lease" "lessee" "I", Cond.methodLink RX6 315 yX6_readTitles, Cond.instanceMethod yX6_readTitles, Cond.selects RX6 yX6_readTitles yX6_readTitles, Cond.code yX6_readTitles cX6_readTitles 7 none, Cond.fieldLink RX6 279 "Divisionorder$Tract" "firstOwner" "I", Cond.fieldLink RX6 24 "Divisionorder" "deeds" "[LDivisionorder$Deed;", Cond.fieldLink RX6 282 "Divisionorder$Deed" "tract" "LDivisionorder$Tract;", Cond.fieldLink RX6 286 "Divisionorder$Deed" "month" "I", Cond.fieldLink RX6 294 "Divisionorder$Deed" "from" "I", Cond.fieldLink RX6 292 "Divisionorder$Deed" "parts" "I", Cond.fieldLink RX6 289 "Divisionorder$Deed" "to" "I", Cond.methodLink RX6 321 yX6_leaseThatCounts, Cond.instanceMethod yX6_leaseThatCounts, Cond.selects RX6 yX6_leaseThatCounts yX6_leaseThatCounts, Cond.code yX6_leaseThatCounts cX6_leaseThatCounts 8 (some (.object "Divisionorder$Lease"))]
def wsL_owed_r4 : List Cond := [Cond.fieldLink RX6 33 "Divisionorder" "leases" "[LDivisionorder$Lease;", Cond.fieldLink RX6 336 "Divisionorder$Lease" "tract" "LDivisionorder$Tract;", Cond.fieldLink RX6 337 "Divisionorder$Lease" "lessor" "I", Cond.methodLink RX6 164 yX1_isInForce, Cond.instanceMethod yX1_isInForce, Cond.selects RX1 yX1_isInForce yX1_isInForce, Cond.initialized RX1, Cond.code yX1_isInForce cX1_isInForce 4 (some .boolean), Cond.fieldLink RX1 9 "Divisionorder$Lease" "firstMonth" "I", Cond.fieldLink RX1 18 "Divisionorder$Lease" "tract" "LDivisionorder$Tract;", Cond.fieldLink RX1 31 "Divisionorder$Tract" "unit" "LDivisionorder$Unit;", Cond.fieldLink RX1 15 "Divisionorder$Lease" "lastOfTerm" "I", Cond.fieldLink RX1 37 "Divisionorder$Unit" "barrels" "[I", Cond.methodLink RX6 346 yX6_carriedOwners, Cond.instanceMethod yX6_carriedOwners, Cond.selects RX6 yX6_carriedOwners yX6_carriedOwners, Cond.code yX6_carriedOwners cX6_carriedOwners 7 (some .int), Cond.fieldLink RX6 233 "Divisionorder$Unit" "refusing" "[I", Cond.fieldLink RX6 271 "Divisionorder$Unit" "balances" "[J", Cond.methodLink RX6 175 yX6_hasBit, Cond.static yX6_hasBit, Cond.code yX6_hasBit cX6_hasBit 2 (some .boolean), Cond.methodLink RX6 236 yX6_withBit, Cond.static yX6_withBit]
def wsL_owed_r5 : List Cond := [Cond.code yX6_withBit cX6_withBit 3 (some .int), Cond.methodLink RX6 350 yX6_bookCosts, Cond.instanceMethod yX6_bookCosts, Cond.selects RX6 yX6_bookCosts yX6_bookCosts, Cond.code yX6_bookCosts cX6_bookCosts 6 none, Cond.fieldLink RX6 90 "Divisionorder" "sharers" "LDivisionorder$Parting;", Cond.fieldLink RX6 256 "Divisionorder$Parting" "parts" "[J", Cond.fieldLink RX6 62 "Divisionorder" "penaltyHundredths" "I", Cond.constantLong RX6 306 (100), Cond.fieldLink RX6 268 "Divisionorder$Unit" "dues" "[J", Cond.methodLink RX6 357 yX6_partByWorking, Cond.instanceMethod yX6_partByWorking, Cond.selects RX6 yX6_partByWorking yX6_partByWorking, Cond.code yX6_partByWorking cX6_partByWorking 5 none, Cond.methodLink RX6 252 yX2_partOut, Cond.instanceMethod yX2_partOut, Cond.selects RX2 yX2_partOut yX2_partOut, Cond.code yX2_partOut cX2_partOut 10 none, Cond.fieldLink RX2 13 "Divisionorder$Parting" "parts" "[J", Cond.fieldLink RX2 16 "Divisionorder$Parting" "rests" "[J", Cond.methodLink RX2 19 yX2_giveOne, Cond.instanceMethod yX2_giveOne, Cond.selects RX2 yX2_giveOne yX2_giveOne, Cond.code yX2_giveOne cX2_giveOne 3 none]
def wsL_owed_r6 : List Cond := [Cond.constantLong RX2 22 (-1), Cond.methodLink RX6 354 yX6_bookRevenue, Cond.instanceMethod yX6_bookRevenue, Cond.selects RX6 yX6_bookRevenue yX6_bookRevenue, Cond.code yX6_bookRevenue cX6_bookRevenue 12 none, Cond.methodLink RX6 361 Lib.MathLoose.min_long.x, Cond.static Lib.MathLoose.min_long.x, Cond.initialized "java/lang/Math", Cond.code Lib.MathLoose.min_long.x Lib.MathLoose.min_long.code 4 (some .long), Cond.methodLink RX6 261 yX6_revenueOf, Cond.instanceMethod yX6_revenueOf, Cond.selects RX6 yX6_revenueOf yX6_revenueOf, Cond.code yX6_revenueOf cX6_revenueOf 5 (some .long), Cond.methodLink RX6 227 yX6_taxIn, Cond.instanceMethod yX6_taxIn, Cond.selects RX6 yX6_taxIn yX6_taxIn, Cond.code yX6_taxIn cX6_taxIn 3 (some .int), Cond.fieldLink RX6 58 "Divisionorder" "taxesTold" "[I", Cond.methodLink RX6 275 yX6_settledOwed, Cond.instanceMethod yX6_settledOwed, Cond.selects RX6 yX6_settledOwed yX6_settledOwed, Cond.code yX6_settledOwed cX6_settledOwed 9 (some .long), Cond.fieldLink RX6 71 "Divisionorder" "paidCents" "[J"]
def wsL_owed : List Cond := .codeWith yL_owed cL_owed 3 (some .long) [(0, 5, 6, 23)] :: ((wsL_owed_r1 ++ (wsL_owed_r2 ++ (wsL_owed_r3 ++ (wsL_owed_r4 ++ (wsL_owed_r5 ++ wsL_owed_r6))))) ++ wsX60 ++ wsX40 ++ wsX30 ++ wsX20 ++ wsX10 ++ wsX00 ++ (vx_atS RX6 113 "java/lang/IndexOutOfBoundsException" ["java/lang/RuntimeException", "java/lang/Exception"]).filter goodWord)
def wsL_paid : List Cond := .codeWith yL_paid cL_paid 3 (some .long) [(0, 5, 6, 23)] :: ([.classLink RL 23 "java/lang/IndexOutOfBoundsException", .constantLong RL 74 (-101), .methodLink RL 93 yX6_paid, .instanceMethod yX6_paid, .selects RX6 yX6_paid yX6_paid, .initialized RX6, .code yX6_paid cX6_paid 2 (some .long), .classLink RX6 109 "java/lang/IndexOutOfBoundsException", .initialized "java/lang/IndexOutOfBoundsException", .fieldLink RX6 71 "Divisionorder" "paidCents" "[J", .methodLink RX6 105 yX6_isOwner, .static yX6_isOwner, .code yX6_isOwner cX6_isOwner 1 (some .boolean)] ++ wsX60 ++ (vx_atS RX6 113 "java/lang/IndexOutOfBoundsException" ["java/lang/RuntimeException", "java/lang/Exception"]).filter goodWord)
def wsL_fits_r1 : List Cond := [Cond.constant RL 109 (100000000), Cond.methodLink RL 96 yL_agrees, Cond.static yL_agrees, Cond.initialized RL, Cond.codeWith yL_agrees cL_agrees 4 (some .int) [(0, 14, 15, 23)], Cond.classLink RL 23 "java/lang/IndexOutOfBoundsException", Cond.methodLink RL 76 yX6_agrees, Cond.instanceMethod yX6_agrees, Cond.selects RX6 yX6_agrees yX6_agrees, Cond.initialized RX6, Cond.code yX6_agrees cX6_agrees 7 (some .boolean), Cond.classLink RX6 109 "java/lang/IndexOutOfBoundsException", Cond.initialized "java/lang/IndexOutOfBoundsException", Cond.fieldLink RX6 268 "Divisionorder$Unit" "dues" "[J", Cond.fieldLink RX6 222 "Divisionorder$Unit" "costs" "[I", Cond.methodLink RX6 240 yX6_unitIn, Cond.instanceMethod yX6_unitIn, Cond.selects RX6 yX6_unitIn yX6_unitIn, Cond.code yX6_unitIn cX6_unitIn 4 (some (.object "Divisionorder$Unit")), Cond.fieldLink RX6 203 "Divisionorder$Unit" "firstMonth" "I", Cond.fieldLink RX6 9 "Divisionorder" "now" "I", Cond.methodLink RX6 183 yX6_unitAt, Cond.instanceMethod yX6_unitAt, Cond.selects RX6 yX6_unitAt yX6_unitAt]
def wsL_fits_r2 : List Cond := [Cond.code yX6_unitAt cX6_unitAt 2 (some (.object "Divisionorder$Unit")), Cond.fieldLink RX6 42 "Divisionorder" "units" "[LDivisionorder$Unit;", Cond.methodLink RX6 265 yX6_settle, Cond.instanceMethod yX6_settle, Cond.selects RX6 yX6_settle yX6_settle, Cond.code yX6_settle cX6_settle 6 none, Cond.fieldLink RX6 75 "Divisionorder" "settledMonths" "I", Cond.methodLink RX6 340 yX6_settleMonth, Cond.instanceMethod yX6_settleMonth, Cond.selects RX6 yX6_settleMonth yX6_settleMonth, Cond.code yX6_settleMonth cX6_settleMonth 4 none, Cond.fieldLink RX6 303 "Divisionorder$Unit" "gross" "[I", Cond.methodLink RX6 343 yX4_openMonth, Cond.instanceMethod yX4_openMonth, Cond.selects RX4 yX4_openMonth yX4_openMonth, Cond.initialized RX4, Cond.code yX4_openMonth cX4_openMonth 5 none, Cond.fieldLink RX4 24 "Divisionorder$Unit" "dues" "[J", Cond.fieldLink RX4 28 "Divisionorder$Unit" "balances" "[J", Cond.fieldLink RX4 31 "Divisionorder$Unit" "firstMonth" "I", Cond.methodLink RX6 246 yX6_layDeck, Cond.instanceMethod yX6_layDeck, Cond.selects RX6 yX6_layDeck yX6_layDeck, Cond.code yX6_layDeck cX6_layDeck 7 none]
def wsL_fits_r3 : List Cond := [Cond.fieldLink RX6 86 "Divisionorder" "deck" "LDivisionorder$Parting;", Cond.fieldLink RX6 15 "Divisionorder" "tracts" "[LDivisionorder$Tract;", Cond.fieldLink RX6 179 "Divisionorder$Tract" "unit" "LDivisionorder$Unit;", Cond.methodLink RX6 308 yX2_clear, Cond.instanceMethod yX2_clear, Cond.selects RX2 yX2_clear yX2_clear, Cond.initialized RX2, Cond.code yX2_clear cX2_clear 2 none, Cond.fieldLink RX2 7 "Divisionorder$Parting" "weights" "[J", Cond.methodLink RX6 311 yX6_layTract, Cond.instanceMethod yX6_layTract, Cond.selects RX6 yX6_layTract yX6_layTract, Cond.code yX6_layTract cX6_layTract 7 none, Cond.fieldLink RX6 78 "Divisionorder" "titles" "[I", Cond.fieldLink RX6 318 "Divisionorder$Tract" "acres" "I", Cond.fieldLink RX6 325 "Divisionorder$Parting" "weights" "[J", Cond.constantLong RX6 328 (1000), Cond.fieldLink RX6 330 "Divisionorder$Lease" "royalty" "I", Cond.fieldLink RX6 333 "Divisionorder$Lease" "lessee" "I", Cond.methodLink RX6 315 yX6_readTitles, Cond.instanceMethod yX6_readTitles, Cond.selects RX6 yX6_readTitles yX6_readTitles, Cond.code yX6_readTitles cX6_readTitles 7 none, Cond.fieldLink RX6 279 "Divisionorder$Tract" "firstOwner" "I"]
def wsL_fits_r4 : List Cond := [Cond.fieldLink RX6 24 "Divisionorder" "deeds" "[LDivisionorder$Deed;", Cond.fieldLink RX6 282 "Divisionorder$Deed" "tract" "LDivisionorder$Tract;", Cond.fieldLink RX6 286 "Divisionorder$Deed" "month" "I", Cond.fieldLink RX6 294 "Divisionorder$Deed" "from" "I", Cond.fieldLink RX6 292 "Divisionorder$Deed" "parts" "I", Cond.fieldLink RX6 289 "Divisionorder$Deed" "to" "I", Cond.methodLink RX6 321 yX6_leaseThatCounts, Cond.instanceMethod yX6_leaseThatCounts, Cond.selects RX6 yX6_leaseThatCounts yX6_leaseThatCounts, Cond.code yX6_leaseThatCounts cX6_leaseThatCounts 8 (some (.object "Divisionorder$Lease")), Cond.fieldLink RX6 33 "Divisionorder" "leases" "[LDivisionorder$Lease;", Cond.fieldLink RX6 336 "Divisionorder$Lease" "tract" "LDivisionorder$Tract;", Cond.fieldLink RX6 337 "Divisionorder$Lease" "lessor" "I", Cond.methodLink RX6 164 yX1_isInForce, Cond.instanceMethod yX1_isInForce, Cond.selects RX1 yX1_isInForce yX1_isInForce, Cond.initialized RX1, Cond.code yX1_isInForce cX1_isInForce 4 (some .boolean), Cond.fieldLink RX1 9 "Divisionorder$Lease" "firstMonth" "I", Cond.fieldLink RX1 18 "Divisionorder$Lease" "tract" "LDivisionorder$Tract;", Cond.fieldLink RX1 31 "Divisionorder$Tract" "unit" "LDivisionorder$Unit;", Cond.fieldLink RX1 15 "Divisionorder$Lease" "lastOfTerm" "I", Cond.fieldLink RX1 37 "Divisionorder$Unit" "barrels" "[I", Cond.methodLink RX6 346 yX6_carriedOwners]
def wsL_fits_r5 : List Cond := [Cond.instanceMethod yX6_carriedOwners, Cond.selects RX6 yX6_carriedOwners yX6_carriedOwners, Cond.code yX6_carriedOwners cX6_carriedOwners 7 (some .int), Cond.fieldLink RX6 233 "Divisionorder$Unit" "refusing" "[I", Cond.fieldLink RX6 271 "Divisionorder$Unit" "balances" "[J", Cond.methodLink RX6 175 yX6_hasBit, Cond.static yX6_hasBit, Cond.code yX6_hasBit cX6_hasBit 2 (some .boolean), Cond.methodLink RX6 236 yX6_withBit, Cond.static yX6_withBit, Cond.code yX6_withBit cX6_withBit 3 (some .int), Cond.methodLink RX6 350 yX6_bookCosts, Cond.instanceMethod yX6_bookCosts, Cond.selects RX6 yX6_bookCosts yX6_bookCosts, Cond.code yX6_bookCosts cX6_bookCosts 6 none, Cond.fieldLink RX6 90 "Divisionorder" "sharers" "LDivisionorder$Parting;", Cond.fieldLink RX6 256 "Divisionorder$Parting" "parts" "[J", Cond.fieldLink RX6 62 "Divisionorder" "penaltyHundredths" "I", Cond.constantLong RX6 306 (100), Cond.methodLink RX6 357 yX6_partByWorking, Cond.instanceMethod yX6_partByWorking, Cond.selects RX6 yX6_partByWorking yX6_partByWorking, Cond.code yX6_partByWorking cX6_partByWorking 5 none, Cond.methodLink RX6 252 yX2_partOut]
def wsL_fits_r6 : List Cond := [Cond.instanceMethod yX2_partOut, Cond.selects RX2 yX2_partOut yX2_partOut, Cond.code yX2_partOut cX2_partOut 10 none, Cond.fieldLink RX2 13 "Divisionorder$Parting" "parts" "[J", Cond.fieldLink RX2 16 "Divisionorder$Parting" "rests" "[J", Cond.methodLink RX2 19 yX2_giveOne, Cond.instanceMethod yX2_giveOne, Cond.selects RX2 yX2_giveOne yX2_giveOne, Cond.code yX2_giveOne cX2_giveOne 3 none, Cond.constantLong RX2 22 (-1), Cond.methodLink RX6 354 yX6_bookRevenue, Cond.instanceMethod yX6_bookRevenue, Cond.selects RX6 yX6_bookRevenue yX6_bookRevenue, Cond.code yX6_bookRevenue cX6_bookRevenue 12 none, Cond.methodLink RX6 361 Lib.MathLoose.min_long.x, Cond.static Lib.MathLoose.min_long.x, Cond.initialized "java/lang/Math", Cond.code Lib.MathLoose.min_long.x Lib.MathLoose.min_long.code 4 (some .long), Cond.methodLink RX6 261 yX6_revenueOf, Cond.instanceMethod yX6_revenueOf, Cond.selects RX6 yX6_revenueOf yX6_revenueOf, Cond.code yX6_revenueOf cX6_revenueOf 5 (some .long), Cond.methodLink RX6 227 yX6_taxIn, Cond.instanceMethod yX6_taxIn]
def wsL_fits_r7 : List Cond := [Cond.selects RX6 yX6_taxIn yX6_taxIn, Cond.code yX6_taxIn cX6_taxIn 3 (some .int), Cond.fieldLink RX6 58 "Divisionorder" "taxesTold" "[I", Cond.methodLink RL 101 yL_revenue, Cond.static yL_revenue, Cond.codeWith yL_revenue cL_revenue 4 (some .int) [(0, 6, 7, 23)], Cond.methodLink RL 63 yX6_revenue, Cond.instanceMethod yX6_revenue, Cond.selects RX6 yX6_revenue yX6_revenue, Cond.code yX6_revenue cX6_revenue 4 (some .int), Cond.methodLink RL 103 yL_interest, Cond.static yL_interest, Cond.codeWith yL_interest cL_interest 6 (some .int) [(0, 9, 10, 23)], Cond.methodLink RL 59 yX6_interest, Cond.instanceMethod yX6_interest, Cond.selects RX6 yX6_interest yX6_interest, Cond.code yX6_interest cX6_interest 6 (some .int), Cond.constantLong RX6 250 (100000000), Cond.methodLink RX6 105 yX6_isOwner, Cond.static yX6_isOwner, Cond.code yX6_isOwner cX6_isOwner 1 (some .boolean), Cond.methodLink RL 106 yL_balance, Cond.static yL_balance, Cond.codeWith yL_balance cL_balance 5 (some .long) [(0, 7, 8, 23)]]
def wsL_fits_r8 : List Cond := [Cond.constantLong RL 74 (-101), Cond.methodLink RL 70 yX6_balance, Cond.instanceMethod yX6_balance, Cond.selects RX6 yX6_balance yX6_balance, Cond.code yX6_balance cX6_balance 5 (some .long)]
def wsL_fits : List Cond := .code yL_fits cL_fits 8 (some .boolean) :: ((wsL_fits_r1 ++ (wsL_fits_r2 ++ (wsL_fits_r3 ++ (wsL_fits_r4 ++ (wsL_fits_r5 ++ (wsL_fits_r6 ++ (wsL_fits_r7 ++ wsL_fits_r8))))))) ++ wsX40 ++ wsX60 ++ wsX30 ++ wsX20 ++ wsX10 ++ wsX00 ++ (vx_atS RX6 113 "java/lang/IndexOutOfBoundsException" ["java/lang/RuntimeException", "java/lang/Exception"]).filter goodWord)
def wsL_law0_r1 : List Cond := [Cond.classLink RL 10 RX6, Cond.instantiable RX6 20, Cond.initialized RX6, Cond.constant RL 130 (200000), Cond.constant RL 163 (-2000000000), Cond.methodLink RL 110 yX6_init, Cond.instanceMethod yX6_init, Cond.code yX6_init cX6_init 2 none, Cond.methodLink RX6 3 objectInit, Cond.instanceMethod objectInit, Cond.code objectInit ⟨#[0xb1]⟩ 1 none, Cond.fieldLink RX6 9 "Divisionorder" "now" "I", Cond.classLink RX6 13 RX3, Cond.fieldLink RX6 15 "Divisionorder" "tracts" "[LDivisionorder$Tract;", Cond.fieldLink RX6 19 "Divisionorder" "tractCount" "I", Cond.classLink RX6 22 RX0, Cond.fieldLink RX6 24 "Divisionorder" "deeds" "[LDivisionorder$Deed;", Cond.fieldLink RX6 28 "Divisionorder" "deedCount" "I", Cond.classLink RX6 31 RX1, Cond.fieldLink RX6 33 "Divisionorder" "leases" "[LDivisionorder$Lease;", Cond.fieldLink RX6 37 "Divisionorder" "leaseCount" "I", Cond.classLink RX6 40 RX4, Cond.fieldLink RX6 42 "Divisionorder" "units" "[LDivisionorder$Unit;", Cond.fieldLink RX6 46 "Divisionorder" "unitCount" "I"]
def wsL_law0_r2 : List Cond := [Cond.classLink RX6 49 RX5, Cond.fieldLink RX6 51 "Divisionorder" "wells" "[LDivisionorder$Well;", Cond.fieldLink RX6 55 "Divisionorder" "wellCount" "I", Cond.arrayClass .int, Cond.fieldLink RX6 58 "Divisionorder" "taxesTold" "[I", Cond.fieldLink RX6 62 "Divisionorder" "penaltyHundredths" "I", Cond.fieldLink RX6 65 "Divisionorder" "suspendedOwners" "I", Cond.fieldLink RX6 68 "Divisionorder" "leastCheque" "I", Cond.arrayClass .long, Cond.fieldLink RX6 71 "Divisionorder" "paidCents" "[J", Cond.fieldLink RX6 75 "Divisionorder" "settledMonths" "I", Cond.fieldLink RX6 78 "Divisionorder" "titles" "[I", Cond.classLink RX6 81 RX2, Cond.instantiable RX2 3, Cond.initialized RX2, Cond.fieldLink RX6 86 "Divisionorder" "deck" "LDivisionorder$Parting;", Cond.fieldLink RX6 90 "Divisionorder" "sharers" "LDivisionorder$Parting;", Cond.methodLink RX6 83 yX2_init, Cond.instanceMethod yX2_init, Cond.code yX2_init cX2_init 2 none, Cond.methodLink RX2 1 objectInit, Cond.fieldLink RX2 7 "Divisionorder$Parting" "weights" "[J", Cond.fieldLink RX2 13 "Divisionorder$Parting" "parts" "[J", Cond.fieldLink RX2 16 "Divisionorder$Parting" "rests" "[J"]
def wsL_law0_r3 : List Cond := [Cond.methodLink RL 111 yL_drawn, Cond.static yL_drawn, Cond.initialized RL, Cond.code yL_drawn cL_drawn 2 (some .int), Cond.constant RL 7 (39119), Cond.constant RL 8 (2147483647), Cond.methodLink RL 115 yL_tract, Cond.static yL_tract, Cond.codeWith yL_tract cL_tract 4 (some .int) [(0, 6, 7, 23), (0, 6, 11, 15), (0, 6, 15, 17)], Cond.classLink RL 23 "java/lang/IndexOutOfBoundsException", Cond.classLink RL 15 "java/lang/IllegalArgumentException", Cond.classLink RL 17 "java/lang/IllegalStateException", Cond.methodLink RL 19 yX6_tract, Cond.instanceMethod yX6_tract, Cond.selects RX6 yX6_tract yX6_tract, Cond.code yX6_tract cX6_tract 3 (some .int), Cond.classLink RX6 109 "java/lang/IndexOutOfBoundsException", Cond.initialized "java/lang/IndexOutOfBoundsException", Cond.classLink RX6 93 "java/lang/IllegalArgumentException", Cond.initialized "java/lang/IllegalArgumentException", Cond.classLink RX6 100 "java/lang/IllegalStateException", Cond.initialized "java/lang/IllegalStateException", Cond.instantiable RX3 3, Cond.initialized RX3]
def wsL_law0_r4 : List Cond := [Cond.methodLink RX6 105 yX6_isOwner, Cond.static yX6_isOwner, Cond.code yX6_isOwner cX6_isOwner 1 (some .boolean), Cond.methodLink RX6 118 yX3_init, Cond.instanceMethod yX3_init, Cond.code yX3_init cX3_init 3 none, Cond.methodLink RX3 1 objectInit, Cond.fieldLink RX3 7 "Divisionorder$Tract" "unit" "LDivisionorder$Unit;", Cond.fieldLink RX3 13 "Divisionorder$Tract" "acres" "I", Cond.fieldLink RX3 17 "Divisionorder$Tract" "firstOwner" "I", Cond.methodLink RL 117 yL_deed, Cond.static yL_deed, Cond.codeWith yL_deed cL_deed 7 (some .int) [(0, 11, 12, 23), (0, 11, 17, 15), (0, 11, 22, 17)], Cond.methodLink RL 25 yX6_deed, Cond.instanceMethod yX6_deed, Cond.selects RX6 yX6_deed yX6_deed, Cond.code yX6_deed cX6_deed 7 (some .int), Cond.instantiable RX0 5, Cond.initialized RX0, Cond.methodLink RX6 121 yX6_tractAt, Cond.instanceMethod yX6_tractAt, Cond.selects RX6 yX6_tractAt yX6_tractAt, Cond.code yX6_tractAt cX6_tractAt 2 (some (.object "Divisionorder$Tract")), Cond.methodLink RX6 125 yX6_isMonth]
def wsL_law0_r5 : List Cond := [Cond.instanceMethod yX6_isMonth, Cond.selects RX6 yX6_isMonth yX6_isMonth, Cond.code yX6_isMonth cX6_isMonth 2 (some .boolean), Cond.methodLink RX6 132 yX6_leastTitle, Cond.instanceMethod yX6_leastTitle, Cond.selects RX6 yX6_leastTitle yX6_leastTitle, Cond.code yX6_leastTitle cX6_leastTitle 6 (some .int), Cond.methodLink RX6 297 Lib.Math.min.name, Cond.static Lib.Math.min.name, Cond.initialized "java/lang/Math", Cond.code Lib.Math.min.name Lib.Math.min.code 2 (some .int), Cond.methodLink RX6 144 yX6_titleOf, Cond.instanceMethod yX6_titleOf, Cond.selects RX6 yX6_titleOf yX6_titleOf, Cond.code yX6_titleOf cX6_titleOf 9 (some .int), Cond.fieldLink RX6 279 "Divisionorder$Tract" "firstOwner" "I", Cond.fieldLink RX6 282 "Divisionorder$Deed" "tract" "LDivisionorder$Tract;", Cond.fieldLink RX6 286 "Divisionorder$Deed" "month" "I", Cond.fieldLink RX6 289 "Divisionorder$Deed" "to" "I", Cond.fieldLink RX6 292 "Divisionorder$Deed" "parts" "I", Cond.fieldLink RX6 294 "Divisionorder$Deed" "from" "I", Cond.methodLink RX6 138 yX0_init, Cond.instanceMethod yX0_init, Cond.code yX0_init cX0_init 6 none]
def wsL_law0_r6 : List Cond := [Cond.methodLink RX0 1 objectInit, Cond.fieldLink RX0 7 "Divisionorder$Deed" "tract" "LDivisionorder$Tract;", Cond.fieldLink RX0 13 "Divisionorder$Deed" "from" "I", Cond.fieldLink RX0 17 "Divisionorder$Deed" "to" "I", Cond.fieldLink RX0 20 "Divisionorder$Deed" "parts" "I", Cond.fieldLink RX0 23 "Divisionorder$Deed" "month" "I", Cond.methodLink RX6 141 yX6_unsettle, Cond.instanceMethod yX6_unsettle, Cond.selects RX6 yX6_unsettle yX6_unsettle, Cond.code yX6_unsettle cX6_unsettle 2 none, Cond.methodLink RL 120 yL_unit, Cond.static yL_unit, Cond.codeWith yL_unit cL_unit 3 (some .int) [(0, 5, 6, 15), (0, 5, 10, 17)], Cond.methodLink RL 36 yX6_unit, Cond.instanceMethod yX6_unit, Cond.selects RX6 yX6_unit yX6_unit, Cond.code yX6_unit cX6_unit 5 (some .int), Cond.instantiable RX4 7, Cond.initialized RX4, Cond.fieldLink RX6 179 "Divisionorder$Tract" "unit" "LDivisionorder$Unit;", Cond.methodLink RX6 169 yX6_hasTractOfUnit, Cond.instanceMethod yX6_hasTractOfUnit, Cond.selects RX6 yX6_hasTractOfUnit yX6_hasTractOfUnit, Cond.code yX6_hasTractOfUnit cX6_hasTractOfUnit 4 (some .boolean)]
def wsL_law0_r7 : List Cond := [Cond.methodLink RX6 175 yX6_hasBit, Cond.static yX6_hasBit, Cond.code yX6_hasBit cX6_hasBit 2 (some .boolean), Cond.methodLink RX6 174 yX4_init, Cond.instanceMethod yX4_init, Cond.code yX4_init cX4_init 2 none, Cond.methodLink RX4 3 objectInit, Cond.fieldLink RX4 9 "Divisionorder$Unit" "refusing" "[I", Cond.fieldLink RX4 15 "Divisionorder$Unit" "barrels" "[I", Cond.fieldLink RX4 18 "Divisionorder$Unit" "gross" "[I", Cond.fieldLink RX4 21 "Divisionorder$Unit" "costs" "[I", Cond.fieldLink RX4 24 "Divisionorder$Unit" "dues" "[J", Cond.fieldLink RX4 28 "Divisionorder$Unit" "balances" "[J", Cond.fieldLink RX4 31 "Divisionorder$Unit" "firstMonth" "I", Cond.methodLink RL 123 yL_well, Cond.static yL_well, Cond.codeWith yL_well cL_well 3 (some .int) [(0, 5, 6, 23), (0, 5, 10, 17)], Cond.methodLink RL 39 yX6_well, Cond.instanceMethod yX6_well, Cond.selects RX6 yX6_well yX6_well, Cond.code yX6_well cX6_well 3 (some .int), Cond.instantiable RX5 4, Cond.initialized RX5, Cond.methodLink RX6 183 yX6_unitAt]
def wsL_law0_r8 : List Cond := [Cond.instanceMethod yX6_unitAt, Cond.selects RX6 yX6_unitAt yX6_unitAt, Cond.code yX6_unitAt cX6_unitAt 2 (some (.object "Divisionorder$Unit")), Cond.methodLink RX6 191 yX5_init, Cond.instanceMethod yX5_init, Cond.code yX5_init cX5_init 2 none, Cond.methodLink RX5 3 objectInit, Cond.fieldLink RX5 9 "Divisionorder$Well" "barrels" "[I", Cond.fieldLink RX5 15 "Divisionorder$Well" "prices" "[I", Cond.fieldLink RX5 18 "Divisionorder$Well" "costs" "[I", Cond.fieldLink RX5 21 "Divisionorder$Well" "unit" "LDivisionorder$Unit;", Cond.methodLink RL 125 yL_lease, Cond.static yL_lease, Cond.codeWith yL_lease cL_lease 7 (some .int) [(0, 11, 12, 23), (0, 11, 17, 15), (0, 11, 22, 17)], Cond.methodLink RL 33 yX6_lease, Cond.instanceMethod yX6_lease, Cond.selects RX6 yX6_lease yX6_lease, Cond.code yX6_lease cX6_lease 8 (some .int), Cond.instantiable RX1 6, Cond.initialized RX1, Cond.fieldLink RX6 156 "Divisionorder$Lease" "firstMonth" "I", Cond.fieldLink RX6 159 "Divisionorder$Lease" "lastOfTerm" "I", Cond.methodLink RX6 153 yX1_init, Cond.instanceMethod yX1_init]
def wsL_law0_r9 : List Cond := [Cond.code yX1_init cX1_init 5 none, Cond.methodLink RX1 3 objectInit, Cond.fieldLink RX1 9 "Divisionorder$Lease" "firstMonth" "I", Cond.fieldLink RX1 15 "Divisionorder$Lease" "lastOfTerm" "I", Cond.fieldLink RX1 18 "Divisionorder$Lease" "tract" "LDivisionorder$Tract;", Cond.fieldLink RX1 22 "Divisionorder$Lease" "lessor" "I", Cond.fieldLink RX1 25 "Divisionorder$Lease" "lessee" "I", Cond.fieldLink RX1 28 "Divisionorder$Lease" "royalty" "I", Cond.methodLink RL 127 yL_oil, Cond.static yL_oil, Cond.codeWith yL_oil cL_oil 6 (some .int) [(0, 9, 10, 23), (0, 9, 15, 15), (0, 9, 20, 17)], Cond.methodLink RL 42 yX6_oil, Cond.instanceMethod yX6_oil, Cond.selects RX6 yX6_oil yX6_oil, Cond.code yX6_oil cX6_oil 7 (some .int), Cond.fieldLink RX6 202 "Divisionorder$Well" "unit" "LDivisionorder$Unit;", Cond.fieldLink RX6 203 "Divisionorder$Unit" "firstMonth" "I", Cond.fieldLink RX6 206 "Divisionorder$Well" "barrels" "[I", Cond.methodLink RX6 194 yX6_wellAt, Cond.instanceMethod yX6_wellAt, Cond.selects RX6 yX6_wellAt yX6_wellAt, Cond.code yX6_wellAt cX6_wellAt 2 (some (.object "Divisionorder$Well")), Cond.methodLink RX6 209 yX5_tellOil, Cond.instanceMethod yX5_tellOil]
def wsL_law0_r10 : List Cond := [Cond.selects RX5 yX5_tellOil yX5_tellOil, Cond.code yX5_tellOil cX5_tellOil 4 none, Cond.fieldLink RX5 25 "Divisionorder$Unit" "barrels" "[I", Cond.fieldLink RX5 28 "Divisionorder$Unit" "gross" "[I", Cond.methodLink RL 131 yL_cost, Cond.static yL_cost, Cond.codeWith yL_cost cL_cost 5 (some .int) [(0, 7, 8, 23), (0, 7, 13, 15), (0, 7, 18, 17)], Cond.methodLink RL 46 yX6_cost, Cond.instanceMethod yX6_cost, Cond.selects RX6 yX6_cost yX6_cost, Cond.code yX6_cost cX6_cost 5 (some .int), Cond.constant RX6 213 (1000000), Cond.fieldLink RX6 216 "Divisionorder$Well" "costs" "[I", Cond.constant RX6 219 (10000000), Cond.fieldLink RX6 222 "Divisionorder$Unit" "costs" "[I", Cond.methodLink RL 134 yL_consent, Cond.static yL_consent, Cond.codeWith yL_consent cL_consent 5 (some .int) [(0, 15, 16, 23)], Cond.methodLink RL 52 yX6_consent, Cond.instanceMethod yX6_consent, Cond.selects RX6 yX6_consent yX6_consent, Cond.code yX6_consent cX6_consent 7 (some .boolean), Cond.fieldLink RX6 233 "Divisionorder$Unit" "refusing" "[I", Cond.methodLink RX6 236 yX6_withBit]
def wsL_law0_r11 : List Cond := [Cond.static yX6_withBit, Cond.code yX6_withBit cX6_withBit 3 (some .int), Cond.methodLink RL 137 yL_penalty, Cond.static yL_penalty, Cond.codeWith yL_penalty cL_penalty 3 (some .int) [(0, 5, 6, 15)], Cond.methodLink RL 56 yX6_penalty, Cond.instanceMethod yX6_penalty, Cond.selects RX6 yX6_penalty yX6_penalty, Cond.code yX6_penalty cX6_penalty 3 (some .int), Cond.methodLink RL 139 yL_tax, Cond.static yL_tax, Cond.codeWith yL_tax cL_tax 4 (some .int) [(0, 6, 7, 23), (0, 6, 11, 15)], Cond.methodLink RL 49 yX6_tax, Cond.instanceMethod yX6_tax, Cond.selects RX6 yX6_tax yX6_tax, Cond.code yX6_tax cX6_tax 4 (some .int), Cond.methodLink RX6 227 yX6_taxIn, Cond.instanceMethod yX6_taxIn, Cond.selects RX6 yX6_taxIn yX6_taxIn, Cond.code yX6_taxIn cX6_taxIn 3 (some .int), Cond.methodLink RL 141 yL_least, Cond.static yL_least, Cond.codeWith yL_least cL_least 3 (some .int) [(0, 5, 6, 15)], Cond.methodLink RL 84 yX6_least]
def wsL_law0_r12 : List Cond := [Cond.instanceMethod yX6_least, Cond.selects RX6 yX6_least yX6_least, Cond.code yX6_least cX6_least 3 (some .int), Cond.constant RX6 274 (100000), Cond.methodLink RL 143 yL_suspend, Cond.static yL_suspend, Cond.codeWith yL_suspend cL_suspend 4 (some .int) [(0, 14, 15, 23)], Cond.methodLink RL 80 yX6_suspend, Cond.instanceMethod yX6_suspend, Cond.selects RX6 yX6_suspend yX6_suspend, Cond.code yX6_suspend cX6_suspend 4 (some .boolean), Cond.methodLink RL 146 yL_paid, Cond.static yL_paid, Cond.codeWith yL_paid cL_paid 3 (some .long) [(0, 5, 6, 23)], Cond.constantLong RL 74 (-101), Cond.methodLink RL 93 yX6_paid, Cond.instanceMethod yX6_paid, Cond.selects RX6 yX6_paid yX6_paid, Cond.code yX6_paid cX6_paid 2 (some .long), Cond.methodLink RL 149 yX6_payDay, Cond.instanceMethod yX6_payDay, Cond.selects RX6 yX6_payDay yX6_payDay, Cond.code yX6_payDay cX6_payDay 6 (some .long), Cond.methodLink RX6 265 yX6_settle]
def wsL_law0_r13 : List Cond := [Cond.instanceMethod yX6_settle, Cond.selects RX6 yX6_settle yX6_settle, Cond.code yX6_settle cX6_settle 6 none, Cond.methodLink RX6 340 yX6_settleMonth, Cond.instanceMethod yX6_settleMonth, Cond.selects RX6 yX6_settleMonth yX6_settleMonth, Cond.code yX6_settleMonth cX6_settleMonth 4 none, Cond.fieldLink RX6 303 "Divisionorder$Unit" "gross" "[I", Cond.methodLink RX6 343 yX4_openMonth, Cond.instanceMethod yX4_openMonth, Cond.selects RX4 yX4_openMonth yX4_openMonth, Cond.code yX4_openMonth cX4_openMonth 5 none, Cond.methodLink RX6 246 yX6_layDeck, Cond.instanceMethod yX6_layDeck, Cond.selects RX6 yX6_layDeck yX6_layDeck, Cond.code yX6_layDeck cX6_layDeck 7 none, Cond.methodLink RX6 308 yX2_clear, Cond.instanceMethod yX2_clear, Cond.selects RX2 yX2_clear yX2_clear, Cond.code yX2_clear cX2_clear 2 none, Cond.methodLink RX6 311 yX6_layTract, Cond.instanceMethod yX6_layTract, Cond.selects RX6 yX6_layTract yX6_layTract, Cond.code yX6_layTract cX6_layTract 7 none]
def wsL_law0_r14 : List Cond := [Cond.fieldLink RX6 318 "Divisionorder$Tract" "acres" "I", Cond.fieldLink RX6 325 "Divisionorder$Parting" "weights" "[J", Cond.constantLong RX6 328 (1000), Cond.fieldLink RX6 330 "Divisionorder$Lease" "royalty" "I", Cond.fieldLink RX6 333 "Divisionorder$Lease" "lessee" "I", Cond.methodLink RX6 315 yX6_readTitles, Cond.instanceMethod yX6_readTitles, Cond.selects RX6 yX6_readTitles yX6_readTitles, Cond.code yX6_readTitles cX6_readTitles 7 none, Cond.methodLink RX6 321 yX6_leaseThatCounts, Cond.instanceMethod yX6_leaseThatCounts, Cond.selects RX6 yX6_leaseThatCounts yX6_leaseThatCounts, Cond.code yX6_leaseThatCounts cX6_leaseThatCounts 8 (some (.object "Divisionorder$Lease")), Cond.fieldLink RX6 336 "Divisionorder$Lease" "tract" "LDivisionorder$Tract;", Cond.fieldLink RX6 337 "Divisionorder$Lease" "lessor" "I", Cond.methodLink RX6 164 yX1_isInForce, Cond.instanceMethod yX1_isInForce, Cond.selects RX1 yX1_isInForce yX1_isInForce, Cond.code yX1_isInForce cX1_isInForce 4 (some .boolean), Cond.fieldLink RX1 31 "Divisionorder$Tract" "unit" "LDivisionorder$Unit;", Cond.fieldLink RX1 37 "Divisionorder$Unit" "barrels" "[I", Cond.methodLink RX6 346 yX6_carriedOwners, Cond.instanceMethod yX6_carriedOwners, Cond.selects RX6 yX6_carriedOwners yX6_carriedOwners]
def wsL_law0_r15 : List Cond := [Cond.code yX6_carriedOwners cX6_carriedOwners 7 (some .int), Cond.fieldLink RX6 271 "Divisionorder$Unit" "balances" "[J", Cond.methodLink RX6 350 yX6_bookCosts, Cond.instanceMethod yX6_bookCosts, Cond.selects RX6 yX6_bookCosts yX6_bookCosts, Cond.code yX6_bookCosts cX6_bookCosts 6 none, Cond.fieldLink RX6 256 "Divisionorder$Parting" "parts" "[J", Cond.constantLong RX6 306 (100), Cond.fieldLink RX6 268 "Divisionorder$Unit" "dues" "[J", Cond.methodLink RX6 357 yX6_partByWorking, Cond.instanceMethod yX6_partByWorking, Cond.selects RX6 yX6_partByWorking yX6_partByWorking, Cond.code yX6_partByWorking cX6_partByWorking 5 none, Cond.methodLink RX6 252 yX2_partOut, Cond.instanceMethod yX2_partOut, Cond.selects RX2 yX2_partOut yX2_partOut, Cond.code yX2_partOut cX2_partOut 10 none, Cond.methodLink RX2 19 yX2_giveOne, Cond.instanceMethod yX2_giveOne, Cond.selects RX2 yX2_giveOne yX2_giveOne, Cond.code yX2_giveOne cX2_giveOne 3 none, Cond.constantLong RX2 22 (-1), Cond.methodLink RX6 354 yX6_bookRevenue, Cond.instanceMethod yX6_bookRevenue]
def wsL_law0_r16 : List Cond := [Cond.selects RX6 yX6_bookRevenue yX6_bookRevenue, Cond.code yX6_bookRevenue cX6_bookRevenue 12 none, Cond.methodLink RX6 361 Lib.MathLoose.min_long.x, Cond.static Lib.MathLoose.min_long.x, Cond.code Lib.MathLoose.min_long.x Lib.MathLoose.min_long.code 4 (some .long), Cond.methodLink RX6 261 yX6_revenueOf, Cond.instanceMethod yX6_revenueOf, Cond.selects RX6 yX6_revenueOf yX6_revenueOf, Cond.code yX6_revenueOf cX6_revenueOf 5 (some .long), Cond.methodLink RX6 275 yX6_settledOwed, Cond.instanceMethod yX6_settledOwed, Cond.selects RX6 yX6_settledOwed yX6_settledOwed, Cond.code yX6_settledOwed cX6_settledOwed 9 (some .long), Cond.methodLink RL 153 yL_pass, Cond.static yL_pass, Cond.codeWith yL_pass cL_pass 3 (some .int) [(0, 5, 6, 15), (0, 5, 10, 17)], Cond.methodLink RL 9 yX6_pass, Cond.instanceMethod yX6_pass, Cond.selects RX6 yX6_pass yX6_pass, Cond.code yX6_pass cX6_pass 2 (some .int), Cond.methodLink RL 155 yL_title, Cond.static yL_title, Cond.codeWith yL_title cL_title 5 (some .int) [(0, 7, 8, 23)], Cond.methodLink RL 29 yX6_title]
def wsL_law0_r17 : List Cond := [Cond.instanceMethod yX6_title, Cond.selects RX6 yX6_title yX6_title, Cond.code yX6_title cX6_title 5 (some .int), Cond.methodLink RL 101 yL_revenue, Cond.static yL_revenue, Cond.codeWith yL_revenue cL_revenue 4 (some .int) [(0, 6, 7, 23)], Cond.methodLink RL 63 yX6_revenue, Cond.instanceMethod yX6_revenue, Cond.selects RX6 yX6_revenue yX6_revenue, Cond.code yX6_revenue cX6_revenue 4 (some .int), Cond.methodLink RX6 240 yX6_unitIn, Cond.instanceMethod yX6_unitIn, Cond.selects RX6 yX6_unitIn yX6_unitIn, Cond.code yX6_unitIn cX6_unitIn 4 (some (.object "Divisionorder$Unit")), Cond.methodLink RL 157 yL_fits, Cond.static yL_fits, Cond.code yL_fits cL_fits 8 (some .boolean), Cond.constant RL 109 (100000000), Cond.methodLink RL 96 yL_agrees, Cond.static yL_agrees, Cond.codeWith yL_agrees cL_agrees 4 (some .int) [(0, 14, 15, 23)], Cond.methodLink RL 76 yX6_agrees, Cond.instanceMethod yX6_agrees, Cond.selects RX6 yX6_agrees yX6_agrees]
def wsL_law0_r18 : List Cond := [Cond.code yX6_agrees cX6_agrees 7 (some .boolean), Cond.methodLink RL 103 yL_interest, Cond.static yL_interest, Cond.codeWith yL_interest cL_interest 6 (some .int) [(0, 9, 10, 23)], Cond.methodLink RL 59 yX6_interest, Cond.instanceMethod yX6_interest, Cond.selects RX6 yX6_interest yX6_interest, Cond.code yX6_interest cX6_interest 6 (some .int), Cond.constantLong RX6 250 (100000000), Cond.methodLink RL 106 yL_balance, Cond.static yL_balance, Cond.codeWith yL_balance cL_balance 5 (some .long) [(0, 7, 8, 23)], Cond.methodLink RL 70 yX6_balance, Cond.instanceMethod yX6_balance, Cond.selects RX6 yX6_balance yX6_balance, Cond.code yX6_balance cX6_balance 5 (some .long), Cond.methodLink RL 161 yL_due, Cond.static yL_due, Cond.codeWith yL_due cL_due 5 (some .int) [(0, 7, 8, 23)], Cond.constant RL 69 (-2000000001), Cond.methodLink RL 66 yX6_due, Cond.instanceMethod yX6_due, Cond.selects RX6 yX6_due yX6_due, Cond.code yX6_due cX6_due 5 (some .int)]
def wsL_law0_r19 : List Cond := [Cond.methodLink RL 164 yL_owed, Cond.static yL_owed, Cond.codeWith yL_owed cL_owed 3 (some .long) [(0, 5, 6, 23)], Cond.constantLong RL 91 (-1000000000001), Cond.methodLink RL 87 yX6_owed, Cond.instanceMethod yX6_owed, Cond.selects RX6 yX6_owed yX6_owed, Cond.code yX6_owed cX6_owed 2 (some .long)]
def wsL_law0 : List Cond := (wsL_law0_r1 ++ (wsL_law0_r2 ++ (wsL_law0_r3 ++ (wsL_law0_r4 ++ (wsL_law0_r5 ++ (wsL_law0_r6 ++ (wsL_law0_r7 ++ (wsL_law0_r8 ++ (wsL_law0_r9 ++ (wsL_law0_r10 ++ (wsL_law0_r11 ++ (wsL_law0_r12 ++ (wsL_law0_r13 ++ (wsL_law0_r14 ++ (wsL_law0_r15 ++ (wsL_law0_r16 ++ (wsL_law0_r17 ++ (wsL_law0_r18 ++ wsL_law0_r19)))))))))))))))))) ++ wsX60 ++ wsX20 ++ wsX30 ++ wsX00 ++ wsX40 ++ wsX50 ++ wsX10 ++ ([] : List Cond)
def wsL_law : List Cond := wsL_law0 ++ (vx_atS RX6 113 "java/lang/IndexOutOfBoundsException" ["java/lang/RuntimeException", "java/lang/Exception"]).filter goodWord ++ (vx_atS RX6 97 "java/lang/IllegalArgumentException" ["java/lang/RuntimeException", "java/lang/Exception"]).filter goodWord ++ (vx_atS RX6 104 "java/lang/IllegalStateException" ["java/lang/RuntimeException", "java/lang/Exception"]).filter goodWord
end
section
theorem mt_0 : ∀ w ∈ k2_sels lw_privs, w ∈ lw_tbl := fun _ h => List.mem_append_left _ h
theorem mt_1 : ∀ w ∈ tables_1_1, w ∈ lw_tbl := fun _ h => List.mem_append_right _ (List.mem_append_left _ h)
theorem mt_2 : ∀ w ∈ tables_1_2, w ∈ lw_tbl := fun _ h => List.mem_append_right _ (List.mem_append_right _ (List.mem_append_left _ h))
theorem mt_3 : ∀ w ∈ tables_1_3, w ∈ lw_tbl := fun _ h => List.mem_append_right _ (List.mem_append_right _ (List.mem_append_right _ h))
set_option maxRecDepth 100000 in
theorem in0_r1 : ∀ w ∈ wsL_law0_r1, w ∈ lw_tbl := List.forall_mem_cons.mpr ⟨(mt_1 _ (List.mem_of_getElem? (i := 15) rfl)), List.forall_mem_cons.mpr ⟨(mt_1 _ (List.mem_of_getElem? (i := 16) rfl)), List.forall_mem_cons.mpr ⟨(mt_1 _ (List.mem_of_getElem? (i := 1) rfl)), List.forall_mem_cons.mpr ⟨(mt_3 _ (List.mem_of_getElem? (i := 188) rfl)), List.forall_mem_cons.mpr ⟨(mt_3 _ (List.mem_of_getElem? (i := 189) rfl)), List.forall_mem_cons.mpr ⟨(mt_1 _ (List.mem_of_getElem? (i := 17) rfl)), List.forall_mem_cons.mpr ⟨(mt_1 _ (List.mem_of_getElem? (i := 18) rfl)), List.forall_mem_cons.mpr ⟨(mt_1 _ (List.mem_of_getElem? (i := 19) rfl)), List.forall_mem_cons.mpr ⟨(mt_1 _ (List.mem_of_getElem? (i := 20) rfl)), List.forall_mem_cons.mpr ⟨(mt_1 _ (List.mem_of_getElem? (i := 21) rfl)), List.forall_mem_cons.mpr ⟨(mt_1 _ (List.mem_of_getElem? (i := 22) rfl)), List.forall_mem_cons.mpr ⟨(mt_1 _ (List.mem_of_getElem? (i := 53) rfl)), List.forall_mem_cons.mpr ⟨(mt_1 _ (List.mem_of_getElem? (i := 23) rfl)), List.forall_mem_cons.mpr ⟨(mt_1 _ (List.mem_of_getElem? (i := 54) rfl)), List.forall_mem_cons.mpr ⟨(mt_1 _ (List.mem_of_getElem? (i := 55) rfl)), List.forall_mem_cons.mpr ⟨(mt_1 _ (List.mem_of_getElem? (i := 25) rfl)), List.forall_mem_cons.mpr ⟨(mt_1 _ (List.mem_of_getElem? (i := 56) rfl)), List.forall_mem_cons.mpr ⟨(mt_1 _ (List.mem_of_getElem? (i := 57) rfl)), List.forall_mem_cons.mpr ⟨(mt_1 _ (List.mem_of_getElem? (i := 27) rfl)), List.forall_mem_cons.mpr ⟨(mt_1 _ (List.mem_of_getElem? (i := 58) rfl)), List.forall_mem_cons.mpr ⟨(mt_1 _ (List.mem_of_getElem? (i := 59) rfl)), List.forall_mem_cons.mpr ⟨(mt_1 _ (List.mem_of_getElem? (i := 29) rfl)), List.forall_mem_cons.mpr ⟨(mt_1 _ (List.mem_of_getElem? (i := 60) rfl)), List.forall_mem_cons.mpr ⟨(mt_1 _ (List.mem_of_getElem? (i := 61) rfl)), fun _ h => absurd h List.not_mem_nil⟩⟩⟩⟩⟩⟩⟩⟩⟩⟩⟩⟩⟩⟩⟩⟩⟩⟩⟩⟩⟩⟩⟩⟩
set_option maxRecDepth 100000 in
theorem in0_r2 : ∀ w ∈ wsL_law0_r2, w ∈ lw_tbl := List.forall_mem_cons.mpr ⟨(mt_1 _ (List.mem_of_getElem? (i := 31) rfl)), List.forall_mem_cons.mpr ⟨(mt_1 _ (List.mem_of_getElem? (i := 62) rfl)), List.forall_mem_cons.mpr ⟨(mt_1 _ (List.mem_of_getElem? (i := 63) rfl)), List.forall_mem_cons.mpr ⟨(mt_1 _ (List.mem_of_getElem? (i := 51) rfl)), List.forall_mem_cons.mpr ⟨(mt_1 _ (List.mem_of_getElem? (i := 64) rfl)), List.forall_mem_cons.mpr ⟨(mt_1 _ (List.mem_of_getElem? (i := 65) rfl)), List.forall_mem_cons.mpr ⟨(mt_1 _ (List.mem_of_getElem? (i := 66) rfl)), List.forall_mem_cons.mpr ⟨(mt_1 _ (List.mem_of_getElem? (i := 67) rfl)), List.forall_mem_cons.mpr ⟨(mt_1 _ (List.mem_of_getElem? (i := 52) rfl)), List.forall_mem_cons.mpr ⟨(mt_1 _ (List.mem_of_getElem? (i := 68) rfl)), List.forall_mem_cons.mpr ⟨(mt_1 _ (List.mem_of_getElem? (i := 69) rfl)), List.forall_mem_cons.mpr ⟨(mt_1 _ (List.mem_of_getElem? (i := 70) rfl)), List.forall_mem_cons.mpr ⟨(mt_1 _ (List.mem_of_getElem? (i := 33) rfl)), List.forall_mem_cons.mpr ⟨(mt_1 _ (List.mem_of_getElem? (i := 34) rfl)), List.forall_mem_cons.mpr ⟨(mt_1 _ (List.mem_of_getElem? (i := 2) rfl)), List.forall_mem_cons.mpr ⟨(mt_1 _ (List.mem_of_getElem? (i := 71) rfl)), List.forall_mem_cons.mpr ⟨(mt_1 _ (List.mem_of_getElem? (i := 72) rfl)), List.forall_mem_cons.mpr ⟨(mt_1 _ (List.mem_of_getElem? (i := 35) rfl)), List.forall_mem_cons.mpr ⟨(mt_1 _ (List.mem_of_getElem? (i := 36) rfl)), List.forall_mem_cons.mpr ⟨(mt_1 _ (List.mem_of_getElem? (i := 37) rfl)), List.forall_mem_cons.mpr ⟨(mt_1 _ (List.mem_of_getElem? (i := 38) rfl)), List.forall_mem_cons.mpr ⟨(mt_1 _ (List.mem_of_getElem? (i := 39) rfl)), List.forall_mem_cons.mpr ⟨(mt_1 _ (List.mem_of_getElem? (i := 41) rfl)), List.forall_mem_cons.mpr ⟨(mt_1 _ (List.mem_of_getElem? (i := 43) rfl)), fun _ h => absurd h List.not_mem_nil⟩⟩⟩⟩⟩⟩⟩⟩⟩⟩⟩⟩⟩⟩⟩⟩⟩⟩⟩⟩⟩⟩⟩⟩
set_option maxRecDepth 100000 in
theorem in0_r3 : ∀ w ∈ wsL_law0_r3, w ∈ lw_tbl := List.forall_mem_cons.mpr ⟨(mt_1 _ (List.mem_of_getElem? (i := 202) rfl)), List.forall_mem_cons.mpr ⟨(mt_1 _ (List.mem_of_getElem? (i := 203) rfl)), List.forall_mem_cons.mpr ⟨(mt_1 _ (List.mem_of_getElem? (i := 0) rfl)), List.forall_mem_cons.mpr ⟨(mt_1 _ (List.mem_of_getElem? (i := 204) rfl)), List.forall_mem_cons.mpr ⟨(mt_1 _ (List.mem_of_getElem? (i := 205) rfl)), List.forall_mem_cons.mpr ⟨(mt_1 _ (List.mem_of_getElem? (i := 206) rfl)), List.forall_mem_cons.mpr ⟨(mt_2 _ (List.mem_of_getElem? (i := 60) rfl)), List.forall_mem_cons.mpr ⟨(mt_2 _ (List.mem_of_getElem? (i := 61) rfl)), List.forall_mem_cons.mpr ⟨(mt_2 _ (List.mem_of_getElem? (i := 62) rfl)), List.forall_mem_cons.mpr ⟨(mt_2 _ (List.mem_of_getElem? (i := 63) rfl)), List.forall_mem_cons.mpr ⟨(mt_1 _ (List.mem_of_getElem? (i := 210) rfl)), List.forall_mem_cons.mpr ⟨(mt_1 _ (List.mem_of_getElem? (i := 211) rfl)), List.forall_mem_cons.mpr ⟨(mt_2 _ (List.mem_of_getElem? (i := 64) rfl)), List.forall_mem_cons.mpr ⟨(mt_2 _ (List.mem_of_getElem? (i := 65) rfl)), List.forall_mem_cons.mpr ⟨(mt_2 _ (List.mem_of_getElem? (i := 66) rfl)), List.forall_mem_cons.mpr ⟨(mt_2 _ (List.mem_of_getElem? (i := 67) rfl)), List.forall_mem_cons.mpr ⟨(mt_2 _ (List.mem_of_getElem? (i := 71) rfl)), List.forall_mem_cons.mpr ⟨(mt_1 _ (List.mem_of_getElem? (i := 6) rfl)), List.forall_mem_cons.mpr ⟨(mt_1 _ (List.mem_of_getElem? (i := 216) rfl)), List.forall_mem_cons.mpr ⟨(mt_1 _ (List.mem_of_getElem? (i := 7) rfl)), List.forall_mem_cons.mpr ⟨(mt_2 _ (List.mem_of_getElem? (i := 44) rfl)), List.forall_mem_cons.mpr ⟨(mt_1 _ (List.mem_of_getElem? (i := 8) rfl)), List.forall_mem_cons.mpr ⟨(mt_2 _ (List.mem_of_getElem? (i := 89) rfl)), List.forall_mem_cons.mpr ⟨(mt_1 _ (List.mem_of_getElem? (i := 9) rfl)), fun _ h => absurd h List.not_mem_nil⟩⟩⟩⟩⟩⟩⟩⟩⟩⟩⟩⟩⟩⟩⟩⟩⟩⟩⟩⟩⟩⟩⟩⟩
set_option maxRecDepth 100000 in
theorem in0_r4 : ∀ w ∈ wsL_law0_r4, w ∈ lw_tbl := List.forall_mem_cons.mpr ⟨(mt_2 _ (List.mem_of_getElem? (i := 68) rfl)), List.forall_mem_cons.mpr ⟨(mt_2 _ (List.mem_of_getElem? (i := 69) rfl)), List.forall_mem_cons.mpr ⟨(mt_2 _ (List.mem_of_getElem? (i := 70) rfl)), List.forall_mem_cons.mpr ⟨(mt_2 _ (List.mem_of_getElem? (i := 90) rfl)), List.forall_mem_cons.mpr ⟨(mt_2 _ (List.mem_of_getElem? (i := 91) rfl)), List.forall_mem_cons.mpr ⟨(mt_2 _ (List.mem_of_getElem? (i := 92) rfl)), List.forall_mem_cons.mpr ⟨(mt_2 _ (List.mem_of_getElem? (i := 93) rfl)), List.forall_mem_cons.mpr ⟨(mt_2 _ (List.mem_of_getElem? (i := 98) rfl)), List.forall_mem_cons.mpr ⟨(mt_2 _ (List.mem_of_getElem? (i := 94) rfl)), List.forall_mem_cons.mpr ⟨(mt_2 _ (List.mem_of_getElem? (i := 96) rfl)), List.forall_mem_cons.mpr ⟨(mt_2 _ (List.mem_of_getElem? (i := 108) rfl)), List.forall_mem_cons.mpr ⟨(mt_2 _ (List.mem_of_getElem? (i := 109) rfl)), List.forall_mem_cons.mpr ⟨(mt_2 _ (List.mem_of_getElem? (i := 110) rfl)), List.forall_mem_cons.mpr ⟨(mt_2 _ (List.mem_of_getElem? (i := 111) rfl)), List.forall_mem_cons.mpr ⟨(mt_2 _ (List.mem_of_getElem? (i := 112) rfl)), List.forall_mem_cons.mpr ⟨(mt_2 _ (List.mem_of_getElem? (i := 113) rfl)), List.forall_mem_cons.mpr ⟨(mt_2 _ (List.mem_of_getElem? (i := 114) rfl)), List.forall_mem_cons.mpr ⟨(mt_2 _ (List.mem_of_getElem? (i := 137) rfl)), List.forall_mem_cons.mpr ⟨(mt_1 _ (List.mem_of_getElem? (i := 11) rfl)), List.forall_mem_cons.mpr ⟨(mt_2 _ (List.mem_of_getElem? (i := 115) rfl)), List.forall_mem_cons.mpr ⟨(mt_2 _ (List.mem_of_getElem? (i := 117) rfl)), List.forall_mem_cons.mpr ⟨(mt_0 _ (List.mem_of_getElem? (i := 15) rfl)), List.forall_mem_cons.mpr ⟨(mt_2 _ (List.mem_of_getElem? (i := 118) rfl)), List.forall_mem_cons.mpr ⟨(mt_2 _ (List.mem_of_getElem? (i := 119) rfl)), fun _ h => absurd h List.not_mem_nil⟩⟩⟩⟩⟩⟩⟩⟩⟩⟩⟩⟩⟩⟩⟩⟩⟩⟩⟩⟩⟩⟩⟩⟩
set_option maxRecDepth 100000 in
theorem in0_r5 : ∀ w ∈ wsL_law0_r5, w ∈ lw_tbl := List.forall_mem_cons.mpr ⟨(mt_2 _ (List.mem_of_getElem? (i := 121) rfl)), List.forall_mem_cons.mpr ⟨(mt_0 _ (List.mem_of_getElem? (i := 16) rfl)), List.forall_mem_cons.mpr ⟨(mt_2 _ (List.mem_of_getElem? (i := 122) rfl)), List.forall_mem_cons.mpr ⟨(mt_2 _ (List.mem_of_getElem? (i := 125) rfl)), List.forall_mem_cons.mpr ⟨(mt_2 _ (List.mem_of_getElem? (i := 127) rfl)), List.forall_mem_cons.mpr ⟨(mt_0 _ (List.mem_of_getElem? (i := 17) rfl)), List.forall_mem_cons.mpr ⟨(mt_2 _ (List.mem_of_getElem? (i := 128) rfl)), List.forall_mem_cons.mpr ⟨(mt_2 _ (List.mem_of_getElem? (i := 133) rfl)), List.forall_mem_cons.mpr ⟨(mt_2 _ (List.mem_of_getElem? (i := 134) rfl)), List.forall_mem_cons.mpr ⟨(mt_1 _ (List.mem_of_getElem? (i := 10) rfl)), List.forall_mem_cons.mpr ⟨(mt_2 _ (List.mem_of_getElem? (i := 135) rfl)), List.forall_mem_cons.mpr ⟨(mt_2 _ (List.mem_of_getElem? (i := 129) rfl)), List.forall_mem_cons.mpr ⟨(mt_2 _ (List.mem_of_getElem? (i := 131) rfl)), List.forall_mem_cons.mpr ⟨(mt_0 _ (List.mem_of_getElem? (i := 18) rfl)), List.forall_mem_cons.mpr ⟨(mt_2 _ (List.mem_of_getElem? (i := 132) rfl)), List.forall_mem_cons.mpr ⟨(mt_2 _ (List.mem_of_getElem? (i := 97) rfl)), List.forall_mem_cons.mpr ⟨(mt_2 _ (List.mem_of_getElem? (i := 143) rfl)), List.forall_mem_cons.mpr ⟨(mt_2 _ (List.mem_of_getElem? (i := 151) rfl)), List.forall_mem_cons.mpr ⟨(mt_2 _ (List.mem_of_getElem? (i := 147) rfl)), List.forall_mem_cons.mpr ⟨(mt_2 _ (List.mem_of_getElem? (i := 149) rfl)), List.forall_mem_cons.mpr ⟨(mt_2 _ (List.mem_of_getElem? (i := 145) rfl)), List.forall_mem_cons.mpr ⟨(mt_2 _ (List.mem_of_getElem? (i := 138) rfl)), List.forall_mem_cons.mpr ⟨(mt_2 _ (List.mem_of_getElem? (i := 139) rfl)), List.forall_mem_cons.mpr ⟨(mt_2 _ (List.mem_of_getElem? (i := 140) rfl)), fun _ h => absurd h List.not_mem_nil⟩⟩⟩⟩⟩⟩⟩⟩⟩⟩⟩⟩⟩⟩⟩⟩⟩⟩⟩⟩⟩⟩⟩⟩
set_option maxRecDepth 100000 in
theorem in0_r6 : ∀ w ∈ wsL_law0_r6, w ∈ lw_tbl := List.forall_mem_cons.mpr ⟨(mt_2 _ (List.mem_of_getElem? (i := 141) rfl)), List.forall_mem_cons.mpr ⟨(mt_2 _ (List.mem_of_getElem? (i := 142) rfl)), List.forall_mem_cons.mpr ⟨(mt_2 _ (List.mem_of_getElem? (i := 144) rfl)), List.forall_mem_cons.mpr ⟨(mt_2 _ (List.mem_of_getElem? (i := 146) rfl)), List.forall_mem_cons.mpr ⟨(mt_2 _ (List.mem_of_getElem? (i := 148) rfl)), List.forall_mem_cons.mpr ⟨(mt_2 _ (List.mem_of_getElem? (i := 150) rfl)), List.forall_mem_cons.mpr ⟨(mt_2 _ (List.mem_of_getElem? (i := 163) rfl)), List.forall_mem_cons.mpr ⟨(mt_2 _ (List.mem_of_getElem? (i := 165) rfl)), List.forall_mem_cons.mpr ⟨(mt_0 _ (List.mem_of_getElem? (i := 19) rfl)), List.forall_mem_cons.mpr ⟨(mt_2 _ (List.mem_of_getElem? (i := 166) rfl)), List.forall_mem_cons.mpr ⟨(mt_2 _ (List.mem_of_getElem? (i := 214) rfl)), List.forall_mem_cons.mpr ⟨(mt_2 _ (List.mem_of_getElem? (i := 215) rfl)), List.forall_mem_cons.mpr ⟨(mt_2 _ (List.mem_of_getElem? (i := 216) rfl)), List.forall_mem_cons.mpr ⟨(mt_2 _ (List.mem_of_getElem? (i := 217) rfl)), List.forall_mem_cons.mpr ⟨(mt_2 _ (List.mem_of_getElem? (i := 218) rfl)), List.forall_mem_cons.mpr ⟨(mt_2 _ (List.mem_of_getElem? (i := 219) rfl)), List.forall_mem_cons.mpr ⟨(mt_2 _ (List.mem_of_getElem? (i := 220) rfl)), List.forall_mem_cons.mpr ⟨(mt_2 _ (List.mem_of_getElem? (i := 227) rfl)), List.forall_mem_cons.mpr ⟨(mt_1 _ (List.mem_of_getElem? (i := 12) rfl)), List.forall_mem_cons.mpr ⟨(mt_2 _ (List.mem_of_getElem? (i := 100) rfl)), List.forall_mem_cons.mpr ⟨(mt_2 _ (List.mem_of_getElem? (i := 222) rfl)), List.forall_mem_cons.mpr ⟨(mt_2 _ (List.mem_of_getElem? (i := 224) rfl)), List.forall_mem_cons.mpr ⟨(mt_0 _ (List.mem_of_getElem? (i := 20) rfl)), List.forall_mem_cons.mpr ⟨(mt_2 _ (List.mem_of_getElem? (i := 225) rfl)), fun _ h => absurd h List.not_mem_nil⟩⟩⟩⟩⟩⟩⟩⟩⟩⟩⟩⟩⟩⟩⟩⟩⟩⟩⟩⟩⟩⟩⟩⟩
set_option maxRecDepth 100000 in
theorem in0_r7 : ∀ w ∈ wsL_law0_r7, w ∈ lw_tbl := List.forall_mem_cons.mpr ⟨(mt_1 _ (List.mem_of_getElem? (i := 159) rfl)), List.forall_mem_cons.mpr ⟨(mt_1 _ (List.mem_of_getElem? (i := 160) rfl)), List.forall_mem_cons.mpr ⟨(mt_1 _ (List.mem_of_getElem? (i := 161) rfl)), List.forall_mem_cons.mpr ⟨(mt_2 _ (List.mem_of_getElem? (i := 228) rfl)), List.forall_mem_cons.mpr ⟨(mt_2 _ (List.mem_of_getElem? (i := 229) rfl)), List.forall_mem_cons.mpr ⟨(mt_2 _ (List.mem_of_getElem? (i := 230) rfl)), List.forall_mem_cons.mpr ⟨(mt_2 _ (List.mem_of_getElem? (i := 231) rfl)), List.forall_mem_cons.mpr ⟨(mt_2 _ (List.mem_of_getElem? (i := 234) rfl)), List.forall_mem_cons.mpr ⟨(mt_2 _ (List.mem_of_getElem? (i := 236) rfl)), List.forall_mem_cons.mpr ⟨(mt_2 _ (List.mem_of_getElem? (i := 239) rfl)), List.forall_mem_cons.mpr ⟨(mt_3 _ (List.mem_of_getElem? (i := 2) rfl)), List.forall_mem_cons.mpr ⟨(mt_3 _ (List.mem_of_getElem? (i := 4) rfl)), List.forall_mem_cons.mpr ⟨(mt_3 _ (List.mem_of_getElem? (i := 6) rfl)), List.forall_mem_cons.mpr ⟨(mt_2 _ (List.mem_of_getElem? (i := 232) rfl)), List.forall_mem_cons.mpr ⟨(mt_3 _ (List.mem_of_getElem? (i := 23) rfl)), List.forall_mem_cons.mpr ⟨(mt_3 _ (List.mem_of_getElem? (i := 24) rfl)), List.forall_mem_cons.mpr ⟨(mt_3 _ (List.mem_of_getElem? (i := 25) rfl)), List.forall_mem_cons.mpr ⟨(mt_3 _ (List.mem_of_getElem? (i := 26) rfl)), List.forall_mem_cons.mpr ⟨(mt_3 _ (List.mem_of_getElem? (i := 27) rfl)), List.forall_mem_cons.mpr ⟨(mt_3 _ (List.mem_of_getElem? (i := 28) rfl)), List.forall_mem_cons.mpr ⟨(mt_3 _ (List.mem_of_getElem? (i := 29) rfl)), List.forall_mem_cons.mpr ⟨(mt_3 _ (List.mem_of_getElem? (i := 36) rfl)), List.forall_mem_cons.mpr ⟨(mt_1 _ (List.mem_of_getElem? (i := 13) rfl)), List.forall_mem_cons.mpr ⟨(mt_3 _ (List.mem_of_getElem? (i := 30) rfl)), fun _ h => absurd h List.not_mem_nil⟩⟩⟩⟩⟩⟩⟩⟩⟩⟩⟩⟩⟩⟩⟩⟩⟩⟩⟩⟩⟩⟩⟩⟩
set_option maxRecDepth 100000 in
theorem in0_r8 : ∀ w ∈ wsL_law0_r8, w ∈ lw_tbl := List.forall_mem_cons.mpr ⟨(mt_3 _ (List.mem_of_getElem? (i := 32) rfl)), List.forall_mem_cons.mpr ⟨(mt_0 _ (List.mem_of_getElem? (i := 21) rfl)), List.forall_mem_cons.mpr ⟨(mt_3 _ (List.mem_of_getElem? (i := 33) rfl)), List.forall_mem_cons.mpr ⟨(mt_3 _ (List.mem_of_getElem? (i := 37) rfl)), List.forall_mem_cons.mpr ⟨(mt_3 _ (List.mem_of_getElem? (i := 38) rfl)), List.forall_mem_cons.mpr ⟨(mt_3 _ (List.mem_of_getElem? (i := 39) rfl)), List.forall_mem_cons.mpr ⟨(mt_3 _ (List.mem_of_getElem? (i := 40) rfl)), List.forall_mem_cons.mpr ⟨(mt_3 _ (List.mem_of_getElem? (i := 43) rfl)), List.forall_mem_cons.mpr ⟨(mt_3 _ (List.mem_of_getElem? (i := 45) rfl)), List.forall_mem_cons.mpr ⟨(mt_3 _ (List.mem_of_getElem? (i := 46) rfl)), List.forall_mem_cons.mpr ⟨(mt_3 _ (List.mem_of_getElem? (i := 41) rfl)), List.forall_mem_cons.mpr ⟨(mt_2 _ (List.mem_of_getElem? (i := 174) rfl)), List.forall_mem_cons.mpr ⟨(mt_2 _ (List.mem_of_getElem? (i := 175) rfl)), List.forall_mem_cons.mpr ⟨(mt_2 _ (List.mem_of_getElem? (i := 176) rfl)), List.forall_mem_cons.mpr ⟨(mt_2 _ (List.mem_of_getElem? (i := 177) rfl)), List.forall_mem_cons.mpr ⟨(mt_2 _ (List.mem_of_getElem? (i := 178) rfl)), List.forall_mem_cons.mpr ⟨(mt_2 _ (List.mem_of_getElem? (i := 179) rfl)), List.forall_mem_cons.mpr ⟨(mt_2 _ (List.mem_of_getElem? (i := 180) rfl)), List.forall_mem_cons.mpr ⟨(mt_2 _ (List.mem_of_getElem? (i := 184) rfl)), List.forall_mem_cons.mpr ⟨(mt_1 _ (List.mem_of_getElem? (i := 14) rfl)), List.forall_mem_cons.mpr ⟨(mt_2 _ (List.mem_of_getElem? (i := 198) rfl)), List.forall_mem_cons.mpr ⟨(mt_2 _ (List.mem_of_getElem? (i := 200) rfl)), List.forall_mem_cons.mpr ⟨(mt_2 _ (List.mem_of_getElem? (i := 185) rfl)), List.forall_mem_cons.mpr ⟨(mt_2 _ (List.mem_of_getElem? (i := 186) rfl)), fun _ h => absurd h List.not_mem_nil⟩⟩⟩⟩⟩⟩⟩⟩⟩⟩⟩⟩⟩⟩⟩⟩⟩⟩⟩⟩⟩⟩⟩⟩
set_option maxRecDepth 100000 in
theorem in0_r9 : ∀ w ∈ wsL_law0_r9, w ∈ lw_tbl := List.forall_mem_cons.mpr ⟨(mt_2 _ (List.mem_of_getElem? (i := 187) rfl)), List.forall_mem_cons.mpr ⟨(mt_2 _ (List.mem_of_getElem? (i := 188) rfl)), List.forall_mem_cons.mpr ⟨(mt_2 _ (List.mem_of_getElem? (i := 197) rfl)), List.forall_mem_cons.mpr ⟨(mt_2 _ (List.mem_of_getElem? (i := 199) rfl)), List.forall_mem_cons.mpr ⟨(mt_2 _ (List.mem_of_getElem? (i := 189) rfl)), List.forall_mem_cons.mpr ⟨(mt_2 _ (List.mem_of_getElem? (i := 191) rfl)), List.forall_mem_cons.mpr ⟨(mt_2 _ (List.mem_of_getElem? (i := 193) rfl)), List.forall_mem_cons.mpr ⟨(mt_2 _ (List.mem_of_getElem? (i := 195) rfl)), List.forall_mem_cons.mpr ⟨(mt_3 _ (List.mem_of_getElem? (i := 57) rfl)), List.forall_mem_cons.mpr ⟨(mt_3 _ (List.mem_of_getElem? (i := 58) rfl)), List.forall_mem_cons.mpr ⟨(mt_3 _ (List.mem_of_getElem? (i := 59) rfl)), List.forall_mem_cons.mpr ⟨(mt_3 _ (List.mem_of_getElem? (i := 60) rfl)), List.forall_mem_cons.mpr ⟨(mt_3 _ (List.mem_of_getElem? (i := 61) rfl)), List.forall_mem_cons.mpr ⟨(mt_3 _ (List.mem_of_getElem? (i := 62) rfl)), List.forall_mem_cons.mpr ⟨(mt_3 _ (List.mem_of_getElem? (i := 63) rfl)), List.forall_mem_cons.mpr ⟨(mt_3 _ (List.mem_of_getElem? (i := 42) rfl)), List.forall_mem_cons.mpr ⟨(mt_2 _ (List.mem_of_getElem? (i := 233) rfl)), List.forall_mem_cons.mpr ⟨(mt_3 _ (List.mem_of_getElem? (i := 44) rfl)), List.forall_mem_cons.mpr ⟨(mt_3 _ (List.mem_of_getElem? (i := 64) rfl)), List.forall_mem_cons.mpr ⟨(mt_3 _ (List.mem_of_getElem? (i := 66) rfl)), List.forall_mem_cons.mpr ⟨(mt_0 _ (List.mem_of_getElem? (i := 22) rfl)), List.forall_mem_cons.mpr ⟨(mt_3 _ (List.mem_of_getElem? (i := 67) rfl)), List.forall_mem_cons.mpr ⟨(mt_3 _ (List.mem_of_getElem? (i := 71) rfl)), List.forall_mem_cons.mpr ⟨(mt_3 _ (List.mem_of_getElem? (i := 72) rfl)), fun _ h => absurd h List.not_mem_nil⟩⟩⟩⟩⟩⟩⟩⟩⟩⟩⟩⟩⟩⟩⟩⟩⟩⟩⟩⟩⟩⟩⟩⟩
set_option maxRecDepth 100000 in
theorem in0_r10 : ∀ w ∈ wsL_law0_r10, w ∈ lw_tbl := List.forall_mem_cons.mpr ⟨(mt_3 _ (List.mem_of_getElem? (i := 73) rfl)), List.forall_mem_cons.mpr ⟨(mt_3 _ (List.mem_of_getElem? (i := 74) rfl)), List.forall_mem_cons.mpr ⟨(mt_2 _ (List.mem_of_getElem? (i := 237) rfl)), List.forall_mem_cons.mpr ⟨(mt_3 _ (List.mem_of_getElem? (i := 0) rfl)), List.forall_mem_cons.mpr ⟨(mt_3 _ (List.mem_of_getElem? (i := 75) rfl)), List.forall_mem_cons.mpr ⟨(mt_3 _ (List.mem_of_getElem? (i := 76) rfl)), List.forall_mem_cons.mpr ⟨(mt_3 _ (List.mem_of_getElem? (i := 77) rfl)), List.forall_mem_cons.mpr ⟨(mt_3 _ (List.mem_of_getElem? (i := 78) rfl)), List.forall_mem_cons.mpr ⟨(mt_3 _ (List.mem_of_getElem? (i := 79) rfl)), List.forall_mem_cons.mpr ⟨(mt_3 _ (List.mem_of_getElem? (i := 80) rfl)), List.forall_mem_cons.mpr ⟨(mt_3 _ (List.mem_of_getElem? (i := 81) rfl)), List.forall_mem_cons.mpr ⟨(mt_3 _ (List.mem_of_getElem? (i := 82) rfl)), List.forall_mem_cons.mpr ⟨(mt_3 _ (List.mem_of_getElem? (i := 47) rfl)), List.forall_mem_cons.mpr ⟨(mt_3 _ (List.mem_of_getElem? (i := 84) rfl)), List.forall_mem_cons.mpr ⟨(mt_3 _ (List.mem_of_getElem? (i := 3) rfl)), List.forall_mem_cons.mpr ⟨(mt_3 _ (List.mem_of_getElem? (i := 95) rfl)), List.forall_mem_cons.mpr ⟨(mt_3 _ (List.mem_of_getElem? (i := 96) rfl)), List.forall_mem_cons.mpr ⟨(mt_3 _ (List.mem_of_getElem? (i := 97) rfl)), List.forall_mem_cons.mpr ⟨(mt_3 _ (List.mem_of_getElem? (i := 98) rfl)), List.forall_mem_cons.mpr ⟨(mt_3 _ (List.mem_of_getElem? (i := 99) rfl)), List.forall_mem_cons.mpr ⟨(mt_3 _ (List.mem_of_getElem? (i := 100) rfl)), List.forall_mem_cons.mpr ⟨(mt_3 _ (List.mem_of_getElem? (i := 101) rfl)), List.forall_mem_cons.mpr ⟨(mt_2 _ (List.mem_of_getElem? (i := 235) rfl)), List.forall_mem_cons.mpr ⟨(mt_1 _ (List.mem_of_getElem? (i := 162) rfl)), fun _ h => absurd h List.not_mem_nil⟩⟩⟩⟩⟩⟩⟩⟩⟩⟩⟩⟩⟩⟩⟩⟩⟩⟩⟩⟩⟩⟩⟩⟩
set_option maxRecDepth 100000 in
theorem in0_r11 : ∀ w ∈ wsL_law0_r11, w ∈ lw_tbl := List.forall_mem_cons.mpr ⟨(mt_1 _ (List.mem_of_getElem? (i := 163) rfl)), List.forall_mem_cons.mpr ⟨(mt_1 _ (List.mem_of_getElem? (i := 164) rfl)), List.forall_mem_cons.mpr ⟨(mt_3 _ (List.mem_of_getElem? (i := 103) rfl)), List.forall_mem_cons.mpr ⟨(mt_3 _ (List.mem_of_getElem? (i := 104) rfl)), List.forall_mem_cons.mpr ⟨(mt_3 _ (List.mem_of_getElem? (i := 105) rfl)), List.forall_mem_cons.mpr ⟨(mt_3 _ (List.mem_of_getElem? (i := 106) rfl)), List.forall_mem_cons.mpr ⟨(mt_3 _ (List.mem_of_getElem? (i := 107) rfl)), List.forall_mem_cons.mpr ⟨(mt_3 _ (List.mem_of_getElem? (i := 108) rfl)), List.forall_mem_cons.mpr ⟨(mt_3 _ (List.mem_of_getElem? (i := 109) rfl)), List.forall_mem_cons.mpr ⟨(mt_3 _ (List.mem_of_getElem? (i := 86) rfl)), List.forall_mem_cons.mpr ⟨(mt_3 _ (List.mem_of_getElem? (i := 87) rfl)), List.forall_mem_cons.mpr ⟨(mt_3 _ (List.mem_of_getElem? (i := 88) rfl)), List.forall_mem_cons.mpr ⟨(mt_3 _ (List.mem_of_getElem? (i := 89) rfl)), List.forall_mem_cons.mpr ⟨(mt_3 _ (List.mem_of_getElem? (i := 90) rfl)), List.forall_mem_cons.mpr ⟨(mt_3 _ (List.mem_of_getElem? (i := 91) rfl)), List.forall_mem_cons.mpr ⟨(mt_3 _ (List.mem_of_getElem? (i := 92) rfl)), List.forall_mem_cons.mpr ⟨(mt_1 _ (List.mem_of_getElem? (i := 191) rfl)), List.forall_mem_cons.mpr ⟨(mt_1 _ (List.mem_of_getElem? (i := 193) rfl)), List.forall_mem_cons.mpr ⟨(mt_0 _ (List.mem_of_getElem? (i := 12) rfl)), List.forall_mem_cons.mpr ⟨(mt_1 _ (List.mem_of_getElem? (i := 194) rfl)), List.forall_mem_cons.mpr ⟨(mt_3 _ (List.mem_of_getElem? (i := 138) rfl)), List.forall_mem_cons.mpr ⟨(mt_3 _ (List.mem_of_getElem? (i := 139) rfl)), List.forall_mem_cons.mpr ⟨(mt_3 _ (List.mem_of_getElem? (i := 140) rfl)), List.forall_mem_cons.mpr ⟨(mt_3 _ (List.mem_of_getElem? (i := 141) rfl)), fun _ h => absurd h List.not_mem_nil⟩⟩⟩⟩⟩⟩⟩⟩⟩⟩⟩⟩⟩⟩⟩⟩⟩⟩⟩⟩⟩⟩⟩⟩
set_option maxRecDepth 100000 in
theorem in0_r12 : ∀ w ∈ wsL_law0_r12, w ∈ lw_tbl := List.forall_mem_cons.mpr ⟨(mt_3 _ (List.mem_of_getElem? (i := 142) rfl)), List.forall_mem_cons.mpr ⟨(mt_3 _ (List.mem_of_getElem? (i := 143) rfl)), List.forall_mem_cons.mpr ⟨(mt_3 _ (List.mem_of_getElem? (i := 144) rfl)), List.forall_mem_cons.mpr ⟨(mt_3 _ (List.mem_of_getElem? (i := 145) rfl)), List.forall_mem_cons.mpr ⟨(mt_3 _ (List.mem_of_getElem? (i := 131) rfl)), List.forall_mem_cons.mpr ⟨(mt_3 _ (List.mem_of_getElem? (i := 132) rfl)), List.forall_mem_cons.mpr ⟨(mt_3 _ (List.mem_of_getElem? (i := 133) rfl)), List.forall_mem_cons.mpr ⟨(mt_3 _ (List.mem_of_getElem? (i := 134) rfl)), List.forall_mem_cons.mpr ⟨(mt_3 _ (List.mem_of_getElem? (i := 135) rfl)), List.forall_mem_cons.mpr ⟨(mt_3 _ (List.mem_of_getElem? (i := 136) rfl)), List.forall_mem_cons.mpr ⟨(mt_3 _ (List.mem_of_getElem? (i := 137) rfl)), List.forall_mem_cons.mpr ⟨(mt_3 _ (List.mem_of_getElem? (i := 154) rfl)), List.forall_mem_cons.mpr ⟨(mt_3 _ (List.mem_of_getElem? (i := 155) rfl)), List.forall_mem_cons.mpr ⟨(mt_3 _ (List.mem_of_getElem? (i := 156) rfl)), List.forall_mem_cons.mpr ⟨(mt_3 _ (List.mem_of_getElem? (i := 161) rfl)), List.forall_mem_cons.mpr ⟨(mt_3 _ (List.mem_of_getElem? (i := 157) rfl)), List.forall_mem_cons.mpr ⟨(mt_3 _ (List.mem_of_getElem? (i := 158) rfl)), List.forall_mem_cons.mpr ⟨(mt_3 _ (List.mem_of_getElem? (i := 159) rfl)), List.forall_mem_cons.mpr ⟨(mt_3 _ (List.mem_of_getElem? (i := 160) rfl)), List.forall_mem_cons.mpr ⟨(mt_1 _ (List.mem_of_getElem? (i := 114) rfl)), List.forall_mem_cons.mpr ⟨(mt_1 _ (List.mem_of_getElem? (i := 115) rfl)), List.forall_mem_cons.mpr ⟨(mt_1 _ (List.mem_of_getElem? (i := 116) rfl)), List.forall_mem_cons.mpr ⟨(mt_1 _ (List.mem_of_getElem? (i := 117) rfl)), List.forall_mem_cons.mpr ⟨(mt_1 _ (List.mem_of_getElem? (i := 118) rfl)), fun _ h => absurd h List.not_mem_nil⟩⟩⟩⟩⟩⟩⟩⟩⟩⟩⟩⟩⟩⟩⟩⟩⟩⟩⟩⟩⟩⟩⟩⟩
set_option maxRecDepth 100000 in
theorem in0_r13 : ∀ w ∈ wsL_law0_r13, w ∈ lw_tbl := List.forall_mem_cons.mpr ⟨(mt_1 _ (List.mem_of_getElem? (i := 120) rfl)), List.forall_mem_cons.mpr ⟨(mt_0 _ (List.mem_of_getElem? (i := 0) rfl)), List.forall_mem_cons.mpr ⟨(mt_1 _ (List.mem_of_getElem? (i := 121) rfl)), List.forall_mem_cons.mpr ⟨(mt_1 _ (List.mem_of_getElem? (i := 122) rfl)), List.forall_mem_cons.mpr ⟨(mt_1 _ (List.mem_of_getElem? (i := 124) rfl)), List.forall_mem_cons.mpr ⟨(mt_0 _ (List.mem_of_getElem? (i := 1) rfl)), List.forall_mem_cons.mpr ⟨(mt_1 _ (List.mem_of_getElem? (i := 125) rfl)), List.forall_mem_cons.mpr ⟨(mt_3 _ (List.mem_of_getElem? (i := 1) rfl)), List.forall_mem_cons.mpr ⟨(mt_1 _ (List.mem_of_getElem? (i := 126) rfl)), List.forall_mem_cons.mpr ⟨(mt_1 _ (List.mem_of_getElem? (i := 127) rfl)), List.forall_mem_cons.mpr ⟨(mt_1 _ (List.mem_of_getElem? (i := 128) rfl)), List.forall_mem_cons.mpr ⟨(mt_1 _ (List.mem_of_getElem? (i := 129) rfl)), List.forall_mem_cons.mpr ⟨(mt_1 _ (List.mem_of_getElem? (i := 130) rfl)), List.forall_mem_cons.mpr ⟨(mt_1 _ (List.mem_of_getElem? (i := 132) rfl)), List.forall_mem_cons.mpr ⟨(mt_0 _ (List.mem_of_getElem? (i := 2) rfl)), List.forall_mem_cons.mpr ⟨(mt_1 _ (List.mem_of_getElem? (i := 133) rfl)), List.forall_mem_cons.mpr ⟨(mt_1 _ (List.mem_of_getElem? (i := 134) rfl)), List.forall_mem_cons.mpr ⟨(mt_1 _ (List.mem_of_getElem? (i := 135) rfl)), List.forall_mem_cons.mpr ⟨(mt_1 _ (List.mem_of_getElem? (i := 136) rfl)), List.forall_mem_cons.mpr ⟨(mt_1 _ (List.mem_of_getElem? (i := 137) rfl)), List.forall_mem_cons.mpr ⟨(mt_1 _ (List.mem_of_getElem? (i := 138) rfl)), List.forall_mem_cons.mpr ⟨(mt_1 _ (List.mem_of_getElem? (i := 140) rfl)), List.forall_mem_cons.mpr ⟨(mt_0 _ (List.mem_of_getElem? (i := 3) rfl)), List.forall_mem_cons.mpr ⟨(mt_1 _ (List.mem_of_getElem? (i := 141) rfl)), fun _ h => absurd h List.not_mem_nil⟩⟩⟩⟩⟩⟩⟩⟩⟩⟩⟩⟩⟩⟩⟩⟩⟩⟩⟩⟩⟩⟩⟩⟩
set_option maxRecDepth 100000 in
theorem in0_r14 : ∀ w ∈ wsL_law0_r14, w ∈ lw_tbl := List.forall_mem_cons.mpr ⟨(mt_2 _ (List.mem_of_getElem? (i := 95) rfl)), List.forall_mem_cons.mpr ⟨(mt_1 _ (List.mem_of_getElem? (i := 40) rfl)), List.forall_mem_cons.mpr ⟨(mt_1 _ (List.mem_of_getElem? (i := 154) rfl)), List.forall_mem_cons.mpr ⟨(mt_2 _ (List.mem_of_getElem? (i := 196) rfl)), List.forall_mem_cons.mpr ⟨(mt_2 _ (List.mem_of_getElem? (i := 194) rfl)), List.forall_mem_cons.mpr ⟨(mt_1 _ (List.mem_of_getElem? (i := 142) rfl)), List.forall_mem_cons.mpr ⟨(mt_1 _ (List.mem_of_getElem? (i := 144) rfl)), List.forall_mem_cons.mpr ⟨(mt_0 _ (List.mem_of_getElem? (i := 4) rfl)), List.forall_mem_cons.mpr ⟨(mt_1 _ (List.mem_of_getElem? (i := 145) rfl)), List.forall_mem_cons.mpr ⟨(mt_1 _ (List.mem_of_getElem? (i := 146) rfl)), List.forall_mem_cons.mpr ⟨(mt_1 _ (List.mem_of_getElem? (i := 148) rfl)), List.forall_mem_cons.mpr ⟨(mt_0 _ (List.mem_of_getElem? (i := 5) rfl)), List.forall_mem_cons.mpr ⟨(mt_1 _ (List.mem_of_getElem? (i := 149) rfl)), List.forall_mem_cons.mpr ⟨(mt_2 _ (List.mem_of_getElem? (i := 190) rfl)), List.forall_mem_cons.mpr ⟨(mt_2 _ (List.mem_of_getElem? (i := 192) rfl)), List.forall_mem_cons.mpr ⟨(mt_1 _ (List.mem_of_getElem? (i := 150) rfl)), List.forall_mem_cons.mpr ⟨(mt_1 _ (List.mem_of_getElem? (i := 151) rfl)), List.forall_mem_cons.mpr ⟨(mt_1 _ (List.mem_of_getElem? (i := 152) rfl)), List.forall_mem_cons.mpr ⟨(mt_1 _ (List.mem_of_getElem? (i := 153) rfl)), List.forall_mem_cons.mpr ⟨(mt_2 _ (List.mem_of_getElem? (i := 99) rfl)), List.forall_mem_cons.mpr ⟨(mt_2 _ (List.mem_of_getElem? (i := 238) rfl)), List.forall_mem_cons.mpr ⟨(mt_1 _ (List.mem_of_getElem? (i := 155) rfl)), List.forall_mem_cons.mpr ⟨(mt_1 _ (List.mem_of_getElem? (i := 157) rfl)), List.forall_mem_cons.mpr ⟨(mt_0 _ (List.mem_of_getElem? (i := 6) rfl)), fun _ h => absurd h List.not_mem_nil⟩⟩⟩⟩⟩⟩⟩⟩⟩⟩⟩⟩⟩⟩⟩⟩⟩⟩⟩⟩⟩⟩⟩⟩
set_option maxRecDepth 100000 in
theorem in0_r15 : ∀ w ∈ wsL_law0_r15, w ∈ lw_tbl := List.forall_mem_cons.mpr ⟨(mt_1 _ (List.mem_of_getElem? (i := 158) rfl)), List.forall_mem_cons.mpr ⟨(mt_3 _ (List.mem_of_getElem? (i := 7) rfl)), List.forall_mem_cons.mpr ⟨(mt_1 _ (List.mem_of_getElem? (i := 165) rfl)), List.forall_mem_cons.mpr ⟨(mt_1 _ (List.mem_of_getElem? (i := 167) rfl)), List.forall_mem_cons.mpr ⟨(mt_0 _ (List.mem_of_getElem? (i := 7) rfl)), List.forall_mem_cons.mpr ⟨(mt_1 _ (List.mem_of_getElem? (i := 168) rfl)), List.forall_mem_cons.mpr ⟨(mt_1 _ (List.mem_of_getElem? (i := 42) rfl)), List.forall_mem_cons.mpr ⟨(mt_1 _ (List.mem_of_getElem? (i := 182) rfl)), List.forall_mem_cons.mpr ⟨(mt_3 _ (List.mem_of_getElem? (i := 5) rfl)), List.forall_mem_cons.mpr ⟨(mt_1 _ (List.mem_of_getElem? (i := 169) rfl)), List.forall_mem_cons.mpr ⟨(mt_1 _ (List.mem_of_getElem? (i := 171) rfl)), List.forall_mem_cons.mpr ⟨(mt_0 _ (List.mem_of_getElem? (i := 8) rfl)), List.forall_mem_cons.mpr ⟨(mt_1 _ (List.mem_of_getElem? (i := 172) rfl)), List.forall_mem_cons.mpr ⟨(mt_1 _ (List.mem_of_getElem? (i := 173) rfl)), List.forall_mem_cons.mpr ⟨(mt_1 _ (List.mem_of_getElem? (i := 174) rfl)), List.forall_mem_cons.mpr ⟨(mt_1 _ (List.mem_of_getElem? (i := 175) rfl)), List.forall_mem_cons.mpr ⟨(mt_1 _ (List.mem_of_getElem? (i := 176) rfl)), List.forall_mem_cons.mpr ⟨(mt_1 _ (List.mem_of_getElem? (i := 177) rfl)), List.forall_mem_cons.mpr ⟨(mt_1 _ (List.mem_of_getElem? (i := 179) rfl)), List.forall_mem_cons.mpr ⟨(mt_0 _ (List.mem_of_getElem? (i := 9) rfl)), List.forall_mem_cons.mpr ⟨(mt_1 _ (List.mem_of_getElem? (i := 180) rfl)), List.forall_mem_cons.mpr ⟨(mt_1 _ (List.mem_of_getElem? (i := 181) rfl)), List.forall_mem_cons.mpr ⟨(mt_1 _ (List.mem_of_getElem? (i := 183) rfl)), List.forall_mem_cons.mpr ⟨(mt_1 _ (List.mem_of_getElem? (i := 185) rfl)), fun _ h => absurd h List.not_mem_nil⟩⟩⟩⟩⟩⟩⟩⟩⟩⟩⟩⟩⟩⟩⟩⟩⟩⟩⟩⟩⟩⟩⟩⟩
set_option maxRecDepth 100000 in
theorem in0_r16 : ∀ w ∈ wsL_law0_r16, w ∈ lw_tbl := List.forall_mem_cons.mpr ⟨(mt_0 _ (List.mem_of_getElem? (i := 10) rfl)), List.forall_mem_cons.mpr ⟨(mt_1 _ (List.mem_of_getElem? (i := 186) rfl)), List.forall_mem_cons.mpr ⟨(mt_1 _ (List.mem_of_getElem? (i := 195) rfl)), List.forall_mem_cons.mpr ⟨(mt_1 _ (List.mem_of_getElem? (i := 196) rfl)), List.forall_mem_cons.mpr ⟨(mt_1 _ (List.mem_of_getElem? (i := 197) rfl)), List.forall_mem_cons.mpr ⟨(mt_1 _ (List.mem_of_getElem? (i := 187) rfl)), List.forall_mem_cons.mpr ⟨(mt_1 _ (List.mem_of_getElem? (i := 189) rfl)), List.forall_mem_cons.mpr ⟨(mt_0 _ (List.mem_of_getElem? (i := 11) rfl)), List.forall_mem_cons.mpr ⟨(mt_1 _ (List.mem_of_getElem? (i := 190) rfl)), List.forall_mem_cons.mpr ⟨(mt_1 _ (List.mem_of_getElem? (i := 198) rfl)), List.forall_mem_cons.mpr ⟨(mt_1 _ (List.mem_of_getElem? (i := 200) rfl)), List.forall_mem_cons.mpr ⟨(mt_0 _ (List.mem_of_getElem? (i := 13) rfl)), List.forall_mem_cons.mpr ⟨(mt_1 _ (List.mem_of_getElem? (i := 201) rfl)), List.forall_mem_cons.mpr ⟨(mt_1 _ (List.mem_of_getElem? (i := 207) rfl)), List.forall_mem_cons.mpr ⟨(mt_1 _ (List.mem_of_getElem? (i := 208) rfl)), List.forall_mem_cons.mpr ⟨(mt_1 _ (List.mem_of_getElem? (i := 209) rfl)), List.forall_mem_cons.mpr ⟨(mt_1 _ (List.mem_of_getElem? (i := 212) rfl)), List.forall_mem_cons.mpr ⟨(mt_1 _ (List.mem_of_getElem? (i := 213) rfl)), List.forall_mem_cons.mpr ⟨(mt_1 _ (List.mem_of_getElem? (i := 214) rfl)), List.forall_mem_cons.mpr ⟨(mt_1 _ (List.mem_of_getElem? (i := 215) rfl)), List.forall_mem_cons.mpr ⟨(mt_2 _ (List.mem_of_getElem? (i := 167) rfl)), List.forall_mem_cons.mpr ⟨(mt_2 _ (List.mem_of_getElem? (i := 168) rfl)), List.forall_mem_cons.mpr ⟨(mt_2 _ (List.mem_of_getElem? (i := 169) rfl)), List.forall_mem_cons.mpr ⟨(mt_2 _ (List.mem_of_getElem? (i := 170) rfl)), fun _ h => absurd h List.not_mem_nil⟩⟩⟩⟩⟩⟩⟩⟩⟩⟩⟩⟩⟩⟩⟩⟩⟩⟩⟩⟩⟩⟩⟩⟩
set_option maxRecDepth 100000 in
theorem in0_r17 : ∀ w ∈ wsL_law0_r17, w ∈ lw_tbl := List.forall_mem_cons.mpr ⟨(mt_2 _ (List.mem_of_getElem? (i := 171) rfl)), List.forall_mem_cons.mpr ⟨(mt_2 _ (List.mem_of_getElem? (i := 172) rfl)), List.forall_mem_cons.mpr ⟨(mt_2 _ (List.mem_of_getElem? (i := 173) rfl)), List.forall_mem_cons.mpr ⟨(mt_3 _ (List.mem_of_getElem? (i := 110) rfl)), List.forall_mem_cons.mpr ⟨(mt_3 _ (List.mem_of_getElem? (i := 111) rfl)), List.forall_mem_cons.mpr ⟨(mt_3 _ (List.mem_of_getElem? (i := 112) rfl)), List.forall_mem_cons.mpr ⟨(mt_3 _ (List.mem_of_getElem? (i := 113) rfl)), List.forall_mem_cons.mpr ⟨(mt_3 _ (List.mem_of_getElem? (i := 114) rfl)), List.forall_mem_cons.mpr ⟨(mt_3 _ (List.mem_of_getElem? (i := 115) rfl)), List.forall_mem_cons.mpr ⟨(mt_3 _ (List.mem_of_getElem? (i := 116) rfl)), List.forall_mem_cons.mpr ⟨(mt_3 _ (List.mem_of_getElem? (i := 117) rfl)), List.forall_mem_cons.mpr ⟨(mt_3 _ (List.mem_of_getElem? (i := 119) rfl)), List.forall_mem_cons.mpr ⟨(mt_0 _ (List.mem_of_getElem? (i := 23) rfl)), List.forall_mem_cons.mpr ⟨(mt_3 _ (List.mem_of_getElem? (i := 120) rfl)), List.forall_mem_cons.mpr ⟨(mt_3 _ (List.mem_of_getElem? (i := 162) rfl)), List.forall_mem_cons.mpr ⟨(mt_3 _ (List.mem_of_getElem? (i := 163) rfl)), List.forall_mem_cons.mpr ⟨(mt_3 _ (List.mem_of_getElem? (i := 164) rfl)), List.forall_mem_cons.mpr ⟨(mt_3 _ (List.mem_of_getElem? (i := 187) rfl)), List.forall_mem_cons.mpr ⟨(mt_3 _ (List.mem_of_getElem? (i := 165) rfl)), List.forall_mem_cons.mpr ⟨(mt_3 _ (List.mem_of_getElem? (i := 166) rfl)), List.forall_mem_cons.mpr ⟨(mt_3 _ (List.mem_of_getElem? (i := 167) rfl)), List.forall_mem_cons.mpr ⟨(mt_3 _ (List.mem_of_getElem? (i := 168) rfl)), List.forall_mem_cons.mpr ⟨(mt_3 _ (List.mem_of_getElem? (i := 169) rfl)), List.forall_mem_cons.mpr ⟨(mt_3 _ (List.mem_of_getElem? (i := 170) rfl)), fun _ h => absurd h List.not_mem_nil⟩⟩⟩⟩⟩⟩⟩⟩⟩⟩⟩⟩⟩⟩⟩⟩⟩⟩⟩⟩⟩⟩⟩⟩
set_option maxRecDepth 100000 in
theorem in0_r18 : ∀ w ∈ wsL_law0_r18, w ∈ lw_tbl := List.forall_mem_cons.mpr ⟨(mt_3 _ (List.mem_of_getElem? (i := 171) rfl)), List.forall_mem_cons.mpr ⟨(mt_3 _ (List.mem_of_getElem? (i := 172) rfl)), List.forall_mem_cons.mpr ⟨(mt_3 _ (List.mem_of_getElem? (i := 173) rfl)), List.forall_mem_cons.mpr ⟨(mt_3 _ (List.mem_of_getElem? (i := 174) rfl)), List.forall_mem_cons.mpr ⟨(mt_3 _ (List.mem_of_getElem? (i := 175) rfl)), List.forall_mem_cons.mpr ⟨(mt_3 _ (List.mem_of_getElem? (i := 176) rfl)), List.forall_mem_cons.mpr ⟨(mt_3 _ (List.mem_of_getElem? (i := 177) rfl)), List.forall_mem_cons.mpr ⟨(mt_3 _ (List.mem_of_getElem? (i := 178) rfl)), List.forall_mem_cons.mpr ⟨(mt_3 _ (List.mem_of_getElem? (i := 179) rfl)), List.forall_mem_cons.mpr ⟨(mt_3 _ (List.mem_of_getElem? (i := 180) rfl)), List.forall_mem_cons.mpr ⟨(mt_3 _ (List.mem_of_getElem? (i := 181) rfl)), List.forall_mem_cons.mpr ⟨(mt_3 _ (List.mem_of_getElem? (i := 182) rfl)), List.forall_mem_cons.mpr ⟨(mt_3 _ (List.mem_of_getElem? (i := 183) rfl)), List.forall_mem_cons.mpr ⟨(mt_3 _ (List.mem_of_getElem? (i := 184) rfl)), List.forall_mem_cons.mpr ⟨(mt_3 _ (List.mem_of_getElem? (i := 185) rfl)), List.forall_mem_cons.mpr ⟨(mt_3 _ (List.mem_of_getElem? (i := 186) rfl)), List.forall_mem_cons.mpr ⟨(mt_3 _ (List.mem_of_getElem? (i := 122) rfl)), List.forall_mem_cons.mpr ⟨(mt_3 _ (List.mem_of_getElem? (i := 123) rfl)), List.forall_mem_cons.mpr ⟨(mt_3 _ (List.mem_of_getElem? (i := 124) rfl)), List.forall_mem_cons.mpr ⟨(mt_3 _ (List.mem_of_getElem? (i := 130) rfl)), List.forall_mem_cons.mpr ⟨(mt_3 _ (List.mem_of_getElem? (i := 125) rfl)), List.forall_mem_cons.mpr ⟨(mt_3 _ (List.mem_of_getElem? (i := 126) rfl)), List.forall_mem_cons.mpr ⟨(mt_3 _ (List.mem_of_getElem? (i := 127) rfl)), List.forall_mem_cons.mpr ⟨(mt_3 _ (List.mem_of_getElem? (i := 128) rfl)), fun _ h => absurd h List.not_mem_nil⟩⟩⟩⟩⟩⟩⟩⟩⟩⟩⟩⟩⟩⟩⟩⟩⟩⟩⟩⟩⟩⟩⟩⟩
set_option maxRecDepth 100000 in
theorem in0_r19 : ∀ w ∈ wsL_law0_r19, w ∈ lw_tbl := List.forall_mem_cons.mpr ⟨(mt_3 _ (List.mem_of_getElem? (i := 146) rfl)), List.forall_mem_cons.mpr ⟨(mt_3 _ (List.mem_of_getElem? (i := 147) rfl)), List.forall_mem_cons.mpr ⟨(mt_3 _ (List.mem_of_getElem? (i := 148) rfl)), List.forall_mem_cons.mpr ⟨(mt_3 _ (List.mem_of_getElem? (i := 153) rfl)), List.forall_mem_cons.mpr ⟨(mt_3 _ (List.mem_of_getElem? (i := 149) rfl)), List.forall_mem_cons.mpr ⟨(mt_3 _ (List.mem_of_getElem? (i := 150) rfl)), List.forall_mem_cons.mpr ⟨(mt_3 _ (List.mem_of_getElem? (i := 151) rfl)), List.forall_mem_cons.mpr ⟨(mt_3 _ (List.mem_of_getElem? (i := 152) rfl)), fun _ h => absurd h List.not_mem_nil⟩⟩⟩⟩⟩⟩⟩⟩
set_option maxRecDepth 100000 in
theorem in0_l0 : ∀ w ∈ ([Cond.laysFinal RX0 "Divisionorder$Deed" "tract" "LDivisionorder$Tract;", Cond.laysFinal RX0 "Divisionorder$Deed" "from" "I", Cond.laysFinal RX0 "Divisionorder$Deed" "to" "I", Cond.laysFinal RX0 "Divisionorder$Deed" "parts" "I", Cond.laysFinal RX0 "Divisionorder$Deed" "month" "I"] : List Cond), w ∈ lw_tbl := List.forall_mem_cons.mpr ⟨(mt_2 _ (List.mem_of_getElem? (i := 152) rfl)), List.forall_mem_cons.mpr ⟨(mt_2 _ (List.mem_of_getElem? (i := 154) rfl)), List.forall_mem_cons.mpr ⟨(mt_2 _ (List.mem_of_getElem? (i := 156) rfl)), List.forall_mem_cons.mpr ⟨(mt_2 _ (List.mem_of_getElem? (i := 158) rfl)), List.forall_mem_cons.mpr ⟨(mt_2 _ (List.mem_of_getElem? (i := 160) rfl)), fun _ h => absurd h List.not_mem_nil⟩⟩⟩⟩⟩
set_option maxRecDepth 100000 in
theorem in0_x0 : ∀ w ∈ wsX00, w ∈ lw_tbl := in0_l0
set_option maxRecDepth 100000 in
theorem in0_l1 : ∀ w ∈ ([Cond.laysFinal RX1 "Divisionorder$Lease" "tract" "LDivisionorder$Tract;", Cond.laysFinal RX1 "Divisionorder$Lease" "lessor" "I", Cond.laysFinal RX1 "Divisionorder$Lease" "lessee" "I", Cond.laysFinal RX1 "Divisionorder$Lease" "royalty" "I", Cond.lays RX1 "Divisionorder$Lease" "firstMonth" "I", Cond.lays RX1 "Divisionorder$Lease" "lastOfTerm" "I"] : List Cond), w ∈ lw_tbl := List.forall_mem_cons.mpr ⟨(mt_2 _ (List.mem_of_getElem? (i := 201) rfl)), List.forall_mem_cons.mpr ⟨(mt_2 _ (List.mem_of_getElem? (i := 203) rfl)), List.forall_mem_cons.mpr ⟨(mt_2 _ (List.mem_of_getElem? (i := 205) rfl)), List.forall_mem_cons.mpr ⟨(mt_2 _ (List.mem_of_getElem? (i := 207) rfl)), List.forall_mem_cons.mpr ⟨(mt_2 _ (List.mem_of_getElem? (i := 209) rfl)), List.forall_mem_cons.mpr ⟨(mt_2 _ (List.mem_of_getElem? (i := 211) rfl)), fun _ h => absurd h List.not_mem_nil⟩⟩⟩⟩⟩⟩
set_option maxRecDepth 100000 in
theorem in0_x1 : ∀ w ∈ wsX10, w ∈ lw_tbl := in0_l1
set_option maxRecDepth 100000 in
theorem in0_l2 : ∀ w ∈ ([Cond.laysFinal RX2 "Divisionorder$Parting" "weights" "[J", Cond.laysFinal RX2 "Divisionorder$Parting" "parts" "[J", Cond.laysFinal RX2 "Divisionorder$Parting" "rests" "[J"] : List Cond), w ∈ lw_tbl := List.forall_mem_cons.mpr ⟨(mt_1 _ (List.mem_of_getElem? (i := 44) rfl)), List.forall_mem_cons.mpr ⟨(mt_1 _ (List.mem_of_getElem? (i := 46) rfl)), List.forall_mem_cons.mpr ⟨(mt_1 _ (List.mem_of_getElem? (i := 48) rfl)), fun _ h => absurd h List.not_mem_nil⟩⟩⟩
set_option maxRecDepth 100000 in
theorem in0_x2 : ∀ w ∈ wsX20, w ∈ lw_tbl := in0_l2
set_option maxRecDepth 100000 in
theorem in0_l3 : ∀ w ∈ ([Cond.laysFinal RX3 "Divisionorder$Tract" "acres" "I", Cond.laysFinal RX3 "Divisionorder$Tract" "firstOwner" "I", Cond.lays RX3 "Divisionorder$Tract" "unit" "LDivisionorder$Unit;"] : List Cond), w ∈ lw_tbl := List.forall_mem_cons.mpr ⟨(mt_2 _ (List.mem_of_getElem? (i := 101) rfl)), List.forall_mem_cons.mpr ⟨(mt_2 _ (List.mem_of_getElem? (i := 103) rfl)), List.forall_mem_cons.mpr ⟨(mt_2 _ (List.mem_of_getElem? (i := 105) rfl)), fun _ h => absurd h List.not_mem_nil⟩⟩⟩
set_option maxRecDepth 100000 in
theorem in0_x3 : ∀ w ∈ wsX30, w ∈ lw_tbl := in0_l3
set_option maxRecDepth 100000 in
theorem in0_l4 : ∀ w ∈ ([Cond.laysFinal RX4 "Divisionorder$Unit" "firstMonth" "I", Cond.laysFinal RX4 "Divisionorder$Unit" "refusing" "[I", Cond.laysFinal RX4 "Divisionorder$Unit" "barrels" "[I", Cond.laysFinal RX4 "Divisionorder$Unit" "gross" "[I", Cond.laysFinal RX4 "Divisionorder$Unit" "costs" "[I", Cond.laysFinal RX4 "Divisionorder$Unit" "dues" "[J", Cond.laysFinal RX4 "Divisionorder$Unit" "balances" "[J"] : List Cond), w ∈ lw_tbl := List.forall_mem_cons.mpr ⟨(mt_3 _ (List.mem_of_getElem? (i := 8) rfl)), List.forall_mem_cons.mpr ⟨(mt_3 _ (List.mem_of_getElem? (i := 10) rfl)), List.forall_mem_cons.mpr ⟨(mt_3 _ (List.mem_of_getElem? (i := 12) rfl)), List.forall_mem_cons.mpr ⟨(mt_3 _ (List.mem_of_getElem? (i := 14) rfl)), List.forall_mem_cons.mpr ⟨(mt_3 _ (List.mem_of_getElem? (i := 16) rfl)), List.forall_mem_cons.mpr ⟨(mt_3 _ (List.mem_of_getElem? (i := 18) rfl)), List.forall_mem_cons.mpr ⟨(mt_3 _ (List.mem_of_getElem? (i := 20) rfl)), fun _ h => absurd h List.not_mem_nil⟩⟩⟩⟩⟩⟩⟩
set_option maxRecDepth 100000 in
theorem in0_x4 : ∀ w ∈ wsX40, w ∈ lw_tbl := in0_l4
set_option maxRecDepth 100000 in
theorem in0_l5 : ∀ w ∈ ([Cond.laysFinal RX5 "Divisionorder$Well" "unit" "LDivisionorder$Unit;", Cond.laysFinal RX5 "Divisionorder$Well" "barrels" "[I", Cond.laysFinal RX5 "Divisionorder$Well" "prices" "[I", Cond.laysFinal RX5 "Divisionorder$Well" "costs" "[I"] : List Cond), w ∈ lw_tbl := List.forall_mem_cons.mpr ⟨(mt_3 _ (List.mem_of_getElem? (i := 48) rfl)), List.forall_mem_cons.mpr ⟨(mt_3 _ (List.mem_of_getElem? (i := 50) rfl)), List.forall_mem_cons.mpr ⟨(mt_3 _ (List.mem_of_getElem? (i := 52) rfl)), List.forall_mem_cons.mpr ⟨(mt_3 _ (List.mem_of_getElem? (i := 54) rfl)), fun _ h => absurd h List.not_mem_nil⟩⟩⟩⟩
set_option maxRecDepth 100000 in
theorem in0_x5 : ∀ w ∈ wsX50, w ∈ lw_tbl := in0_l5
set_option maxRecDepth 100000 in
theorem in0_l6 : ∀ w ∈ ([Cond.lays RX6 "Divisionorder" "now" "I", Cond.laysFinal RX6 "Divisionorder" "tracts" "[LDivisionorder$Tract;", Cond.lays RX6 "Divisionorder" "tractCount" "I", Cond.laysFinal RX6 "Divisionorder" "deeds" "[LDivisionorder$Deed;", Cond.lays RX6 "Divisionorder" "deedCount" "I", Cond.laysFinal RX6 "Divisionorder" "leases" "[LDivisionorder$Lease;", Cond.lays RX6 "Divisionorder" "leaseCount" "I", Cond.laysFinal RX6 "Divisionorder" "units" "[LDivisionorder$Unit;", Cond.lays RX6 "Divisionorder" "unitCount" "I", Cond.laysFinal RX6 "Divisionorder" "wells" "[LDivisionorder$Well;", Cond.lays RX6 "Divisionorder" "wellCount" "I", Cond.laysFinal RX6 "Divisionorder" "taxesTold" "[I", Cond.lays RX6 "Divisionorder" "penaltyHundredths" "I", Cond.lays RX6 "Divisionorder" "suspendedOwners" "I", Cond.lays RX6 "Divisionorder" "leastCheque" "I", Cond.laysFinal RX6 "Divisionorder" "paidCents" "[J", Cond.lays RX6 "Divisionorder" "settledMonths" "I", Cond.laysFinal RX6 "Divisionorder" "titles" "[I", Cond.laysFinal RX6 "Divisionorder" "deck" "LDivisionorder$Parting;", Cond.laysFinal RX6 "Divisionorder" "sharers" "LDivisionorder$Parting;"] : List Cond), w ∈ lw_tbl := List.forall_mem_cons.mpr ⟨(mt_1 _ (List.mem_of_getElem? (i := 73) rfl)), List.forall_mem_cons.mpr ⟨(mt_1 _ (List.mem_of_getElem? (i := 75) rfl)), List.forall_mem_cons.mpr ⟨(mt_1 _ (List.mem_of_getElem? (i := 77) rfl)), List.forall_mem_cons.mpr ⟨(mt_1 _ (List.mem_of_getElem? (i := 79) rfl)), List.forall_mem_cons.mpr ⟨(mt_1 _ (List.mem_of_getElem? (i := 81) rfl)), List.forall_mem_cons.mpr ⟨(mt_1 _ (List.mem_of_getElem? (i := 83) rfl)), List.forall_mem_cons.mpr ⟨(mt_1 _ (List.mem_of_getElem? (i := 85) rfl)), List.forall_mem_cons.mpr ⟨(mt_1 _ (List.mem_of_getElem? (i := 87) rfl)), List.forall_mem_cons.mpr ⟨(mt_1 _ (List.mem_of_getElem? (i := 89) rfl)), List.forall_mem_cons.mpr ⟨(mt_1 _ (List.mem_of_getElem? (i := 91) rfl)), List.forall_mem_cons.mpr ⟨(mt_1 _ (List.mem_of_getElem? (i := 93) rfl)), List.forall_mem_cons.mpr ⟨(mt_1 _ (List.mem_of_getElem? (i := 95) rfl)), List.forall_mem_cons.mpr ⟨(mt_1 _ (List.mem_of_getElem? (i := 97) rfl)), List.forall_mem_cons.mpr ⟨(mt_1 _ (List.mem_of_getElem? (i := 99) rfl)), List.forall_mem_cons.mpr ⟨(mt_1 _ (List.mem_of_getElem? (i := 101) rfl)), List.forall_mem_cons.mpr ⟨(mt_1 _ (List.mem_of_getElem? (i := 103) rfl)), List.forall_mem_cons.mpr ⟨(mt_1 _ (List.mem_of_getElem? (i := 105) rfl)), List.forall_mem_cons.mpr ⟨(mt_1 _ (List.mem_of_getElem? (i := 107) rfl)), List.forall_mem_cons.mpr ⟨(mt_1 _ (List.mem_of_getElem? (i := 109) rfl)), List.forall_mem_cons.mpr ⟨(mt_1 _ (List.mem_of_getElem? (i := 111) rfl)), fun _ h => absurd h List.not_mem_nil⟩⟩⟩⟩⟩⟩⟩⟩⟩⟩⟩⟩⟩⟩⟩⟩⟩⟩⟩⟩
set_option maxRecDepth 100000 in
theorem in0_x6 : ∀ w ∈ wsX60, w ∈ lw_tbl := in0_l6
theorem wsL_law_in0 : ∀ w ∈ wsL_law0, w ∈ lw_tbl := by
  unfold wsL_law0
  exact List.forall_mem_append.mpr ⟨List.forall_mem_append.mpr ⟨List.forall_mem_append.mpr ⟨List.forall_mem_append.mpr ⟨List.forall_mem_append.mpr ⟨List.forall_mem_append.mpr ⟨List.forall_mem_append.mpr ⟨List.forall_mem_append.mpr ⟨List.forall_mem_append.mpr ⟨in0_r1, List.forall_mem_append.mpr ⟨in0_r2, List.forall_mem_append.mpr ⟨in0_r3, List.forall_mem_append.mpr ⟨in0_r4, List.forall_mem_append.mpr ⟨in0_r5, List.forall_mem_append.mpr ⟨in0_r6, List.forall_mem_append.mpr ⟨in0_r7, List.forall_mem_append.mpr ⟨in0_r8, List.forall_mem_append.mpr ⟨in0_r9, List.forall_mem_append.mpr ⟨in0_r10, List.forall_mem_append.mpr ⟨in0_r11, List.forall_mem_append.mpr ⟨in0_r12, List.forall_mem_append.mpr ⟨in0_r13, List.forall_mem_append.mpr ⟨in0_r14, List.forall_mem_append.mpr ⟨in0_r15, List.forall_mem_append.mpr ⟨in0_r16, List.forall_mem_append.mpr ⟨in0_r17, List.forall_mem_append.mpr ⟨in0_r18, in0_r19⟩⟩⟩⟩⟩⟩⟩⟩⟩⟩⟩⟩⟩⟩⟩⟩⟩⟩, in0_x6⟩, in0_x2⟩, in0_x3⟩, in0_x0⟩, in0_x4⟩, in0_x5⟩, in0_x1⟩, fun _ h => absurd h List.not_mem_nil⟩
end
section
theorem wsL_law_x0 : ∀ w ∈ (vx_atS RX6 113 "java/lang/IndexOutOfBoundsException" ["java/lang/RuntimeException", "java/lang/Exception"]).filter goodWord, w ∈ lw_tbl := by decide +kernel
theorem wsL_law_x1 : ∀ w ∈ (vx_atS RX6 97 "java/lang/IllegalArgumentException" ["java/lang/RuntimeException", "java/lang/Exception"]).filter goodWord, w ∈ lw_tbl := by decide +kernel
theorem wsL_law_x2 : ∀ w ∈ (vx_atS RX6 104 "java/lang/IllegalStateException" ["java/lang/RuntimeException", "java/lang/Exception"]).filter goodWord, w ∈ lw_tbl := by decide +kernel
theorem wsL_law_in : ∀ w ∈ wsL_law, w ∈ lw_tbl := fun w h => (List.mem_append.mp h).elim (fun h => (List.mem_append.mp h).elim (fun h => (List.mem_append.mp h).elim (fun h => wsL_law_in0 w h) (fun h => wsL_law_x0 w h)) (fun h => wsL_law_x1 w h)) (fun h => wsL_law_x2 w h)
theorem inlX0 : ∀ w ∈ wsX00, w ∈ wsL_law := fun _ h => List.mem_append_left _ (List.mem_append_left _ (List.mem_append_left _ (List.mem_append_left _ (List.mem_append_left _ (List.mem_append_left _ (List.mem_append_left _ (List.mem_append_right _ h)))))))
theorem inX0 : ∀ w ∈ wsX00, w ∈ lw_tbl := fun w h => wsL_law_in w (inlX0 w h)
theorem inlX1 : ∀ w ∈ wsX10, w ∈ wsL_law := fun _ h => List.mem_append_left _ (List.mem_append_left _ (List.mem_append_left _ (List.mem_append_left _ (List.mem_append_right _ h))))
theorem inX1 : ∀ w ∈ wsX10, w ∈ lw_tbl := fun w h => wsL_law_in w (inlX1 w h)
theorem inlX2 : ∀ w ∈ wsX20, w ∈ wsL_law := fun _ h => List.mem_append_left _ (List.mem_append_left _ (List.mem_append_left _ (List.mem_append_left _ (List.mem_append_left _ (List.mem_append_left _ (List.mem_append_left _ (List.mem_append_left _ (List.mem_append_left _ (List.mem_append_right _ h)))))))))
theorem inX2 : ∀ w ∈ wsX20, w ∈ lw_tbl := fun w h => wsL_law_in w (inlX2 w h)
theorem inlX3 : ∀ w ∈ wsX30, w ∈ wsL_law := fun _ h => List.mem_append_left _ (List.mem_append_left _ (List.mem_append_left _ (List.mem_append_left _ (List.mem_append_left _ (List.mem_append_left _ (List.mem_append_left _ (List.mem_append_left _ (List.mem_append_right _ h))))))))
theorem inX3 : ∀ w ∈ wsX30, w ∈ lw_tbl := fun w h => wsL_law_in w (inlX3 w h)
theorem inlX4 : ∀ w ∈ wsX40, w ∈ wsL_law := fun _ h => List.mem_append_left _ (List.mem_append_left _ (List.mem_append_left _ (List.mem_append_left _ (List.mem_append_left _ (List.mem_append_left _ (List.mem_append_right _ h))))))
theorem inX4 : ∀ w ∈ wsX40, w ∈ lw_tbl := fun w h => wsL_law_in w (inlX4 w h)
theorem inlX5 : ∀ w ∈ wsX50, w ∈ wsL_law := fun _ h => List.mem_append_left _ (List.mem_append_left _ (List.mem_append_left _ (List.mem_append_left _ (List.mem_append_left _ (List.mem_append_right _ h)))))
theorem inX5 : ∀ w ∈ wsX50, w ∈ lw_tbl := fun w h => wsL_law_in w (inlX5 w h)
theorem inlX6 : ∀ w ∈ wsX60, w ∈ wsL_law := fun _ h => List.mem_append_left _ (List.mem_append_left _ (List.mem_append_left _ (List.mem_append_left _ (List.mem_append_left _ (List.mem_append_left _ (List.mem_append_left _ (List.mem_append_left _ (List.mem_append_left _ (List.mem_append_left _ (List.mem_append_right _ h))))))))))
theorem inX6 : ∀ w ∈ wsX60, w ∈ lw_tbl := fun w h => wsL_law_in w (inlX6 w h)
theorem inX7 : ∀ w ∈ wsX70, w ∈ lw_tbl := by decide +kernel
theorem inJ9 : ∀ w ∈ wsJ90, w ∈ lw_tbl := by decide +kernel
theorem inJ0 : ∀ w ∈ wsJ00, w ∈ lw_tbl := by decide +kernel
theorem dX0_init_0 : decode cX0_init 0 = .ok (.aload_n 0, 1) := by decide +kernel
theorem dX0_init_1 : decode cX0_init 1 = .ok (.invokespecial 1, 3) := by decide +kernel
theorem dX0_init_4 : decode cX0_init 4 = .ok (.aload_n 0, 1) := by decide +kernel
theorem dX0_init_5 : decode cX0_init 5 = .ok (.aload_n 1, 1) := by decide +kernel
theorem dX0_init_6 : decode cX0_init 6 = .ok (.putfield 7, 3) := by decide +kernel
theorem dX0_init_9 : decode cX0_init 9 = .ok (.aload_n 0, 1) := by decide +kernel
theorem dX0_init_10 : decode cX0_init 10 = .ok (.iload_n 2, 1) := by decide +kernel
theorem dX0_init_11 : decode cX0_init 11 = .ok (.putfield 13, 3) := by decide +kernel
theorem dX0_init_14 : decode cX0_init 14 = .ok (.aload_n 0, 1) := by decide +kernel
theorem dX0_init_15 : decode cX0_init 15 = .ok (.iload_n 3, 1) := by decide +kernel
theorem dX0_init_16 : decode cX0_init 16 = .ok (.putfield 17, 3) := by decide +kernel
theorem dX0_init_19 : decode cX0_init 19 = .ok (.aload_n 0, 1) := by decide +kernel
theorem dX0_init_20 : decode cX0_init 20 = .ok (.iload 4, 2) := by decide +kernel
theorem dX0_init_22 : decode cX0_init 22 = .ok (.putfield 20, 3) := by decide +kernel
theorem dX0_init_25 : decode cX0_init 25 = .ok (.aload_n 0, 1) := by decide +kernel
theorem dX0_init_26 : decode cX0_init 26 = .ok (.iload 5, 2) := by decide +kernel
theorem dX0_init_28 : decode cX0_init 28 = .ok (.putfield 23, 3) := by decide +kernel
theorem dX0_init_31 : decode cX0_init 31 = .ok (.return_, 1) := by decide +kernel
theorem dX1_init_0 : decode cX1_init 0 = .ok (.aload_n 0, 1) := by decide +kernel
theorem dX1_init_1 : decode cX1_init 1 = .ok (.invokespecial 3, 3) := by decide +kernel
theorem dX1_init_4 : decode cX1_init 4 = .ok (.aload_n 0, 1) := by decide +kernel
theorem dX1_init_5 : decode cX1_init 5 = .ok (.iconst 0, 1) := by decide +kernel
theorem dX1_init_6 : decode cX1_init 6 = .ok (.putfield 9, 3) := by decide +kernel
theorem dX1_init_9 : decode cX1_init 9 = .ok (.aload_n 0, 1) := by decide +kernel
theorem dX1_init_10 : decode cX1_init 10 = .ok (.iconst 0, 1) := by decide +kernel
theorem dX1_init_11 : decode cX1_init 11 = .ok (.putfield 15, 3) := by decide +kernel
theorem dX1_init_14 : decode cX1_init 14 = .ok (.aload_n 0, 1) := by decide +kernel
theorem dX1_init_15 : decode cX1_init 15 = .ok (.aload_n 1, 1) := by decide +kernel
theorem dX1_init_16 : decode cX1_init 16 = .ok (.putfield 18, 3) := by decide +kernel
theorem dX1_init_19 : decode cX1_init 19 = .ok (.aload_n 0, 1) := by decide +kernel
theorem dX1_init_20 : decode cX1_init 20 = .ok (.iload_n 2, 1) := by decide +kernel
theorem dX1_init_21 : decode cX1_init 21 = .ok (.putfield 22, 3) := by decide +kernel
theorem dX1_init_24 : decode cX1_init 24 = .ok (.aload_n 0, 1) := by decide +kernel
theorem dX1_init_25 : decode cX1_init 25 = .ok (.iload_n 3, 1) := by decide +kernel
theorem dX1_init_26 : decode cX1_init 26 = .ok (.putfield 25, 3) := by decide +kernel
theorem dX1_init_29 : decode cX1_init 29 = .ok (.aload_n 0, 1) := by decide +kernel
theorem dX1_init_30 : decode cX1_init 30 = .ok (.iload 4, 2) := by decide +kernel
theorem dX1_init_32 : decode cX1_init 32 = .ok (.putfield 28, 3) := by decide +kernel
theorem dX1_init_35 : decode cX1_init 35 = .ok (.return_, 1) := by decide +kernel
theorem dX1_isInForce_0 : decode cX1_isInForce 0 = .ok (.iload_n 1, 1) := by decide +kernel
theorem dX1_isInForce_1 : decode cX1_isInForce 1 = .ok (.aload_n 0, 1) := by decide +kernel
theorem dX1_isInForce_2 : decode cX1_isInForce 2 = .ok (.getfield 9, 3) := by decide +kernel
theorem dX1_isInForce_5 : decode cX1_isInForce 5 = .ok (.if_icmp .ge 5, 3) := by decide +kernel
theorem dX1_isInForce_8 : decode cX1_isInForce 8 = .ok (.iconst 0, 1) := by decide +kernel
theorem dX1_isInForce_9 : decode cX1_isInForce 9 = .ok (.ireturn, 1) := by decide +kernel
theorem dX1_isInForce_10 : decode cX1_isInForce 10 = .ok (.aload_n 0, 1) := by decide +kernel
theorem dX1_isInForce_11 : decode cX1_isInForce 11 = .ok (.getfield 18, 3) := by decide +kernel
theorem dX1_isInForce_14 : decode cX1_isInForce 14 = .ok (.getfield 31, 3) := by decide +kernel
theorem dX1_isInForce_17 : decode cX1_isInForce 17 = .ok (.astore_n 2, 1) := by decide +kernel
theorem dX1_isInForce_18 : decode cX1_isInForce 18 = .ok (.aload_n 2, 1) := by decide +kernel
theorem dX1_isInForce_19 : decode cX1_isInForce 19 = .ok (.ifnonnull 17, 3) := by decide +kernel
theorem dX1_isInForce_22 : decode cX1_isInForce 22 = .ok (.iload_n 1, 1) := by decide +kernel
theorem dX1_isInForce_23 : decode cX1_isInForce 23 = .ok (.aload_n 0, 1) := by decide +kernel
theorem dX1_isInForce_24 : decode cX1_isInForce 24 = .ok (.getfield 15, 3) := by decide +kernel
theorem dX1_isInForce_27 : decode cX1_isInForce 27 = .ok (.if_icmp .gt 7, 3) := by decide +kernel
theorem dX1_isInForce_30 : decode cX1_isInForce 30 = .ok (.iconst 1, 1) := by decide +kernel
theorem dX1_isInForce_31 : decode cX1_isInForce 31 = .ok (.goto 4, 3) := by decide +kernel
theorem dX1_isInForce_34 : decode cX1_isInForce 34 = .ok (.iconst 0, 1) := by decide +kernel
theorem dX1_isInForce_35 : decode cX1_isInForce 35 = .ok (.ireturn, 1) := by decide +kernel
theorem dX1_isInForce_36 : decode cX1_isInForce 36 = .ok (.aload_n 0, 1) := by decide +kernel
theorem dX1_isInForce_37 : decode cX1_isInForce 37 = .ok (.getfield 15, 3) := by decide +kernel
theorem dX1_isInForce_40 : decode cX1_isInForce 40 = .ok (.istore_n 3, 1) := by decide +kernel
theorem dX1_isInForce_41 : decode cX1_isInForce 41 = .ok (.iload_n 3, 1) := by decide +kernel
theorem dX1_isInForce_42 : decode cX1_isInForce 42 = .ok (.iload_n 1, 1) := by decide +kernel
theorem dX1_isInForce_43 : decode cX1_isInForce 43 = .ok (.if_icmp .ge 26, 3) := by decide +kernel
theorem dX1_isInForce_46 : decode cX1_isInForce 46 = .ok (.iload_n 3, 1) := by decide +kernel
theorem dX1_isInForce_47 : decode cX1_isInForce 47 = .ok (.bipush 61, 2) := by decide +kernel
theorem dX1_isInForce_49 : decode cX1_isInForce 49 = .ok (.if_icmp .ge 20, 3) := by decide +kernel
theorem dX1_isInForce_52 : decode cX1_isInForce 52 = .ok (.aload_n 2, 1) := by decide +kernel
theorem dX1_isInForce_53 : decode cX1_isInForce 53 = .ok (.getfield 37, 3) := by decide +kernel
theorem dX1_isInForce_56 : decode cX1_isInForce 56 = .ok (.iload_n 3, 1) := by decide +kernel
theorem dX1_isInForce_57 : decode cX1_isInForce 57 = .ok (.iaload, 1) := by decide +kernel
theorem dX1_isInForce_58 : decode cX1_isInForce 58 = .ok (.ifCond .ne 5, 3) := by decide +kernel
theorem dX1_isInForce_61 : decode cX1_isInForce 61 = .ok (.iconst 0, 1) := by decide +kernel
theorem dX1_isInForce_62 : decode cX1_isInForce 62 = .ok (.ireturn, 1) := by decide +kernel
theorem dX1_isInForce_63 : decode cX1_isInForce 63 = .ok (.iinc 3 1, 3) := by decide +kernel
theorem dX1_isInForce_66 : decode cX1_isInForce 66 = .ok (.goto (-25), 3) := by decide +kernel
theorem dX1_isInForce_69 : decode cX1_isInForce 69 = .ok (.iconst 1, 1) := by decide +kernel
theorem dX1_isInForce_70 : decode cX1_isInForce 70 = .ok (.ireturn, 1) := by decide +kernel
theorem dX2_init_0 : decode cX2_init 0 = .ok (.aload_n 0, 1) := by decide +kernel
theorem dX2_init_1 : decode cX2_init 1 = .ok (.invokespecial 1, 3) := by decide +kernel
theorem dX2_init_4 : decode cX2_init 4 = .ok (.aload_n 0, 1) := by decide +kernel
theorem dX2_init_5 : decode cX2_init 5 = .ok (.iload_n 1, 1) := by decide +kernel
theorem dX2_init_6 : decode cX2_init 6 = .ok (.newarray .long, 2) := by decide +kernel
theorem dX2_init_8 : decode cX2_init 8 = .ok (.putfield 7, 3) := by decide +kernel
theorem dX2_init_11 : decode cX2_init 11 = .ok (.aload_n 0, 1) := by decide +kernel
theorem dX2_init_12 : decode cX2_init 12 = .ok (.iload_n 1, 1) := by decide +kernel
theorem dX2_init_13 : decode cX2_init 13 = .ok (.newarray .long, 2) := by decide +kernel
theorem dX2_init_15 : decode cX2_init 15 = .ok (.putfield 13, 3) := by decide +kernel
theorem dX2_init_18 : decode cX2_init 18 = .ok (.aload_n 0, 1) := by decide +kernel
theorem dX2_init_19 : decode cX2_init 19 = .ok (.iload_n 1, 1) := by decide +kernel
theorem dX2_init_20 : decode cX2_init 20 = .ok (.newarray .long, 2) := by decide +kernel
theorem dX2_init_22 : decode cX2_init 22 = .ok (.putfield 16, 3) := by decide +kernel
theorem dX2_init_25 : decode cX2_init 25 = .ok (.return_, 1) := by decide +kernel
theorem dX2_clear_0 : decode cX2_clear 0 = .ok (.iconst 0, 1) := by decide +kernel
theorem dX2_clear_1 : decode cX2_clear 1 = .ok (.istore_n 1, 1) := by decide +kernel
theorem dX2_clear_2 : decode cX2_clear 2 = .ok (.iload_n 1, 1) := by decide +kernel
theorem dX2_clear_3 : decode cX2_clear 3 = .ok (.aload_n 0, 1) := by decide +kernel
theorem dX2_clear_4 : decode cX2_clear 4 = .ok (.getfield 7, 3) := by decide +kernel
theorem dX2_clear_7 : decode cX2_clear 7 = .ok (.arraylength, 1) := by decide +kernel
theorem dX2_clear_8 : decode cX2_clear 8 = .ok (.if_icmp .ge 16, 3) := by decide +kernel
theorem dX2_clear_11 : decode cX2_clear 11 = .ok (.aload_n 0, 1) := by decide +kernel
theorem dX2_clear_12 : decode cX2_clear 12 = .ok (.getfield 7, 3) := by decide +kernel
theorem dX2_clear_15 : decode cX2_clear 15 = .ok (.iload_n 1, 1) := by decide +kernel
theorem dX2_clear_16 : decode cX2_clear 16 = .ok (.lconst 0, 1) := by decide +kernel
theorem dX2_clear_17 : decode cX2_clear 17 = .ok (.lastore, 1) := by decide +kernel
theorem dX2_clear_18 : decode cX2_clear 18 = .ok (.iinc 1 1, 3) := by decide +kernel
theorem dX2_clear_21 : decode cX2_clear 21 = .ok (.goto (-19), 3) := by decide +kernel
theorem dX2_clear_24 : decode cX2_clear 24 = .ok (.return_, 1) := by decide +kernel
set_option maxRecDepth 20000 in
theorem ggX2_partOut_X2_giveOne : GoodIn wsX2_partOut wsX2_giveOne := goodIn_r _ [8, 3, 2, 9, 10, 11, 12] (by decide +kernel) (by decide +kernel)
set_option maxRecDepth 20000 in
theorem gX2_partOut_X2_giveOne : GoodIn wsX2_partOut (wsV RX2 19 RX2 yX2_giveOne wsX2_giveOne) := goodIn_app (goodIn_of _ (by decide +kernel)) ggX2_partOut_X2_giveOne
theorem dX2_partOut_0 : decode cX2_partOut 0 = .ok (.lconst 0, 1) := by decide +kernel
theorem dX2_partOut_1 : decode cX2_partOut 1 = .ok (.lstore_n 3, 1) := by decide +kernel
theorem dX2_partOut_2 : decode cX2_partOut 2 = .ok (.aload_n 0, 1) := by decide +kernel
theorem dX2_partOut_3 : decode cX2_partOut 3 = .ok (.getfield 7, 3) := by decide +kernel
theorem dX2_partOut_6 : decode cX2_partOut 6 = .ok (.astore 5, 2) := by decide +kernel
theorem dX2_partOut_8 : decode cX2_partOut 8 = .ok (.aload 5, 2) := by decide +kernel
theorem dX2_partOut_10 : decode cX2_partOut 10 = .ok (.arraylength, 1) := by decide +kernel
theorem dX2_partOut_11 : decode cX2_partOut 11 = .ok (.istore 6, 2) := by decide +kernel
theorem dX2_partOut_13 : decode cX2_partOut 13 = .ok (.iconst 0, 1) := by decide +kernel
theorem dX2_partOut_14 : decode cX2_partOut 14 = .ok (.istore 7, 2) := by decide +kernel
theorem dX2_partOut_16 : decode cX2_partOut 16 = .ok (.iload 7, 2) := by decide +kernel
theorem dX2_partOut_18 : decode cX2_partOut 18 = .ok (.iload 6, 2) := by decide +kernel
theorem dX2_partOut_20 : decode cX2_partOut 20 = .ok (.if_icmp .ge 21, 3) := by decide +kernel
theorem dX2_partOut_23 : decode cX2_partOut 23 = .ok (.aload 5, 2) := by decide +kernel
theorem dX2_partOut_25 : decode cX2_partOut 25 = .ok (.iload 7, 2) := by decide +kernel
theorem dX2_partOut_27 : decode cX2_partOut 27 = .ok (.laload, 1) := by decide +kernel
theorem dX2_partOut_28 : decode cX2_partOut 28 = .ok (.lstore 8, 2) := by decide +kernel
theorem dX2_partOut_30 : decode cX2_partOut 30 = .ok (.lload_n 3, 1) := by decide +kernel
theorem dX2_partOut_31 : decode cX2_partOut 31 = .ok (.lload 8, 2) := by decide +kernel
theorem dX2_partOut_33 : decode cX2_partOut 33 = .ok (.ladd, 1) := by decide +kernel
theorem dX2_partOut_34 : decode cX2_partOut 34 = .ok (.lstore_n 3, 1) := by decide +kernel
theorem dX2_partOut_35 : decode cX2_partOut 35 = .ok (.iinc 7 1, 3) := by decide +kernel
theorem dX2_partOut_38 : decode cX2_partOut 38 = .ok (.goto (-22), 3) := by decide +kernel
theorem dX2_partOut_41 : decode cX2_partOut 41 = .ok (.lload_n 1, 1) := by decide +kernel
theorem dX2_partOut_42 : decode cX2_partOut 42 = .ok (.lstore 5, 2) := by decide +kernel
theorem dX2_partOut_44 : decode cX2_partOut 44 = .ok (.iconst 0, 1) := by decide +kernel
theorem dX2_partOut_45 : decode cX2_partOut 45 = .ok (.istore 7, 2) := by decide +kernel
theorem dX2_partOut_47 : decode cX2_partOut 47 = .ok (.iload 7, 2) := by decide +kernel
theorem dX2_partOut_49 : decode cX2_partOut 49 = .ok (.aload_n 0, 1) := by decide +kernel
theorem dX2_partOut_50 : decode cX2_partOut 50 = .ok (.getfield 7, 3) := by decide +kernel
theorem dX2_partOut_53 : decode cX2_partOut 53 = .ok (.arraylength, 1) := by decide +kernel
theorem dX2_partOut_54 : decode cX2_partOut 54 = .ok (.if_icmp .ge 74, 3) := by decide +kernel
theorem dX2_partOut_57 : decode cX2_partOut 57 = .ok (.lload_n 1, 1) := by decide +kernel
theorem dX2_partOut_58 : decode cX2_partOut 58 = .ok (.aload_n 0, 1) := by decide +kernel
theorem dX2_partOut_59 : decode cX2_partOut 59 = .ok (.getfield 7, 3) := by decide +kernel
theorem dX2_partOut_62 : decode cX2_partOut 62 = .ok (.iload 7, 2) := by decide +kernel
theorem dX2_partOut_64 : decode cX2_partOut 64 = .ok (.laload, 1) := by decide +kernel
theorem dX2_partOut_65 : decode cX2_partOut 65 = .ok (.lmul, 1) := by decide +kernel
theorem dX2_partOut_66 : decode cX2_partOut 66 = .ok (.lstore 8, 2) := by decide +kernel
theorem dX2_partOut_68 : decode cX2_partOut 68 = .ok (.aload_n 0, 1) := by decide +kernel
theorem dX2_partOut_69 : decode cX2_partOut 69 = .ok (.getfield 13, 3) := by decide +kernel
theorem dX2_partOut_72 : decode cX2_partOut 72 = .ok (.iload 7, 2) := by decide +kernel
theorem dX2_partOut_74 : decode cX2_partOut 74 = .ok (.lload_n 3, 1) := by decide +kernel
theorem dX2_partOut_75 : decode cX2_partOut 75 = .ok (.lconst 0, 1) := by decide +kernel
theorem dX2_partOut_76 : decode cX2_partOut 76 = .ok (.lcmp, 1) := by decide +kernel
theorem dX2_partOut_77 : decode cX2_partOut 77 = .ok (.ifCond .le 10, 3) := by decide +kernel
theorem dX2_partOut_80 : decode cX2_partOut 80 = .ok (.lload 8, 2) := by decide +kernel
theorem dX2_partOut_82 : decode cX2_partOut 82 = .ok (.lload_n 3, 1) := by decide +kernel
theorem dX2_partOut_83 : decode cX2_partOut 83 = .ok (.ldiv, 1) := by decide +kernel
theorem dX2_partOut_84 : decode cX2_partOut 84 = .ok (.goto 4, 3) := by decide +kernel
theorem dX2_partOut_87 : decode cX2_partOut 87 = .ok (.lconst 0, 1) := by decide +kernel
theorem dX2_partOut_88 : decode cX2_partOut 88 = .ok (.lastore, 1) := by decide +kernel
theorem dX2_partOut_89 : decode cX2_partOut 89 = .ok (.aload_n 0, 1) := by decide +kernel
theorem dX2_partOut_90 : decode cX2_partOut 90 = .ok (.getfield 16, 3) := by decide +kernel
theorem dX2_partOut_93 : decode cX2_partOut 93 = .ok (.iload 7, 2) := by decide +kernel
theorem dX2_partOut_95 : decode cX2_partOut 95 = .ok (.lload_n 3, 1) := by decide +kernel
theorem dX2_partOut_96 : decode cX2_partOut 96 = .ok (.lconst 0, 1) := by decide +kernel
theorem dX2_partOut_97 : decode cX2_partOut 97 = .ok (.lcmp, 1) := by decide +kernel
theorem dX2_partOut_98 : decode cX2_partOut 98 = .ok (.ifCond .le 10, 3) := by decide +kernel
theorem dX2_partOut_101 : decode cX2_partOut 101 = .ok (.lload 8, 2) := by decide +kernel
theorem dX2_partOut_103 : decode cX2_partOut 103 = .ok (.lload_n 3, 1) := by decide +kernel
theorem dX2_partOut_104 : decode cX2_partOut 104 = .ok (.lrem, 1) := by decide +kernel
theorem dX2_partOut_105 : decode cX2_partOut 105 = .ok (.goto 4, 3) := by decide +kernel
theorem dX2_partOut_108 : decode cX2_partOut 108 = .ok (.lconst 0, 1) := by decide +kernel
theorem dX2_partOut_109 : decode cX2_partOut 109 = .ok (.lastore, 1) := by decide +kernel
theorem dX2_partOut_110 : decode cX2_partOut 110 = .ok (.lload 5, 2) := by decide +kernel
theorem dX2_partOut_112 : decode cX2_partOut 112 = .ok (.aload_n 0, 1) := by decide +kernel
theorem dX2_partOut_113 : decode cX2_partOut 113 = .ok (.getfield 13, 3) := by decide +kernel
theorem dX2_partOut_116 : decode cX2_partOut 116 = .ok (.iload 7, 2) := by decide +kernel
theorem dX2_partOut_118 : decode cX2_partOut 118 = .ok (.laload, 1) := by decide +kernel
theorem dX2_partOut_119 : decode cX2_partOut 119 = .ok (.lsub, 1) := by decide +kernel
theorem dX2_partOut_120 : decode cX2_partOut 120 = .ok (.lstore 5, 2) := by decide +kernel
theorem dX2_partOut_122 : decode cX2_partOut 122 = .ok (.iinc 7 1, 3) := by decide +kernel
theorem dX2_partOut_125 : decode cX2_partOut 125 = .ok (.goto (-78), 3) := by decide +kernel
theorem dX2_partOut_128 : decode cX2_partOut 128 = .ok (.iconst 0, 1) := by decide +kernel
theorem dX2_partOut_129 : decode cX2_partOut 129 = .ok (.istore 7, 2) := by decide +kernel
theorem dX2_partOut_131 : decode cX2_partOut 131 = .ok (.iload 7, 2) := by decide +kernel
theorem dX2_partOut_133 : decode cX2_partOut 133 = .ok (.i2l, 1) := by decide +kernel
theorem dX2_partOut_134 : decode cX2_partOut 134 = .ok (.lload 5, 2) := by decide +kernel
theorem dX2_partOut_136 : decode cX2_partOut 136 = .ok (.lcmp, 1) := by decide +kernel
theorem dX2_partOut_137 : decode cX2_partOut 137 = .ok (.ifCond .ge 23, 3) := by decide +kernel
theorem dX2_partOut_140 : decode cX2_partOut 140 = .ok (.iload 7, 2) := by decide +kernel
theorem dX2_partOut_142 : decode cX2_partOut 142 = .ok (.aload_n 0, 1) := by decide +kernel
theorem dX2_partOut_143 : decode cX2_partOut 143 = .ok (.getfield 7, 3) := by decide +kernel
theorem dX2_partOut_146 : decode cX2_partOut 146 = .ok (.arraylength, 1) := by decide +kernel
theorem dX2_partOut_147 : decode cX2_partOut 147 = .ok (.if_icmp .ge 13, 3) := by decide +kernel
theorem dX2_partOut_150 : decode cX2_partOut 150 = .ok (.aload_n 0, 1) := by decide +kernel
theorem dX2_partOut_151 : decode cX2_partOut 151 = .ok (.invokevirtual 19, 3) := by decide +kernel
theorem dX2_partOut_154 : decode cX2_partOut 154 = .ok (.iinc 7 1, 3) := by decide +kernel
theorem dX2_partOut_157 : decode cX2_partOut 157 = .ok (.goto (-26), 3) := by decide +kernel
theorem dX2_partOut_160 : decode cX2_partOut 160 = .ok (.return_, 1) := by decide +kernel
theorem dX2_giveOne_0 : decode cX2_giveOne 0 = .ok (.iconst 0, 1) := by decide +kernel
theorem dX2_giveOne_1 : decode cX2_giveOne 1 = .ok (.istore_n 1, 1) := by decide +kernel
theorem dX2_giveOne_2 : decode cX2_giveOne 2 = .ok (.iconst 1, 1) := by decide +kernel
theorem dX2_giveOne_3 : decode cX2_giveOne 3 = .ok (.istore_n 2, 1) := by decide +kernel
theorem dX2_giveOne_4 : decode cX2_giveOne 4 = .ok (.iload_n 2, 1) := by decide +kernel
theorem dX2_giveOne_5 : decode cX2_giveOne 5 = .ok (.aload_n 0, 1) := by decide +kernel
theorem dX2_giveOne_6 : decode cX2_giveOne 6 = .ok (.getfield 16, 3) := by decide +kernel
theorem dX2_giveOne_9 : decode cX2_giveOne 9 = .ok (.arraylength, 1) := by decide +kernel
theorem dX2_giveOne_10 : decode cX2_giveOne 10 = .ok (.if_icmp .ge 27, 3) := by decide +kernel
theorem dX2_giveOne_13 : decode cX2_giveOne 13 = .ok (.aload_n 0, 1) := by decide +kernel
theorem dX2_giveOne_14 : decode cX2_giveOne 14 = .ok (.getfield 16, 3) := by decide +kernel
theorem dX2_giveOne_17 : decode cX2_giveOne 17 = .ok (.iload_n 2, 1) := by decide +kernel
theorem dX2_giveOne_18 : decode cX2_giveOne 18 = .ok (.laload, 1) := by decide +kernel
theorem dX2_giveOne_19 : decode cX2_giveOne 19 = .ok (.aload_n 0, 1) := by decide +kernel
theorem dX2_giveOne_20 : decode cX2_giveOne 20 = .ok (.getfield 16, 3) := by decide +kernel
theorem dX2_giveOne_23 : decode cX2_giveOne 23 = .ok (.iload_n 1, 1) := by decide +kernel
theorem dX2_giveOne_24 : decode cX2_giveOne 24 = .ok (.laload, 1) := by decide +kernel
theorem dX2_giveOne_25 : decode cX2_giveOne 25 = .ok (.lcmp, 1) := by decide +kernel
theorem dX2_giveOne_26 : decode cX2_giveOne 26 = .ok (.ifCond .le 5, 3) := by decide +kernel
theorem dX2_giveOne_29 : decode cX2_giveOne 29 = .ok (.iload_n 2, 1) := by decide +kernel
theorem dX2_giveOne_30 : decode cX2_giveOne 30 = .ok (.istore_n 1, 1) := by decide +kernel
theorem dX2_giveOne_31 : decode cX2_giveOne 31 = .ok (.iinc 2 1, 3) := by decide +kernel
theorem dX2_giveOne_34 : decode cX2_giveOne 34 = .ok (.goto (-30), 3) := by decide +kernel
theorem dX2_giveOne_37 : decode cX2_giveOne 37 = .ok (.aload_n 0, 1) := by decide +kernel
theorem dX2_giveOne_38 : decode cX2_giveOne 38 = .ok (.getfield 13, 3) := by decide +kernel
theorem dX2_giveOne_41 : decode cX2_giveOne 41 = .ok (.iload_n 1, 1) := by decide +kernel
theorem dX2_giveOne_42 : decode cX2_giveOne 42 = .ok (.dup2, 1) := by decide +kernel
theorem dX2_giveOne_43 : decode cX2_giveOne 43 = .ok (.laload, 1) := by decide +kernel
theorem dX2_giveOne_44 : decode cX2_giveOne 44 = .ok (.lconst 1, 1) := by decide +kernel
theorem dX2_giveOne_45 : decode cX2_giveOne 45 = .ok (.ladd, 1) := by decide +kernel
theorem dX2_giveOne_46 : decode cX2_giveOne 46 = .ok (.lastore, 1) := by decide +kernel
theorem dX2_giveOne_47 : decode cX2_giveOne 47 = .ok (.aload_n 0, 1) := by decide +kernel
theorem dX2_giveOne_48 : decode cX2_giveOne 48 = .ok (.getfield 16, 3) := by decide +kernel
theorem dX2_giveOne_51 : decode cX2_giveOne 51 = .ok (.iload_n 1, 1) := by decide +kernel
theorem dX2_giveOne_52 : decode cX2_giveOne 52 = .ok (.ldc2_w 22, 3) := by decide +kernel
theorem dX2_giveOne_55 : decode cX2_giveOne 55 = .ok (.lastore, 1) := by decide +kernel
theorem dX2_giveOne_56 : decode cX2_giveOne 56 = .ok (.return_, 1) := by decide +kernel
theorem dX3_init_0 : decode cX3_init 0 = .ok (.aload_n 0, 1) := by decide +kernel
theorem dX3_init_1 : decode cX3_init 1 = .ok (.invokespecial 1, 3) := by decide +kernel
theorem dX3_init_4 : decode cX3_init 4 = .ok (.aload_n 0, 1) := by decide +kernel
theorem dX3_init_5 : decode cX3_init 5 = .ok (.aconst_null, 1) := by decide +kernel
theorem dX3_init_6 : decode cX3_init 6 = .ok (.putfield 7, 3) := by decide +kernel
theorem dX3_init_9 : decode cX3_init 9 = .ok (.aload_n 0, 1) := by decide +kernel
theorem dX3_init_10 : decode cX3_init 10 = .ok (.iload_n 1, 1) := by decide +kernel
theorem dX3_init_11 : decode cX3_init 11 = .ok (.putfield 13, 3) := by decide +kernel
theorem dX3_init_14 : decode cX3_init 14 = .ok (.aload_n 0, 1) := by decide +kernel
theorem dX3_init_15 : decode cX3_init 15 = .ok (.iload_n 2, 1) := by decide +kernel
theorem dX3_init_16 : decode cX3_init 16 = .ok (.putfield 17, 3) := by decide +kernel
theorem dX3_init_19 : decode cX3_init 19 = .ok (.return_, 1) := by decide +kernel
theorem dX4_init_0 : decode cX4_init 0 = .ok (.aload_n 0, 1) := by decide +kernel
theorem dX4_init_1 : decode cX4_init 1 = .ok (.invokespecial 3, 3) := by decide +kernel
theorem dX4_init_4 : decode cX4_init 4 = .ok (.aload_n 0, 1) := by decide +kernel
theorem dX4_init_5 : decode cX4_init 5 = .ok (.bipush 61, 2) := by decide +kernel
theorem dX4_init_7 : decode cX4_init 7 = .ok (.newarray .int, 2) := by decide +kernel
theorem dX4_init_9 : decode cX4_init 9 = .ok (.putfield 9, 3) := by decide +kernel
theorem dX4_init_12 : decode cX4_init 12 = .ok (.aload_n 0, 1) := by decide +kernel
theorem dX4_init_13 : decode cX4_init 13 = .ok (.bipush 61, 2) := by decide +kernel
theorem dX4_init_15 : decode cX4_init 15 = .ok (.newarray .int, 2) := by decide +kernel
theorem dX4_init_17 : decode cX4_init 17 = .ok (.putfield 15, 3) := by decide +kernel
theorem dX4_init_20 : decode cX4_init 20 = .ok (.aload_n 0, 1) := by decide +kernel
theorem dX4_init_21 : decode cX4_init 21 = .ok (.bipush 61, 2) := by decide +kernel
theorem dX4_init_23 : decode cX4_init 23 = .ok (.newarray .int, 2) := by decide +kernel
theorem dX4_init_25 : decode cX4_init 25 = .ok (.putfield 18, 3) := by decide +kernel
theorem dX4_init_28 : decode cX4_init 28 = .ok (.aload_n 0, 1) := by decide +kernel
theorem dX4_init_29 : decode cX4_init 29 = .ok (.bipush 61, 2) := by decide +kernel
theorem dX4_init_31 : decode cX4_init 31 = .ok (.newarray .int, 2) := by decide +kernel
theorem dX4_init_33 : decode cX4_init 33 = .ok (.putfield 21, 3) := by decide +kernel
theorem dX4_init_36 : decode cX4_init 36 = .ok (.aload_n 0, 1) := by decide +kernel
theorem dX4_init_37 : decode cX4_init 37 = .ok (.sipush 610, 3) := by decide +kernel
theorem dX4_init_40 : decode cX4_init 40 = .ok (.newarray .long, 2) := by decide +kernel
theorem dX4_init_42 : decode cX4_init 42 = .ok (.putfield 24, 3) := by decide +kernel
theorem dX4_init_45 : decode cX4_init 45 = .ok (.aload_n 0, 1) := by decide +kernel
theorem dX4_init_46 : decode cX4_init 46 = .ok (.sipush 610, 3) := by decide +kernel
theorem dX4_init_49 : decode cX4_init 49 = .ok (.newarray .long, 2) := by decide +kernel
theorem dX4_init_51 : decode cX4_init 51 = .ok (.putfield 28, 3) := by decide +kernel
theorem dX4_init_54 : decode cX4_init 54 = .ok (.aload_n 0, 1) := by decide +kernel
theorem dX4_init_55 : decode cX4_init 55 = .ok (.iload_n 1, 1) := by decide +kernel
theorem dX4_init_56 : decode cX4_init 56 = .ok (.putfield 31, 3) := by decide +kernel
theorem dX4_init_59 : decode cX4_init 59 = .ok (.return_, 1) := by decide +kernel
theorem dX4_openMonth_0 : decode cX4_openMonth 0 = .ok (.iload_n 1, 1) := by decide +kernel
theorem dX4_openMonth_1 : decode cX4_openMonth 1 = .ok (.bipush 10, 2) := by decide +kernel
theorem dX4_openMonth_3 : decode cX4_openMonth 3 = .ok (.imul, 1) := by decide +kernel
theorem dX4_openMonth_4 : decode cX4_openMonth 4 = .ok (.istore_n 2, 1) := by decide +kernel
theorem dX4_openMonth_5 : decode cX4_openMonth 5 = .ok (.iload_n 2, 1) := by decide +kernel
theorem dX4_openMonth_6 : decode cX4_openMonth 6 = .ok (.bipush 10, 2) := by decide +kernel
theorem dX4_openMonth_8 : decode cX4_openMonth 8 = .ok (.isub, 1) := by decide +kernel
theorem dX4_openMonth_9 : decode cX4_openMonth 9 = .ok (.istore_n 3, 1) := by decide +kernel
theorem dX4_openMonth_10 : decode cX4_openMonth 10 = .ok (.iconst 0, 1) := by decide +kernel
theorem dX4_openMonth_11 : decode cX4_openMonth 11 = .ok (.istore 4, 2) := by decide +kernel
theorem dX4_openMonth_13 : decode cX4_openMonth 13 = .ok (.iload 4, 2) := by decide +kernel
theorem dX4_openMonth_15 : decode cX4_openMonth 15 = .ok (.bipush 10, 2) := by decide +kernel
theorem dX4_openMonth_17 : decode cX4_openMonth 17 = .ok (.if_icmp .ge 49, 3) := by decide +kernel
theorem dX4_openMonth_20 : decode cX4_openMonth 20 = .ok (.aload_n 0, 1) := by decide +kernel
theorem dX4_openMonth_21 : decode cX4_openMonth 21 = .ok (.getfield 24, 3) := by decide +kernel
theorem dX4_openMonth_24 : decode cX4_openMonth 24 = .ok (.iload_n 2, 1) := by decide +kernel
theorem dX4_openMonth_25 : decode cX4_openMonth 25 = .ok (.iload 4, 2) := by decide +kernel
theorem dX4_openMonth_27 : decode cX4_openMonth 27 = .ok (.iadd, 1) := by decide +kernel
theorem dX4_openMonth_28 : decode cX4_openMonth 28 = .ok (.lconst 0, 1) := by decide +kernel
theorem dX4_openMonth_29 : decode cX4_openMonth 29 = .ok (.lastore, 1) := by decide +kernel
theorem dX4_openMonth_30 : decode cX4_openMonth 30 = .ok (.aload_n 0, 1) := by decide +kernel
theorem dX4_openMonth_31 : decode cX4_openMonth 31 = .ok (.getfield 28, 3) := by decide +kernel
theorem dX4_openMonth_34 : decode cX4_openMonth 34 = .ok (.iload_n 2, 1) := by decide +kernel
theorem dX4_openMonth_35 : decode cX4_openMonth 35 = .ok (.iload 4, 2) := by decide +kernel
theorem dX4_openMonth_37 : decode cX4_openMonth 37 = .ok (.iadd, 1) := by decide +kernel
theorem dX4_openMonth_38 : decode cX4_openMonth 38 = .ok (.iload_n 1, 1) := by decide +kernel
theorem dX4_openMonth_39 : decode cX4_openMonth 39 = .ok (.aload_n 0, 1) := by decide +kernel
theorem dX4_openMonth_40 : decode cX4_openMonth 40 = .ok (.getfield 31, 3) := by decide +kernel
theorem dX4_openMonth_43 : decode cX4_openMonth 43 = .ok (.if_icmp .le 15, 3) := by decide +kernel
theorem dX4_openMonth_46 : decode cX4_openMonth 46 = .ok (.aload_n 0, 1) := by decide +kernel
theorem dX4_openMonth_47 : decode cX4_openMonth 47 = .ok (.getfield 28, 3) := by decide +kernel
theorem dX4_openMonth_50 : decode cX4_openMonth 50 = .ok (.iload_n 3, 1) := by decide +kernel
theorem dX4_openMonth_51 : decode cX4_openMonth 51 = .ok (.iload 4, 2) := by decide +kernel
theorem dX4_openMonth_53 : decode cX4_openMonth 53 = .ok (.iadd, 1) := by decide +kernel
theorem dX4_openMonth_54 : decode cX4_openMonth 54 = .ok (.laload, 1) := by decide +kernel
theorem dX4_openMonth_55 : decode cX4_openMonth 55 = .ok (.goto 4, 3) := by decide +kernel
theorem dX4_openMonth_58 : decode cX4_openMonth 58 = .ok (.lconst 0, 1) := by decide +kernel
theorem dX4_openMonth_59 : decode cX4_openMonth 59 = .ok (.lastore, 1) := by decide +kernel
theorem dX4_openMonth_60 : decode cX4_openMonth 60 = .ok (.iinc 4 1, 3) := by decide +kernel
theorem dX4_openMonth_63 : decode cX4_openMonth 63 = .ok (.goto (-50), 3) := by decide +kernel
theorem dX4_openMonth_66 : decode cX4_openMonth 66 = .ok (.return_, 1) := by decide +kernel
theorem dX5_init_0 : decode cX5_init 0 = .ok (.aload_n 0, 1) := by decide +kernel
theorem dX5_init_1 : decode cX5_init 1 = .ok (.invokespecial 3, 3) := by decide +kernel
theorem dX5_init_4 : decode cX5_init 4 = .ok (.aload_n 0, 1) := by decide +kernel
theorem dX5_init_5 : decode cX5_init 5 = .ok (.bipush 61, 2) := by decide +kernel
theorem dX5_init_7 : decode cX5_init 7 = .ok (.newarray .int, 2) := by decide +kernel
theorem dX5_init_9 : decode cX5_init 9 = .ok (.putfield 9, 3) := by decide +kernel
theorem dX5_init_12 : decode cX5_init 12 = .ok (.aload_n 0, 1) := by decide +kernel
theorem dX5_init_13 : decode cX5_init 13 = .ok (.bipush 61, 2) := by decide +kernel
theorem dX5_init_15 : decode cX5_init 15 = .ok (.newarray .int, 2) := by decide +kernel
theorem dX5_init_17 : decode cX5_init 17 = .ok (.putfield 15, 3) := by decide +kernel
theorem dX5_init_20 : decode cX5_init 20 = .ok (.aload_n 0, 1) := by decide +kernel
theorem dX5_init_21 : decode cX5_init 21 = .ok (.bipush 61, 2) := by decide +kernel
theorem dX5_init_23 : decode cX5_init 23 = .ok (.newarray .int, 2) := by decide +kernel
theorem dX5_init_25 : decode cX5_init 25 = .ok (.putfield 18, 3) := by decide +kernel
theorem dX5_init_28 : decode cX5_init 28 = .ok (.aload_n 0, 1) := by decide +kernel
theorem dX5_init_29 : decode cX5_init 29 = .ok (.aload_n 1, 1) := by decide +kernel
theorem dX5_init_30 : decode cX5_init 30 = .ok (.putfield 21, 3) := by decide +kernel
theorem dX5_init_33 : decode cX5_init 33 = .ok (.return_, 1) := by decide +kernel
theorem dX5_tellOil_0 : decode cX5_tellOil 0 = .ok (.aload_n 0, 1) := by decide +kernel
theorem dX5_tellOil_1 : decode cX5_tellOil 1 = .ok (.getfield 21, 3) := by decide +kernel
theorem dX5_tellOil_4 : decode cX5_tellOil 4 = .ok (.getfield 25, 3) := by decide +kernel
theorem dX5_tellOil_7 : decode cX5_tellOil 7 = .ok (.iload_n 1, 1) := by decide +kernel
theorem dX5_tellOil_8 : decode cX5_tellOil 8 = .ok (.dup2, 1) := by decide +kernel
theorem dX5_tellOil_9 : decode cX5_tellOil 9 = .ok (.iaload, 1) := by decide +kernel
theorem dX5_tellOil_10 : decode cX5_tellOil 10 = .ok (.iload_n 2, 1) := by decide +kernel
theorem dX5_tellOil_11 : decode cX5_tellOil 11 = .ok (.aload_n 0, 1) := by decide +kernel
theorem dX5_tellOil_12 : decode cX5_tellOil 12 = .ok (.getfield 9, 3) := by decide +kernel
theorem dX5_tellOil_15 : decode cX5_tellOil 15 = .ok (.iload_n 1, 1) := by decide +kernel
theorem dX5_tellOil_16 : decode cX5_tellOil 16 = .ok (.iaload, 1) := by decide +kernel
theorem dX5_tellOil_17 : decode cX5_tellOil 17 = .ok (.isub, 1) := by decide +kernel
theorem dX5_tellOil_18 : decode cX5_tellOil 18 = .ok (.iadd, 1) := by decide +kernel
theorem dX5_tellOil_19 : decode cX5_tellOil 19 = .ok (.iastore, 1) := by decide +kernel
theorem dX5_tellOil_20 : decode cX5_tellOil 20 = .ok (.aload_n 0, 1) := by decide +kernel
theorem dX5_tellOil_21 : decode cX5_tellOil 21 = .ok (.getfield 21, 3) := by decide +kernel
theorem dX5_tellOil_24 : decode cX5_tellOil 24 = .ok (.getfield 28, 3) := by decide +kernel
theorem dX5_tellOil_27 : decode cX5_tellOil 27 = .ok (.iload_n 1, 1) := by decide +kernel
theorem dX5_tellOil_28 : decode cX5_tellOil 28 = .ok (.dup2, 1) := by decide +kernel
theorem dX5_tellOil_29 : decode cX5_tellOil 29 = .ok (.iaload, 1) := by decide +kernel
theorem dX5_tellOil_30 : decode cX5_tellOil 30 = .ok (.iload_n 2, 1) := by decide +kernel
theorem dX5_tellOil_31 : decode cX5_tellOil 31 = .ok (.iload_n 3, 1) := by decide +kernel
theorem dX5_tellOil_32 : decode cX5_tellOil 32 = .ok (.imul, 1) := by decide +kernel
theorem dX5_tellOil_33 : decode cX5_tellOil 33 = .ok (.aload_n 0, 1) := by decide +kernel
theorem dX5_tellOil_34 : decode cX5_tellOil 34 = .ok (.getfield 9, 3) := by decide +kernel
theorem dX5_tellOil_37 : decode cX5_tellOil 37 = .ok (.iload_n 1, 1) := by decide +kernel
theorem dX5_tellOil_38 : decode cX5_tellOil 38 = .ok (.iaload, 1) := by decide +kernel
theorem dX5_tellOil_39 : decode cX5_tellOil 39 = .ok (.aload_n 0, 1) := by decide +kernel
theorem dX5_tellOil_40 : decode cX5_tellOil 40 = .ok (.getfield 15, 3) := by decide +kernel
theorem dX5_tellOil_43 : decode cX5_tellOil 43 = .ok (.iload_n 1, 1) := by decide +kernel
theorem dX5_tellOil_44 : decode cX5_tellOil 44 = .ok (.iaload, 1) := by decide +kernel
theorem dX5_tellOil_45 : decode cX5_tellOil 45 = .ok (.imul, 1) := by decide +kernel
theorem dX5_tellOil_46 : decode cX5_tellOil 46 = .ok (.isub, 1) := by decide +kernel
theorem dX5_tellOil_47 : decode cX5_tellOil 47 = .ok (.iadd, 1) := by decide +kernel
theorem dX5_tellOil_48 : decode cX5_tellOil 48 = .ok (.iastore, 1) := by decide +kernel
theorem dX5_tellOil_49 : decode cX5_tellOil 49 = .ok (.aload_n 0, 1) := by decide +kernel
theorem dX5_tellOil_50 : decode cX5_tellOil 50 = .ok (.getfield 9, 3) := by decide +kernel
theorem dX5_tellOil_53 : decode cX5_tellOil 53 = .ok (.iload_n 1, 1) := by decide +kernel
theorem dX5_tellOil_54 : decode cX5_tellOil 54 = .ok (.iload_n 2, 1) := by decide +kernel
theorem dX5_tellOil_55 : decode cX5_tellOil 55 = .ok (.iastore, 1) := by decide +kernel
theorem dX5_tellOil_56 : decode cX5_tellOil 56 = .ok (.aload_n 0, 1) := by decide +kernel
theorem dX5_tellOil_57 : decode cX5_tellOil 57 = .ok (.getfield 15, 3) := by decide +kernel
theorem dX5_tellOil_60 : decode cX5_tellOil 60 = .ok (.iload_n 1, 1) := by decide +kernel
theorem dX5_tellOil_61 : decode cX5_tellOil 61 = .ok (.iload_n 3, 1) := by decide +kernel
theorem dX5_tellOil_62 : decode cX5_tellOil 62 = .ok (.iastore, 1) := by decide +kernel
theorem dX5_tellOil_63 : decode cX5_tellOil 63 = .ok (.return_, 1) := by decide +kernel
set_option maxRecDepth 20000 in
theorem ggX6_init_X2_init : GoodIn wsX6_init wsX2_init := goodIn_r _ [36, 37, 2, 3, 25, 38, 39, 40, 61, 62, 63] (by decide +kernel) (by decide +kernel)
set_option maxRecDepth 20000 in
theorem gX6_init_X2_init : GoodIn wsX6_init (wsX2_init) := ggX6_init_X2_init
theorem dX6_init_0 : decode cX6_init 0 = .ok (.aload_n 0, 1) := by decide +kernel
theorem dX6_init_1 : decode cX6_init 1 = .ok (.invokespecial 3, 3) := by decide +kernel
theorem dX6_init_4 : decode cX6_init 4 = .ok (.aload_n 0, 1) := by decide +kernel
theorem dX6_init_5 : decode cX6_init 5 = .ok (.iconst 0, 1) := by decide +kernel
theorem dX6_init_6 : decode cX6_init 6 = .ok (.putfield 9, 3) := by decide +kernel
theorem dX6_init_9 : decode cX6_init 9 = .ok (.aload_n 0, 1) := by decide +kernel
theorem dX6_init_10 : decode cX6_init 10 = .ok (.bipush 8, 2) := by decide +kernel
theorem dX6_init_12 : decode cX6_init 12 = .ok (.anewarray 13, 3) := by decide +kernel
theorem dX6_init_15 : decode cX6_init 15 = .ok (.putfield 15, 3) := by decide +kernel
theorem dX6_init_18 : decode cX6_init 18 = .ok (.aload_n 0, 1) := by decide +kernel
theorem dX6_init_19 : decode cX6_init 19 = .ok (.iconst 0, 1) := by decide +kernel
theorem dX6_init_20 : decode cX6_init 20 = .ok (.putfield 19, 3) := by decide +kernel
theorem dX6_init_23 : decode cX6_init 23 = .ok (.aload_n 0, 1) := by decide +kernel
theorem dX6_init_24 : decode cX6_init 24 = .ok (.bipush 40, 2) := by decide +kernel
theorem dX6_init_26 : decode cX6_init 26 = .ok (.anewarray 22, 3) := by decide +kernel
theorem dX6_init_29 : decode cX6_init 29 = .ok (.putfield 24, 3) := by decide +kernel
theorem dX6_init_32 : decode cX6_init 32 = .ok (.aload_n 0, 1) := by decide +kernel
theorem dX6_init_33 : decode cX6_init 33 = .ok (.iconst 0, 1) := by decide +kernel
theorem dX6_init_34 : decode cX6_init 34 = .ok (.putfield 28, 3) := by decide +kernel
theorem dX6_init_37 : decode cX6_init 37 = .ok (.aload_n 0, 1) := by decide +kernel
theorem dX6_init_38 : decode cX6_init 38 = .ok (.bipush 16, 2) := by decide +kernel
theorem dX6_init_40 : decode cX6_init 40 = .ok (.anewarray 31, 3) := by decide +kernel
theorem dX6_init_43 : decode cX6_init 43 = .ok (.putfield 33, 3) := by decide +kernel
theorem dX6_init_46 : decode cX6_init 46 = .ok (.aload_n 0, 1) := by decide +kernel
theorem dX6_init_47 : decode cX6_init 47 = .ok (.iconst 0, 1) := by decide +kernel
theorem dX6_init_48 : decode cX6_init 48 = .ok (.putfield 37, 3) := by decide +kernel
theorem dX6_init_51 : decode cX6_init 51 = .ok (.aload_n 0, 1) := by decide +kernel
theorem dX6_init_52 : decode cX6_init 52 = .ok (.iconst 3, 1) := by decide +kernel
theorem dX6_init_53 : decode cX6_init 53 = .ok (.anewarray 40, 3) := by decide +kernel
theorem dX6_init_56 : decode cX6_init 56 = .ok (.putfield 42, 3) := by decide +kernel
theorem dX6_init_59 : decode cX6_init 59 = .ok (.aload_n 0, 1) := by decide +kernel
theorem dX6_init_60 : decode cX6_init 60 = .ok (.iconst 0, 1) := by decide +kernel
theorem dX6_init_61 : decode cX6_init 61 = .ok (.putfield 46, 3) := by decide +kernel
theorem dX6_init_64 : decode cX6_init 64 = .ok (.aload_n 0, 1) := by decide +kernel
theorem dX6_init_65 : decode cX6_init 65 = .ok (.bipush 6, 2) := by decide +kernel
theorem dX6_init_67 : decode cX6_init 67 = .ok (.anewarray 49, 3) := by decide +kernel
end
section
theorem dX6_init_70 : decode cX6_init 70 = .ok (.putfield 51, 3) := by decide +kernel
theorem dX6_init_73 : decode cX6_init 73 = .ok (.aload_n 0, 1) := by decide +kernel
theorem dX6_init_74 : decode cX6_init 74 = .ok (.iconst 0, 1) := by decide +kernel
theorem dX6_init_75 : decode cX6_init 75 = .ok (.putfield 55, 3) := by decide +kernel
theorem dX6_init_78 : decode cX6_init 78 = .ok (.aload_n 0, 1) := by decide +kernel
theorem dX6_init_79 : decode cX6_init 79 = .ok (.bipush 61, 2) := by decide +kernel
theorem dX6_init_81 : decode cX6_init 81 = .ok (.newarray .int, 2) := by decide +kernel
theorem dX6_init_83 : decode cX6_init 83 = .ok (.putfield 58, 3) := by decide +kernel
theorem dX6_init_86 : decode cX6_init 86 = .ok (.aload_n 0, 1) := by decide +kernel
theorem dX6_init_87 : decode cX6_init 87 = .ok (.sipush 300, 3) := by decide +kernel
theorem dX6_init_90 : decode cX6_init 90 = .ok (.putfield 62, 3) := by decide +kernel
theorem dX6_init_93 : decode cX6_init 93 = .ok (.aload_n 0, 1) := by decide +kernel
theorem dX6_init_94 : decode cX6_init 94 = .ok (.iconst 0, 1) := by decide +kernel
theorem dX6_init_95 : decode cX6_init 95 = .ok (.putfield 65, 3) := by decide +kernel
theorem dX6_init_98 : decode cX6_init 98 = .ok (.aload_n 0, 1) := by decide +kernel
theorem dX6_init_99 : decode cX6_init 99 = .ok (.bipush 100, 2) := by decide +kernel
theorem dX6_init_101 : decode cX6_init 101 = .ok (.putfield 68, 3) := by decide +kernel
theorem dX6_init_104 : decode cX6_init 104 = .ok (.aload_n 0, 1) := by decide +kernel
theorem dX6_init_105 : decode cX6_init 105 = .ok (.bipush 10, 2) := by decide +kernel
theorem dX6_init_107 : decode cX6_init 107 = .ok (.newarray .long, 2) := by decide +kernel
theorem dX6_init_109 : decode cX6_init 109 = .ok (.putfield 71, 3) := by decide +kernel
theorem dX6_init_112 : decode cX6_init 112 = .ok (.aload_n 0, 1) := by decide +kernel
theorem dX6_init_113 : decode cX6_init 113 = .ok (.iconst 0, 1) := by decide +kernel
theorem dX6_init_114 : decode cX6_init 114 = .ok (.putfield 75, 3) := by decide +kernel
theorem dX6_init_117 : decode cX6_init 117 = .ok (.aload_n 0, 1) := by decide +kernel
theorem dX6_init_118 : decode cX6_init 118 = .ok (.bipush 10, 2) := by decide +kernel
theorem dX6_init_120 : decode cX6_init 120 = .ok (.newarray .int, 2) := by decide +kernel
theorem dX6_init_122 : decode cX6_init 122 = .ok (.putfield 78, 3) := by decide +kernel
theorem dX6_init_125 : decode cX6_init 125 = .ok (.aload_n 0, 1) := by decide +kernel
theorem dX6_init_126 : decode cX6_init 126 = .ok (.new 81, 3) := by decide +kernel
theorem dX6_init_129 : decode cX6_init 129 = .ok (.dup, 1) := by decide +kernel
theorem dX6_init_130 : decode cX6_init 130 = .ok (.bipush 20, 2) := by decide +kernel
theorem dX6_init_132 : decode cX6_init 132 = .ok (.invokespecial 83, 3) := by decide +kernel
theorem dX6_init_135 : decode cX6_init 135 = .ok (.putfield 86, 3) := by decide +kernel
theorem dX6_init_138 : decode cX6_init 138 = .ok (.aload_n 0, 1) := by decide +kernel
theorem dX6_init_139 : decode cX6_init 139 = .ok (.new 81, 3) := by decide +kernel
theorem dX6_init_142 : decode cX6_init 142 = .ok (.dup, 1) := by decide +kernel
theorem dX6_init_143 : decode cX6_init 143 = .ok (.bipush 10, 2) := by decide +kernel
theorem dX6_init_145 : decode cX6_init 145 = .ok (.invokespecial 83, 3) := by decide +kernel
theorem dX6_init_148 : decode cX6_init 148 = .ok (.putfield 90, 3) := by decide +kernel
theorem dX6_init_151 : decode cX6_init 151 = .ok (.iconst 0, 1) := by decide +kernel
theorem dX6_init_152 : decode cX6_init 152 = .ok (.istore_n 1, 1) := by decide +kernel
theorem dX6_init_153 : decode cX6_init 153 = .ok (.iload_n 1, 1) := by decide +kernel
theorem dX6_init_154 : decode cX6_init 154 = .ok (.bipush 61, 2) := by decide +kernel
theorem dX6_init_156 : decode cX6_init 156 = .ok (.if_icmp .ge 16, 3) := by decide +kernel
theorem dX6_init_159 : decode cX6_init 159 = .ok (.aload_n 0, 1) := by decide +kernel
theorem dX6_init_160 : decode cX6_init 160 = .ok (.getfield 58, 3) := by decide +kernel
theorem dX6_init_163 : decode cX6_init 163 = .ok (.iload_n 1, 1) := by decide +kernel
theorem dX6_init_164 : decode cX6_init 164 = .ok (.iconst (-1), 1) := by decide +kernel
theorem dX6_init_165 : decode cX6_init 165 = .ok (.iastore, 1) := by decide +kernel
theorem dX6_init_166 : decode cX6_init 166 = .ok (.iinc 1 1, 3) := by decide +kernel
theorem dX6_init_169 : decode cX6_init 169 = .ok (.goto (-16), 3) := by decide +kernel
theorem dX6_init_172 : decode cX6_init 172 = .ok (.return_, 1) := by decide +kernel
theorem dX6_pass_0 : decode cX6_pass 0 = .ok (.iload_n 1, 1) := by decide +kernel
theorem dX6_pass_1 : decode cX6_pass 1 = .ok (.iconst 1, 1) := by decide +kernel
theorem dX6_pass_2 : decode cX6_pass 2 = .ok (.if_icmp .lt 9, 3) := by decide +kernel
theorem dX6_pass_5 : decode cX6_pass 5 = .ok (.iload_n 1, 1) := by decide +kernel
theorem dX6_pass_6 : decode cX6_pass 6 = .ok (.bipush 12, 2) := by decide +kernel
theorem dX6_pass_8 : decode cX6_pass 8 = .ok (.if_icmp .le 13, 3) := by decide +kernel
theorem dX6_pass_11 : decode cX6_pass 11 = .ok (.new 93, 3) := by decide +kernel
theorem dX6_pass_14 : decode cX6_pass 14 = .ok (.dup, 1) := by decide +kernel
theorem dX6_pass_15 : decode cX6_pass 15 = .ok (.ldc 95, 2) := by decide +kernel
theorem dX6_pass_17 : decode cX6_pass 17 = .ok (.invokespecial 97, 3) := by decide +kernel
theorem dX6_pass_20 : decode cX6_pass 20 = .ok (.athrow, 1) := by decide +kernel
theorem dX6_pass_21 : decode cX6_pass 21 = .ok (.aload_n 0, 1) := by decide +kernel
theorem dX6_pass_22 : decode cX6_pass 22 = .ok (.getfield 9, 3) := by decide +kernel
theorem dX6_pass_25 : decode cX6_pass 25 = .ok (.iload_n 1, 1) := by decide +kernel
theorem dX6_pass_26 : decode cX6_pass 26 = .ok (.iadd, 1) := by decide +kernel
theorem dX6_pass_27 : decode cX6_pass 27 = .ok (.bipush 60, 2) := by decide +kernel
theorem dX6_pass_29 : decode cX6_pass 29 = .ok (.if_icmp .le 13, 3) := by decide +kernel
theorem dX6_pass_32 : decode cX6_pass 32 = .ok (.new 100, 3) := by decide +kernel
theorem dX6_pass_35 : decode cX6_pass 35 = .ok (.dup, 1) := by decide +kernel
theorem dX6_pass_36 : decode cX6_pass 36 = .ok (.ldc 102, 2) := by decide +kernel
theorem dX6_pass_38 : decode cX6_pass 38 = .ok (.invokespecial 104, 3) := by decide +kernel
theorem dX6_pass_41 : decode cX6_pass 41 = .ok (.athrow, 1) := by decide +kernel
theorem dX6_pass_42 : decode cX6_pass 42 = .ok (.aload_n 0, 1) := by decide +kernel
theorem dX6_pass_43 : decode cX6_pass 43 = .ok (.dup, 1) := by decide +kernel
theorem dX6_pass_44 : decode cX6_pass 44 = .ok (.getfield 9, 3) := by decide +kernel
theorem dX6_pass_47 : decode cX6_pass 47 = .ok (.iload_n 1, 1) := by decide +kernel
theorem dX6_pass_48 : decode cX6_pass 48 = .ok (.iadd, 1) := by decide +kernel
theorem dX6_pass_49 : decode cX6_pass 49 = .ok (.putfield 9, 3) := by decide +kernel
theorem dX6_pass_52 : decode cX6_pass 52 = .ok (.aload_n 0, 1) := by decide +kernel
theorem dX6_pass_53 : decode cX6_pass 53 = .ok (.getfield 9, 3) := by decide +kernel
theorem dX6_pass_56 : decode cX6_pass 56 = .ok (.ireturn, 1) := by decide +kernel
set_option maxRecDepth 20000 in
theorem ggX6_tract_X6_isOwner : GoodIn wsX6_tract wsX6_isOwner := goodIn_r _ [15] (by decide +kernel) (by decide +kernel)
set_option maxRecDepth 20000 in
theorem gX6_tract_X6_isOwner : GoodIn wsX6_tract (va_wsS RX6 105 yX6_isOwner wsX6_isOwner) := goodIn_app (goodIn_of _ (by decide +kernel)) ggX6_tract_X6_isOwner
set_option maxRecDepth 20000 in
theorem ggX6_tract_X3_init : GoodIn wsX6_tract wsX3_init := goodIn_r _ [18, 19, 20, 21, 22, 23, 24, 45, 46, 47] (by decide +kernel) (by decide +kernel)
set_option maxRecDepth 20000 in
theorem gX6_tract_X3_init : GoodIn wsX6_tract (wsX3_init) := ggX6_tract_X3_init
theorem dX6_tract_0 : decode cX6_tract 0 = .ok (.iload_n 2, 1) := by decide +kernel
theorem dX6_tract_1 : decode cX6_tract 1 = .ok (.invokestatic 105, 3) := by decide +kernel
theorem dX6_tract_4 : decode cX6_tract 4 = .ok (.ifCond .ne 13, 3) := by decide +kernel
theorem dX6_tract_7 : decode cX6_tract 7 = .ok (.new 109, 3) := by decide +kernel
theorem dX6_tract_10 : decode cX6_tract 10 = .ok (.dup, 1) := by decide +kernel
theorem dX6_tract_11 : decode cX6_tract 11 = .ok (.ldc 111, 2) := by decide +kernel
theorem dX6_tract_13 : decode cX6_tract 13 = .ok (.invokespecial 113, 3) := by decide +kernel
theorem dX6_tract_16 : decode cX6_tract 16 = .ok (.athrow, 1) := by decide +kernel
theorem dX6_tract_17 : decode cX6_tract 17 = .ok (.iload_n 1, 1) := by decide +kernel
theorem dX6_tract_18 : decode cX6_tract 18 = .ok (.iconst 1, 1) := by decide +kernel
theorem dX6_tract_19 : decode cX6_tract 19 = .ok (.if_icmp .lt 10, 3) := by decide +kernel
theorem dX6_tract_22 : decode cX6_tract 22 = .ok (.iload_n 1, 1) := by decide +kernel
theorem dX6_tract_23 : decode cX6_tract 23 = .ok (.sipush 1000, 3) := by decide +kernel
theorem dX6_tract_26 : decode cX6_tract 26 = .ok (.if_icmp .le 13, 3) := by decide +kernel
theorem dX6_tract_29 : decode cX6_tract 29 = .ok (.new 93, 3) := by decide +kernel
theorem dX6_tract_32 : decode cX6_tract 32 = .ok (.dup, 1) := by decide +kernel
theorem dX6_tract_33 : decode cX6_tract 33 = .ok (.ldc 114, 2) := by decide +kernel
theorem dX6_tract_35 : decode cX6_tract 35 = .ok (.invokespecial 97, 3) := by decide +kernel
theorem dX6_tract_38 : decode cX6_tract 38 = .ok (.athrow, 1) := by decide +kernel
theorem dX6_tract_39 : decode cX6_tract 39 = .ok (.aload_n 0, 1) := by decide +kernel
theorem dX6_tract_40 : decode cX6_tract 40 = .ok (.getfield 19, 3) := by decide +kernel
theorem dX6_tract_43 : decode cX6_tract 43 = .ok (.bipush 8, 2) := by decide +kernel
theorem dX6_tract_45 : decode cX6_tract 45 = .ok (.if_icmp .lt 13, 3) := by decide +kernel
theorem dX6_tract_48 : decode cX6_tract 48 = .ok (.new 100, 3) := by decide +kernel
theorem dX6_tract_51 : decode cX6_tract 51 = .ok (.dup, 1) := by decide +kernel
theorem dX6_tract_52 : decode cX6_tract 52 = .ok (.ldc 116, 2) := by decide +kernel
theorem dX6_tract_54 : decode cX6_tract 54 = .ok (.invokespecial 104, 3) := by decide +kernel
theorem dX6_tract_57 : decode cX6_tract 57 = .ok (.athrow, 1) := by decide +kernel
theorem dX6_tract_58 : decode cX6_tract 58 = .ok (.aload_n 0, 1) := by decide +kernel
theorem dX6_tract_59 : decode cX6_tract 59 = .ok (.getfield 15, 3) := by decide +kernel
theorem dX6_tract_62 : decode cX6_tract 62 = .ok (.aload_n 0, 1) := by decide +kernel
theorem dX6_tract_63 : decode cX6_tract 63 = .ok (.getfield 19, 3) := by decide +kernel
theorem dX6_tract_66 : decode cX6_tract 66 = .ok (.new 13, 3) := by decide +kernel
theorem dX6_tract_69 : decode cX6_tract 69 = .ok (.dup, 1) := by decide +kernel
theorem dX6_tract_70 : decode cX6_tract 70 = .ok (.iload_n 1, 1) := by decide +kernel
theorem dX6_tract_71 : decode cX6_tract 71 = .ok (.iload_n 2, 1) := by decide +kernel
theorem dX6_tract_72 : decode cX6_tract 72 = .ok (.invokespecial 118, 3) := by decide +kernel
theorem dX6_tract_75 : decode cX6_tract 75 = .ok (.aastore, 1) := by decide +kernel
theorem dX6_tract_76 : decode cX6_tract 76 = .ok (.aload_n 0, 1) := by decide +kernel
theorem dX6_tract_77 : decode cX6_tract 77 = .ok (.dup, 1) := by decide +kernel
theorem dX6_tract_78 : decode cX6_tract 78 = .ok (.getfield 19, 3) := by decide +kernel
theorem dX6_tract_81 : decode cX6_tract 81 = .ok (.dup_x1, 1) := by decide +kernel
theorem dX6_tract_82 : decode cX6_tract 82 = .ok (.iconst 1, 1) := by decide +kernel
theorem dX6_tract_83 : decode cX6_tract 83 = .ok (.iadd, 1) := by decide +kernel
theorem dX6_tract_84 : decode cX6_tract 84 = .ok (.putfield 19, 3) := by decide +kernel
theorem dX6_tract_87 : decode cX6_tract 87 = .ok (.ireturn, 1) := by decide +kernel
set_option maxRecDepth 20000 in
theorem ggX6_deed_X6_tractAt : GoodIn wsX6_deed wsX6_tractAt := goodIn_r _ [17, 18, 60, 61, 62, 63, 64, 65, 66, 67, 68, 69, 70, 71, 72, 73, 74, 75, 76, 77, 78, 79] (by decide +kernel) (by decide +kernel)
set_option maxRecDepth 20000 in
theorem gX6_deed_X6_tractAt : GoodIn wsX6_deed (wsV RX6 121 RX6 yX6_tractAt wsX6_tractAt) := goodIn_app (goodIn_of _ (by decide +kernel)) ggX6_deed_X6_tractAt
set_option maxRecDepth 20000 in
theorem ggX6_deed_X6_isOwner : GoodIn wsX6_deed wsX6_isOwner := goodIn_r _ [21] (by decide +kernel) (by decide +kernel)
set_option maxRecDepth 20000 in
theorem gX6_deed_X6_isOwner : GoodIn wsX6_deed (va_wsS RX6 105 yX6_isOwner wsX6_isOwner) := goodIn_app (goodIn_of _ (by decide +kernel)) ggX6_deed_X6_isOwner
set_option maxRecDepth 20000 in
theorem ggX6_deed_X6_isMonth : GoodIn wsX6_deed wsX6_isMonth := goodIn_r _ [25, 12, 60, 61, 62, 63, 64, 65, 66, 67, 68, 69, 70, 71, 72, 73, 74, 75, 76, 77, 78, 79] (by decide +kernel) (by decide +kernel)
set_option maxRecDepth 20000 in
theorem gX6_deed_X6_isMonth : GoodIn wsX6_deed (wsV RX6 125 RX6 yX6_isMonth wsX6_isMonth) := goodIn_app (goodIn_of _ (by decide +kernel)) ggX6_deed_X6_isMonth
set_option maxRecDepth 20000 in
theorem ggX6_deed_X6_leastTitle : GoodIn wsX6_deed wsX6_leastTitle := goodIn_r _ [29, 12, 30, 31, 32, 33, 34, 35, 36, 16, 37, 38, 8, 39, 40, 41, 42, 43, 60, 61, 62, 63, 64, 65, 66, 67, 68, 69, 70, 71, 72, 73, 74, 75, 76, 77, 78, 79, 85, 86, 87, 80, 81, 82, 83, 84] (by decide +kernel) (by decide +kernel)
set_option maxRecDepth 20000 in
theorem gX6_deed_X6_leastTitle : GoodIn wsX6_deed (wsV RX6 132 RX6 yX6_leastTitle wsX6_leastTitle) := goodIn_app (goodIn_of _ (by decide +kernel)) ggX6_deed_X6_leastTitle
set_option maxRecDepth 20000 in
theorem ggX6_deed_X0_init : GoodIn wsX6_deed wsX0_init := goodIn_r _ [46, 47, 48, 49, 50, 51, 52, 53, 54, 80, 81, 82, 83, 84] (by decide +kernel) (by decide +kernel)
set_option maxRecDepth 20000 in
theorem gX6_deed_X0_init : GoodIn wsX6_deed (wsX0_init) := ggX6_deed_X0_init
set_option maxRecDepth 20000 in
theorem ggX6_deed_X6_unsettle : GoodIn wsX6_deed wsX6_unsettle := goodIn_r _ [58, 59, 30, 31, 32, 33, 60, 61, 62, 63, 64, 65, 66, 67, 68, 69, 70, 71, 72, 73, 74, 75, 76, 77, 78, 79] (by decide +kernel) (by decide +kernel)
set_option maxRecDepth 20000 in
theorem gX6_deed_X6_unsettle : GoodIn wsX6_deed (wsV RX6 141 RX6 yX6_unsettle wsX6_unsettle) := goodIn_app (goodIn_of _ (by decide +kernel)) ggX6_deed_X6_unsettle
set_option maxRecDepth 20000 in
theorem ggX6_deed_X6_titleOf : GoodIn wsX6_deed wsX6_titleOf := goodIn_r _ [37, 38, 8, 39, 40, 41, 42, 43, 85, 86, 87, 60, 61, 62, 63, 64, 65, 66, 67, 68, 69, 70, 71, 72, 73, 74, 75, 76, 77, 78, 79, 80, 81, 82, 83, 84] (by decide +kernel) (by decide +kernel)
set_option maxRecDepth 20000 in
theorem gX6_deed_X6_titleOf : GoodIn wsX6_deed (wsV RX6 144 RX6 yX6_titleOf wsX6_titleOf) := goodIn_app (goodIn_of _ (by decide +kernel)) ggX6_deed_X6_titleOf
theorem dX6_deed_0 : decode cX6_deed 0 = .ok (.aload_n 0, 1) := by decide +kernel
theorem dX6_deed_1 : decode cX6_deed 1 = .ok (.iload_n 1, 1) := by decide +kernel
theorem dX6_deed_2 : decode cX6_deed 2 = .ok (.invokevirtual 121, 3) := by decide +kernel
theorem dX6_deed_5 : decode cX6_deed 5 = .ok (.astore 6, 2) := by decide +kernel
theorem dX6_deed_7 : decode cX6_deed 7 = .ok (.aload 6, 2) := by decide +kernel
theorem dX6_deed_9 : decode cX6_deed 9 = .ok (.ifnull 26, 3) := by decide +kernel
theorem dX6_deed_12 : decode cX6_deed 12 = .ok (.iload_n 2, 1) := by decide +kernel
theorem dX6_deed_13 : decode cX6_deed 13 = .ok (.invokestatic 105, 3) := by decide +kernel
theorem dX6_deed_16 : decode cX6_deed 16 = .ok (.ifCond .eq 19, 3) := by decide +kernel
theorem dX6_deed_19 : decode cX6_deed 19 = .ok (.iload_n 3, 1) := by decide +kernel
theorem dX6_deed_20 : decode cX6_deed 20 = .ok (.invokestatic 105, 3) := by decide +kernel
theorem dX6_deed_23 : decode cX6_deed 23 = .ok (.ifCond .eq 12, 3) := by decide +kernel
theorem dX6_deed_26 : decode cX6_deed 26 = .ok (.aload_n 0, 1) := by decide +kernel
theorem dX6_deed_27 : decode cX6_deed 27 = .ok (.iload 5, 2) := by decide +kernel
theorem dX6_deed_29 : decode cX6_deed 29 = .ok (.invokevirtual 125, 3) := by decide +kernel
theorem dX6_deed_32 : decode cX6_deed 32 = .ok (.ifCond .ne 13, 3) := by decide +kernel
theorem dX6_deed_35 : decode cX6_deed 35 = .ok (.new 109, 3) := by decide +kernel
theorem dX6_deed_38 : decode cX6_deed 38 = .ok (.dup, 1) := by decide +kernel
theorem dX6_deed_39 : decode cX6_deed 39 = .ok (.ldc 128, 2) := by decide +kernel
theorem dX6_deed_41 : decode cX6_deed 41 = .ok (.invokespecial 113, 3) := by decide +kernel
theorem dX6_deed_44 : decode cX6_deed 44 = .ok (.athrow, 1) := by decide +kernel
theorem dX6_deed_45 : decode cX6_deed 45 = .ok (.iload_n 2, 1) := by decide +kernel
theorem dX6_deed_46 : decode cX6_deed 46 = .ok (.iload_n 3, 1) := by decide +kernel
theorem dX6_deed_47 : decode cX6_deed 47 = .ok (.if_icmp .eq 17, 3) := by decide +kernel
theorem dX6_deed_50 : decode cX6_deed 50 = .ok (.iload 4, 2) := by decide +kernel
theorem dX6_deed_52 : decode cX6_deed 52 = .ok (.iconst 1, 1) := by decide +kernel
theorem dX6_deed_53 : decode cX6_deed 53 = .ok (.if_icmp .lt 11, 3) := by decide +kernel
theorem dX6_deed_56 : decode cX6_deed 56 = .ok (.iload 4, 2) := by decide +kernel
theorem dX6_deed_58 : decode cX6_deed 58 = .ok (.sipush 10000, 3) := by decide +kernel
theorem dX6_deed_61 : decode cX6_deed 61 = .ok (.if_icmp .le 13, 3) := by decide +kernel
theorem dX6_deed_64 : decode cX6_deed 64 = .ok (.new 93, 3) := by decide +kernel
theorem dX6_deed_67 : decode cX6_deed 67 = .ok (.dup, 1) := by decide +kernel
theorem dX6_deed_68 : decode cX6_deed 68 = .ok (.ldc 130, 2) := by decide +kernel
theorem dX6_deed_70 : decode cX6_deed 70 = .ok (.invokespecial 97, 3) := by decide +kernel
theorem dX6_deed_73 : decode cX6_deed 73 = .ok (.athrow, 1) := by decide +kernel
theorem dX6_deed_74 : decode cX6_deed 74 = .ok (.aload_n 0, 1) := by decide +kernel
theorem dX6_deed_75 : decode cX6_deed 75 = .ok (.aload 6, 2) := by decide +kernel
theorem dX6_deed_77 : decode cX6_deed 77 = .ok (.iload_n 2, 1) := by decide +kernel
theorem dX6_deed_78 : decode cX6_deed 78 = .ok (.iload 5, 2) := by decide +kernel
theorem dX6_deed_80 : decode cX6_deed 80 = .ok (.invokevirtual 132, 3) := by decide +kernel
theorem dX6_deed_83 : decode cX6_deed 83 = .ok (.iload 4, 2) := by decide +kernel
theorem dX6_deed_85 : decode cX6_deed 85 = .ok (.if_icmp .lt 12, 3) := by decide +kernel
theorem dX6_deed_88 : decode cX6_deed 88 = .ok (.aload_n 0, 1) := by decide +kernel
theorem dX6_deed_89 : decode cX6_deed 89 = .ok (.getfield 28, 3) := by decide +kernel
theorem dX6_deed_92 : decode cX6_deed 92 = .ok (.bipush 40, 2) := by decide +kernel
theorem dX6_deed_94 : decode cX6_deed 94 = .ok (.if_icmp .lt 13, 3) := by decide +kernel
theorem dX6_deed_97 : decode cX6_deed 97 = .ok (.new 100, 3) := by decide +kernel
theorem dX6_deed_100 : decode cX6_deed 100 = .ok (.dup, 1) := by decide +kernel
theorem dX6_deed_101 : decode cX6_deed 101 = .ok (.ldc 136, 2) := by decide +kernel
theorem dX6_deed_103 : decode cX6_deed 103 = .ok (.invokespecial 104, 3) := by decide +kernel
theorem dX6_deed_106 : decode cX6_deed 106 = .ok (.athrow, 1) := by decide +kernel
theorem dX6_deed_107 : decode cX6_deed 107 = .ok (.aload_n 0, 1) := by decide +kernel
theorem dX6_deed_108 : decode cX6_deed 108 = .ok (.getfield 24, 3) := by decide +kernel
theorem dX6_deed_111 : decode cX6_deed 111 = .ok (.aload_n 0, 1) := by decide +kernel
theorem dX6_deed_112 : decode cX6_deed 112 = .ok (.getfield 28, 3) := by decide +kernel
theorem dX6_deed_115 : decode cX6_deed 115 = .ok (.new 22, 3) := by decide +kernel
theorem dX6_deed_118 : decode cX6_deed 118 = .ok (.dup, 1) := by decide +kernel
theorem dX6_deed_119 : decode cX6_deed 119 = .ok (.aload 6, 2) := by decide +kernel
theorem dX6_deed_121 : decode cX6_deed 121 = .ok (.iload_n 2, 1) := by decide +kernel
theorem dX6_deed_122 : decode cX6_deed 122 = .ok (.iload_n 3, 1) := by decide +kernel
theorem dX6_deed_123 : decode cX6_deed 123 = .ok (.iload 4, 2) := by decide +kernel
theorem dX6_deed_125 : decode cX6_deed 125 = .ok (.iload 5, 2) := by decide +kernel
theorem dX6_deed_127 : decode cX6_deed 127 = .ok (.invokespecial 138, 3) := by decide +kernel
theorem dX6_deed_130 : decode cX6_deed 130 = .ok (.aastore, 1) := by decide +kernel
theorem dX6_deed_131 : decode cX6_deed 131 = .ok (.aload_n 0, 1) := by decide +kernel
theorem dX6_deed_132 : decode cX6_deed 132 = .ok (.dup, 1) := by decide +kernel
theorem dX6_deed_133 : decode cX6_deed 133 = .ok (.getfield 28, 3) := by decide +kernel
theorem dX6_deed_136 : decode cX6_deed 136 = .ok (.iconst 1, 1) := by decide +kernel
theorem dX6_deed_137 : decode cX6_deed 137 = .ok (.iadd, 1) := by decide +kernel
theorem dX6_deed_138 : decode cX6_deed 138 = .ok (.putfield 28, 3) := by decide +kernel
theorem dX6_deed_141 : decode cX6_deed 141 = .ok (.aload_n 0, 1) := by decide +kernel
theorem dX6_deed_142 : decode cX6_deed 142 = .ok (.iload 5, 2) := by decide +kernel
theorem dX6_deed_144 : decode cX6_deed 144 = .ok (.invokevirtual 141, 3) := by decide +kernel
theorem dX6_deed_147 : decode cX6_deed 147 = .ok (.aload_n 0, 1) := by decide +kernel
theorem dX6_deed_148 : decode cX6_deed 148 = .ok (.aload 6, 2) := by decide +kernel
theorem dX6_deed_150 : decode cX6_deed 150 = .ok (.iload_n 2, 1) := by decide +kernel
theorem dX6_deed_151 : decode cX6_deed 151 = .ok (.aload_n 0, 1) := by decide +kernel
theorem dX6_deed_152 : decode cX6_deed 152 = .ok (.getfield 9, 3) := by decide +kernel
theorem dX6_deed_155 : decode cX6_deed 155 = .ok (.invokevirtual 144, 3) := by decide +kernel
theorem dX6_deed_158 : decode cX6_deed 158 = .ok (.ireturn, 1) := by decide +kernel
set_option maxRecDepth 20000 in
theorem ggX6_title_X6_tractAt : GoodIn wsX6_title wsX6_tractAt := goodIn_r _ [7, 8, 28, 29, 30, 31, 32, 33, 34, 35, 36, 37, 38, 39, 40, 41, 42, 43, 44, 45, 46, 47] (by decide +kernel) (by decide +kernel)
set_option maxRecDepth 20000 in
theorem gX6_title_X6_tractAt : GoodIn wsX6_title (wsV RX6 121 RX6 yX6_tractAt wsX6_tractAt) := goodIn_app (goodIn_of _ (by decide +kernel)) ggX6_title_X6_tractAt
set_option maxRecDepth 20000 in
theorem ggX6_title_X6_isOwner : GoodIn wsX6_title wsX6_isOwner := goodIn_r _ [11] (by decide +kernel) (by decide +kernel)
set_option maxRecDepth 20000 in
theorem gX6_title_X6_isOwner : GoodIn wsX6_title (va_wsS RX6 105 yX6_isOwner wsX6_isOwner) := goodIn_app (goodIn_of _ (by decide +kernel)) ggX6_title_X6_isOwner
set_option maxRecDepth 20000 in
theorem ggX6_title_X6_isMonth : GoodIn wsX6_title wsX6_isMonth := goodIn_r _ [15, 16, 28, 29, 30, 31, 32, 33, 34, 35, 36, 37, 38, 39, 40, 41, 42, 43, 44, 45, 46, 47] (by decide +kernel) (by decide +kernel)
set_option maxRecDepth 20000 in
theorem gX6_title_X6_isMonth : GoodIn wsX6_title (wsV RX6 125 RX6 yX6_isMonth wsX6_isMonth) := goodIn_app (goodIn_of _ (by decide +kernel)) ggX6_title_X6_isMonth
set_option maxRecDepth 20000 in
theorem ggX6_title_X6_titleOf : GoodIn wsX6_title wsX6_titleOf := goodIn_r _ [20, 21, 22, 23, 24, 25, 26, 27, 48, 49, 50, 28, 29, 30, 31, 32, 33, 34, 35, 36, 37, 38, 39, 40, 41, 42, 43, 44, 45, 46, 47, 51, 52, 53, 54, 55] (by decide +kernel) (by decide +kernel)
set_option maxRecDepth 20000 in
theorem gX6_title_X6_titleOf : GoodIn wsX6_title (wsV RX6 144 RX6 yX6_titleOf wsX6_titleOf) := goodIn_app (goodIn_of _ (by decide +kernel)) ggX6_title_X6_titleOf
theorem dX6_title_0 : decode cX6_title 0 = .ok (.aload_n 0, 1) := by decide +kernel
theorem dX6_title_1 : decode cX6_title 1 = .ok (.iload_n 1, 1) := by decide +kernel
theorem dX6_title_2 : decode cX6_title 2 = .ok (.invokevirtual 121, 3) := by decide +kernel
theorem dX6_title_5 : decode cX6_title 5 = .ok (.astore 4, 2) := by decide +kernel
theorem dX6_title_7 : decode cX6_title 7 = .ok (.aload 4, 2) := by decide +kernel
theorem dX6_title_9 : decode cX6_title 9 = .ok (.ifnull 18, 3) := by decide +kernel
theorem dX6_title_12 : decode cX6_title 12 = .ok (.iload_n 2, 1) := by decide +kernel
theorem dX6_title_13 : decode cX6_title 13 = .ok (.invokestatic 105, 3) := by decide +kernel
theorem dX6_title_16 : decode cX6_title 16 = .ok (.ifCond .eq 11, 3) := by decide +kernel
theorem dX6_title_19 : decode cX6_title 19 = .ok (.aload_n 0, 1) := by decide +kernel
theorem dX6_title_20 : decode cX6_title 20 = .ok (.iload_n 3, 1) := by decide +kernel
theorem dX6_title_21 : decode cX6_title 21 = .ok (.invokevirtual 125, 3) := by decide +kernel
theorem dX6_title_24 : decode cX6_title 24 = .ok (.ifCond .ne 13, 3) := by decide +kernel
theorem dX6_title_27 : decode cX6_title 27 = .ok (.new 109, 3) := by decide +kernel
theorem dX6_title_30 : decode cX6_title 30 = .ok (.dup, 1) := by decide +kernel
theorem dX6_title_31 : decode cX6_title 31 = .ok (.ldc 128, 2) := by decide +kernel
theorem dX6_title_33 : decode cX6_title 33 = .ok (.invokespecial 113, 3) := by decide +kernel
theorem dX6_title_36 : decode cX6_title 36 = .ok (.athrow, 1) := by decide +kernel
theorem dX6_title_37 : decode cX6_title 37 = .ok (.aload_n 0, 1) := by decide +kernel
theorem dX6_title_38 : decode cX6_title 38 = .ok (.aload 4, 2) := by decide +kernel
theorem dX6_title_40 : decode cX6_title 40 = .ok (.iload_n 2, 1) := by decide +kernel
theorem dX6_title_41 : decode cX6_title 41 = .ok (.iload_n 3, 1) := by decide +kernel
theorem dX6_title_42 : decode cX6_title 42 = .ok (.invokevirtual 144, 3) := by decide +kernel
theorem dX6_title_45 : decode cX6_title 45 = .ok (.ireturn, 1) := by decide +kernel
set_option maxRecDepth 20000 in
theorem ggX6_lease_X6_tractAt : GoodIn wsX6_lease wsX6_tractAt := goodIn_r _ [19, 20, 45, 46, 47, 48, 49, 50, 51, 52, 53, 54, 55, 56, 57, 58, 59, 60, 61, 62, 63, 64] (by decide +kernel) (by decide +kernel)
set_option maxRecDepth 20000 in
theorem gX6_lease_X6_tractAt : GoodIn wsX6_lease (wsV RX6 121 RX6 yX6_tractAt wsX6_tractAt) := goodIn_app (goodIn_of _ (by decide +kernel)) ggX6_lease_X6_tractAt
set_option maxRecDepth 20000 in
theorem ggX6_lease_X6_isOwner : GoodIn wsX6_lease wsX6_isOwner := goodIn_r _ [23] (by decide +kernel) (by decide +kernel)
set_option maxRecDepth 20000 in
theorem gX6_lease_X6_isOwner : GoodIn wsX6_lease (va_wsS RX6 105 yX6_isOwner wsX6_isOwner) := goodIn_app (goodIn_of _ (by decide +kernel)) ggX6_lease_X6_isOwner
set_option maxRecDepth 20000 in
theorem ggX6_lease_X1_init : GoodIn wsX6_lease wsX1_init := goodIn_r _ [26, 27, 28, 29, 30, 31, 32, 33, 34, 35, 65, 66, 67, 68, 69, 70] (by decide +kernel) (by decide +kernel)
set_option maxRecDepth 20000 in
theorem gX6_lease_X1_init : GoodIn wsX6_lease (wsX1_init) := ggX6_lease_X1_init
set_option maxRecDepth 20000 in
theorem ggX6_lease_X6_unsettle : GoodIn wsX6_lease wsX6_unsettle := goodIn_r _ [39, 40, 41, 42, 43, 44, 45, 46, 47, 48, 49, 50, 51, 52, 53, 54, 55, 56, 57, 58, 59, 60, 61, 62, 63, 64] (by decide +kernel) (by decide +kernel)
set_option maxRecDepth 20000 in
theorem gX6_lease_X6_unsettle : GoodIn wsX6_lease (wsV RX6 141 RX6 yX6_unsettle wsX6_unsettle) := goodIn_app (goodIn_of _ (by decide +kernel)) ggX6_lease_X6_unsettle
theorem dX6_lease_0 : decode cX6_lease 0 = .ok (.aload_n 0, 1) := by decide +kernel
theorem dX6_lease_1 : decode cX6_lease 1 = .ok (.iload_n 1, 1) := by decide +kernel
theorem dX6_lease_2 : decode cX6_lease 2 = .ok (.invokevirtual 121, 3) := by decide +kernel
theorem dX6_lease_5 : decode cX6_lease 5 = .ok (.astore 6, 2) := by decide +kernel
theorem dX6_lease_7 : decode cX6_lease 7 = .ok (.aload 6, 2) := by decide +kernel
theorem dX6_lease_9 : decode cX6_lease 9 = .ok (.ifnull 17, 3) := by decide +kernel
theorem dX6_lease_12 : decode cX6_lease 12 = .ok (.iload_n 2, 1) := by decide +kernel
theorem dX6_lease_13 : decode cX6_lease 13 = .ok (.invokestatic 105, 3) := by decide +kernel
theorem dX6_lease_16 : decode cX6_lease 16 = .ok (.ifCond .eq 10, 3) := by decide +kernel
theorem dX6_lease_19 : decode cX6_lease 19 = .ok (.iload_n 3, 1) := by decide +kernel
theorem dX6_lease_20 : decode cX6_lease 20 = .ok (.invokestatic 105, 3) := by decide +kernel
theorem dX6_lease_23 : decode cX6_lease 23 = .ok (.ifCond .ne 13, 3) := by decide +kernel
theorem dX6_lease_26 : decode cX6_lease 26 = .ok (.new 109, 3) := by decide +kernel
theorem dX6_lease_29 : decode cX6_lease 29 = .ok (.dup, 1) := by decide +kernel
theorem dX6_lease_30 : decode cX6_lease 30 = .ok (.ldc 147, 2) := by decide +kernel
theorem dX6_lease_32 : decode cX6_lease 32 = .ok (.invokespecial 113, 3) := by decide +kernel
theorem dX6_lease_35 : decode cX6_lease 35 = .ok (.athrow, 1) := by decide +kernel
theorem dX6_lease_36 : decode cX6_lease 36 = .ok (.iload_n 2, 1) := by decide +kernel
theorem dX6_lease_37 : decode cX6_lease 37 = .ok (.iload_n 3, 1) := by decide +kernel
theorem dX6_lease_38 : decode cX6_lease 38 = .ok (.if_icmp .eq 29, 3) := by decide +kernel
theorem dX6_lease_41 : decode cX6_lease 41 = .ok (.iload 4, 2) := by decide +kernel
theorem dX6_lease_43 : decode cX6_lease 43 = .ok (.ifCond .lt 24, 3) := by decide +kernel
theorem dX6_lease_46 : decode cX6_lease 46 = .ok (.iload 4, 2) := by decide +kernel
theorem dX6_lease_48 : decode cX6_lease 48 = .ok (.sipush 500, 3) := by decide +kernel
theorem dX6_lease_51 : decode cX6_lease 51 = .ok (.if_icmp .gt 16, 3) := by decide +kernel
theorem dX6_lease_54 : decode cX6_lease 54 = .ok (.iload 5, 2) := by decide +kernel
theorem dX6_lease_56 : decode cX6_lease 56 = .ok (.iconst 1, 1) := by decide +kernel
theorem dX6_lease_57 : decode cX6_lease 57 = .ok (.if_icmp .lt 10, 3) := by decide +kernel
theorem dX6_lease_60 : decode cX6_lease 60 = .ok (.iload 5, 2) := by decide +kernel
theorem dX6_lease_62 : decode cX6_lease 62 = .ok (.bipush 36, 2) := by decide +kernel
theorem dX6_lease_64 : decode cX6_lease 64 = .ok (.if_icmp .le 13, 3) := by decide +kernel
theorem dX6_lease_67 : decode cX6_lease 67 = .ok (.new 93, 3) := by decide +kernel
theorem dX6_lease_70 : decode cX6_lease 70 = .ok (.dup, 1) := by decide +kernel
theorem dX6_lease_71 : decode cX6_lease 71 = .ok (.ldc 149, 2) := by decide +kernel
theorem dX6_lease_73 : decode cX6_lease 73 = .ok (.invokespecial 97, 3) := by decide +kernel
theorem dX6_lease_76 : decode cX6_lease 76 = .ok (.athrow, 1) := by decide +kernel
theorem dX6_lease_77 : decode cX6_lease 77 = .ok (.aload_n 0, 1) := by decide +kernel
theorem dX6_lease_78 : decode cX6_lease 78 = .ok (.getfield 37, 3) := by decide +kernel
theorem dX6_lease_81 : decode cX6_lease 81 = .ok (.bipush 16, 2) := by decide +kernel
theorem dX6_lease_83 : decode cX6_lease 83 = .ok (.if_icmp .lt 13, 3) := by decide +kernel
theorem dX6_lease_86 : decode cX6_lease 86 = .ok (.new 100, 3) := by decide +kernel
theorem dX6_lease_89 : decode cX6_lease 89 = .ok (.dup, 1) := by decide +kernel
theorem dX6_lease_90 : decode cX6_lease 90 = .ok (.ldc 151, 2) := by decide +kernel
theorem dX6_lease_92 : decode cX6_lease 92 = .ok (.invokespecial 104, 3) := by decide +kernel
theorem dX6_lease_95 : decode cX6_lease 95 = .ok (.athrow, 1) := by decide +kernel
theorem dX6_lease_96 : decode cX6_lease 96 = .ok (.new 31, 3) := by decide +kernel
theorem dX6_lease_99 : decode cX6_lease 99 = .ok (.dup, 1) := by decide +kernel
theorem dX6_lease_100 : decode cX6_lease 100 = .ok (.aload 6, 2) := by decide +kernel
theorem dX6_lease_102 : decode cX6_lease 102 = .ok (.iload_n 2, 1) := by decide +kernel
theorem dX6_lease_103 : decode cX6_lease 103 = .ok (.iload_n 3, 1) := by decide +kernel
theorem dX6_lease_104 : decode cX6_lease 104 = .ok (.iload 4, 2) := by decide +kernel
theorem dX6_lease_106 : decode cX6_lease 106 = .ok (.invokespecial 153, 3) := by decide +kernel
theorem dX6_lease_109 : decode cX6_lease 109 = .ok (.astore 7, 2) := by decide +kernel
theorem dX6_lease_111 : decode cX6_lease 111 = .ok (.aload 7, 2) := by decide +kernel
theorem dX6_lease_113 : decode cX6_lease 113 = .ok (.aload_n 0, 1) := by decide +kernel
theorem dX6_lease_114 : decode cX6_lease 114 = .ok (.getfield 9, 3) := by decide +kernel
theorem dX6_lease_117 : decode cX6_lease 117 = .ok (.putfield 156, 3) := by decide +kernel
theorem dX6_lease_120 : decode cX6_lease 120 = .ok (.aload 7, 2) := by decide +kernel
theorem dX6_lease_122 : decode cX6_lease 122 = .ok (.aload_n 0, 1) := by decide +kernel
theorem dX6_lease_123 : decode cX6_lease 123 = .ok (.getfield 9, 3) := by decide +kernel
theorem dX6_lease_126 : decode cX6_lease 126 = .ok (.iload 5, 2) := by decide +kernel
theorem dX6_lease_128 : decode cX6_lease 128 = .ok (.iadd, 1) := by decide +kernel
theorem dX6_lease_129 : decode cX6_lease 129 = .ok (.iconst 1, 1) := by decide +kernel
theorem dX6_lease_130 : decode cX6_lease 130 = .ok (.isub, 1) := by decide +kernel
theorem dX6_lease_131 : decode cX6_lease 131 = .ok (.putfield 159, 3) := by decide +kernel
theorem dX6_lease_134 : decode cX6_lease 134 = .ok (.aload_n 0, 1) := by decide +kernel
theorem dX6_lease_135 : decode cX6_lease 135 = .ok (.getfield 33, 3) := by decide +kernel
theorem dX6_lease_138 : decode cX6_lease 138 = .ok (.aload_n 0, 1) := by decide +kernel
theorem dX6_lease_139 : decode cX6_lease 139 = .ok (.getfield 37, 3) := by decide +kernel
theorem dX6_lease_142 : decode cX6_lease 142 = .ok (.aload 7, 2) := by decide +kernel
theorem dX6_lease_144 : decode cX6_lease 144 = .ok (.aastore, 1) := by decide +kernel
theorem dX6_lease_145 : decode cX6_lease 145 = .ok (.aload_n 0, 1) := by decide +kernel
theorem dX6_lease_146 : decode cX6_lease 146 = .ok (.aload_n 0, 1) := by decide +kernel
theorem dX6_lease_147 : decode cX6_lease 147 = .ok (.getfield 9, 3) := by decide +kernel
theorem dX6_lease_150 : decode cX6_lease 150 = .ok (.invokevirtual 141, 3) := by decide +kernel
theorem dX6_lease_153 : decode cX6_lease 153 = .ok (.aload_n 0, 1) := by decide +kernel
theorem dX6_lease_154 : decode cX6_lease 154 = .ok (.dup, 1) := by decide +kernel
theorem dX6_lease_155 : decode cX6_lease 155 = .ok (.getfield 37, 3) := by decide +kernel
theorem dX6_lease_158 : decode cX6_lease 158 = .ok (.dup_x1, 1) := by decide +kernel
theorem dX6_lease_159 : decode cX6_lease 159 = .ok (.iconst 1, 1) := by decide +kernel
theorem dX6_lease_160 : decode cX6_lease 160 = .ok (.iadd, 1) := by decide +kernel
theorem dX6_lease_161 : decode cX6_lease 161 = .ok (.putfield 37, 3) := by decide +kernel
theorem dX6_lease_164 : decode cX6_lease 164 = .ok (.ireturn, 1) := by decide +kernel
set_option maxRecDepth 20000 in
theorem ggX6_unit_X6_hasTractOfUnit : GoodIn wsX6_unit wsX6_hasTractOfUnit := goodIn_r _ [18, 11, 12, 19, 20, 17, 21, 46, 47, 48, 49, 50, 51, 52, 53, 54, 55, 56, 57, 58, 59, 60, 61, 62, 63, 64, 65, 73, 74, 75] (by decide +kernel) (by decide +kernel)
set_option maxRecDepth 20000 in
theorem gX6_unit_X6_hasTractOfUnit : GoodIn wsX6_unit (wsV RX6 169 RX6 yX6_hasTractOfUnit wsX6_hasTractOfUnit) := goodIn_app (goodIn_of _ (by decide +kernel)) ggX6_unit_X6_hasTractOfUnit
set_option maxRecDepth 20000 in
theorem ggX6_unit_X4_init : GoodIn wsX6_unit wsX4_init := goodIn_r _ [24, 25, 26, 27, 28, 29, 30, 31, 32, 33, 34, 35, 36, 66, 67, 68, 69, 70, 71, 72] (by decide +kernel) (by decide +kernel)
set_option maxRecDepth 20000 in
theorem gX6_unit_X4_init : GoodIn wsX6_unit (wsX4_init) := ggX6_unit_X4_init
set_option maxRecDepth 20000 in
theorem ggX6_unit_X6_hasBit : GoodIn wsX6_unit wsX6_hasBit := goodIn_r _ [21] (by decide +kernel) (by decide +kernel)
set_option maxRecDepth 20000 in
theorem gX6_unit_X6_hasBit : GoodIn wsX6_unit (va_wsS RX6 175 yX6_hasBit wsX6_hasBit) := goodIn_app (goodIn_of _ (by decide +kernel)) ggX6_unit_X6_hasBit
set_option maxRecDepth 20000 in
theorem ggX6_unit_X6_unsettle : GoodIn wsX6_unit wsX6_unsettle := goodIn_r _ [40, 41, 42, 43, 44, 45, 46, 47, 48, 49, 50, 51, 52, 53, 54, 55, 56, 57, 58, 59, 60, 61, 62, 63, 64, 65] (by decide +kernel) (by decide +kernel)
set_option maxRecDepth 20000 in
theorem gX6_unit_X6_unsettle : GoodIn wsX6_unit (wsV RX6 141 RX6 yX6_unsettle wsX6_unsettle) := goodIn_app (goodIn_of _ (by decide +kernel)) ggX6_unit_X6_unsettle
theorem dX6_unit_0 : decode cX6_unit 0 = .ok (.iload_n 1, 1) := by decide +kernel
theorem dX6_unit_1 : decode cX6_unit 1 = .ok (.ifCond .eq 12, 3) := by decide +kernel
theorem dX6_unit_4 : decode cX6_unit 4 = .ok (.iload_n 1, 1) := by decide +kernel
theorem dX6_unit_5 : decode cX6_unit 5 = .ok (.aload_n 0, 1) := by decide +kernel
theorem dX6_unit_6 : decode cX6_unit 6 = .ok (.getfield 19, 3) := by decide +kernel
theorem dX6_unit_9 : decode cX6_unit 9 = .ok (.iushr, 1) := by decide +kernel
theorem dX6_unit_10 : decode cX6_unit 10 = .ok (.ifCond .eq 13, 3) := by decide +kernel
theorem dX6_unit_13 : decode cX6_unit 13 = .ok (.new 93, 3) := by decide +kernel
theorem dX6_unit_16 : decode cX6_unit 16 = .ok (.dup, 1) := by decide +kernel
theorem dX6_unit_17 : decode cX6_unit 17 = .ok (.ldc 167, 2) := by decide +kernel
theorem dX6_unit_19 : decode cX6_unit 19 = .ok (.invokespecial 97, 3) := by decide +kernel
theorem dX6_unit_22 : decode cX6_unit 22 = .ok (.athrow, 1) := by decide +kernel
theorem dX6_unit_23 : decode cX6_unit 23 = .ok (.aload_n 0, 1) := by decide +kernel
theorem dX6_unit_24 : decode cX6_unit 24 = .ok (.iload_n 1, 1) := by decide +kernel
theorem dX6_unit_25 : decode cX6_unit 25 = .ok (.invokevirtual 169, 3) := by decide +kernel
theorem dX6_unit_28 : decode cX6_unit 28 = .ok (.ifCond .ne 11, 3) := by decide +kernel
theorem dX6_unit_31 : decode cX6_unit 31 = .ok (.aload_n 0, 1) := by decide +kernel
theorem dX6_unit_32 : decode cX6_unit 32 = .ok (.getfield 46, 3) := by decide +kernel
theorem dX6_unit_35 : decode cX6_unit 35 = .ok (.iconst 3, 1) := by decide +kernel
theorem dX6_unit_36 : decode cX6_unit 36 = .ok (.if_icmp .lt 13, 3) := by decide +kernel
theorem dX6_unit_39 : decode cX6_unit 39 = .ok (.new 100, 3) := by decide +kernel
theorem dX6_unit_42 : decode cX6_unit 42 = .ok (.dup, 1) := by decide +kernel
theorem dX6_unit_43 : decode cX6_unit 43 = .ok (.ldc 172, 2) := by decide +kernel
theorem dX6_unit_45 : decode cX6_unit 45 = .ok (.invokespecial 104, 3) := by decide +kernel
theorem dX6_unit_48 : decode cX6_unit 48 = .ok (.athrow, 1) := by decide +kernel
theorem dX6_unit_49 : decode cX6_unit 49 = .ok (.new 40, 3) := by decide +kernel
theorem dX6_unit_52 : decode cX6_unit 52 = .ok (.dup, 1) := by decide +kernel
theorem dX6_unit_53 : decode cX6_unit 53 = .ok (.aload_n 0, 1) := by decide +kernel
theorem dX6_unit_54 : decode cX6_unit 54 = .ok (.getfield 9, 3) := by decide +kernel
theorem dX6_unit_57 : decode cX6_unit 57 = .ok (.invokespecial 174, 3) := by decide +kernel
theorem dX6_unit_60 : decode cX6_unit 60 = .ok (.astore_n 2, 1) := by decide +kernel
theorem dX6_unit_61 : decode cX6_unit 61 = .ok (.iconst 0, 1) := by decide +kernel
theorem dX6_unit_62 : decode cX6_unit 62 = .ok (.istore_n 3, 1) := by decide +kernel
theorem dX6_unit_63 : decode cX6_unit 63 = .ok (.iload_n 3, 1) := by decide +kernel
theorem dX6_unit_64 : decode cX6_unit 64 = .ok (.bipush 8, 2) := by decide +kernel
theorem dX6_unit_66 : decode cX6_unit 66 = .ok (.if_icmp .ge 36, 3) := by decide +kernel
theorem dX6_unit_69 : decode cX6_unit 69 = .ok (.aload_n 0, 1) := by decide +kernel
theorem dX6_unit_70 : decode cX6_unit 70 = .ok (.getfield 15, 3) := by decide +kernel
theorem dX6_unit_73 : decode cX6_unit 73 = .ok (.iload_n 3, 1) := by decide +kernel
theorem dX6_unit_74 : decode cX6_unit 74 = .ok (.aaload, 1) := by decide +kernel
theorem dX6_unit_75 : decode cX6_unit 75 = .ok (.astore 4, 2) := by decide +kernel
theorem dX6_unit_77 : decode cX6_unit 77 = .ok (.aload 4, 2) := by decide +kernel
theorem dX6_unit_79 : decode cX6_unit 79 = .ok (.ifnull 17, 3) := by decide +kernel
theorem dX6_unit_82 : decode cX6_unit 82 = .ok (.iload_n 1, 1) := by decide +kernel
theorem dX6_unit_83 : decode cX6_unit 83 = .ok (.iload_n 3, 1) := by decide +kernel
theorem dX6_unit_84 : decode cX6_unit 84 = .ok (.invokestatic 175, 3) := by decide +kernel
theorem dX6_unit_87 : decode cX6_unit 87 = .ok (.ifCond .eq 9, 3) := by decide +kernel
theorem dX6_unit_90 : decode cX6_unit 90 = .ok (.aload 4, 2) := by decide +kernel
theorem dX6_unit_92 : decode cX6_unit 92 = .ok (.aload_n 2, 1) := by decide +kernel
end
section
theorem dX6_unit_93 : decode cX6_unit 93 = .ok (.putfield 179, 3) := by decide +kernel
theorem dX6_unit_96 : decode cX6_unit 96 = .ok (.iinc 3 1, 3) := by decide +kernel
theorem dX6_unit_99 : decode cX6_unit 99 = .ok (.goto (-36), 3) := by decide +kernel
theorem dX6_unit_102 : decode cX6_unit 102 = .ok (.aload_n 0, 1) := by decide +kernel
theorem dX6_unit_103 : decode cX6_unit 103 = .ok (.getfield 42, 3) := by decide +kernel
theorem dX6_unit_106 : decode cX6_unit 106 = .ok (.aload_n 0, 1) := by decide +kernel
theorem dX6_unit_107 : decode cX6_unit 107 = .ok (.getfield 46, 3) := by decide +kernel
theorem dX6_unit_110 : decode cX6_unit 110 = .ok (.aload_n 2, 1) := by decide +kernel
theorem dX6_unit_111 : decode cX6_unit 111 = .ok (.aastore, 1) := by decide +kernel
theorem dX6_unit_112 : decode cX6_unit 112 = .ok (.aload_n 0, 1) := by decide +kernel
theorem dX6_unit_113 : decode cX6_unit 113 = .ok (.aload_n 0, 1) := by decide +kernel
theorem dX6_unit_114 : decode cX6_unit 114 = .ok (.getfield 9, 3) := by decide +kernel
theorem dX6_unit_117 : decode cX6_unit 117 = .ok (.invokevirtual 141, 3) := by decide +kernel
theorem dX6_unit_120 : decode cX6_unit 120 = .ok (.aload_n 0, 1) := by decide +kernel
theorem dX6_unit_121 : decode cX6_unit 121 = .ok (.dup, 1) := by decide +kernel
theorem dX6_unit_122 : decode cX6_unit 122 = .ok (.getfield 46, 3) := by decide +kernel
theorem dX6_unit_125 : decode cX6_unit 125 = .ok (.dup_x1, 1) := by decide +kernel
theorem dX6_unit_126 : decode cX6_unit 126 = .ok (.iconst 1, 1) := by decide +kernel
theorem dX6_unit_127 : decode cX6_unit 127 = .ok (.iadd, 1) := by decide +kernel
theorem dX6_unit_128 : decode cX6_unit 128 = .ok (.putfield 46, 3) := by decide +kernel
theorem dX6_unit_131 : decode cX6_unit 131 = .ok (.ireturn, 1) := by decide +kernel
set_option maxRecDepth 20000 in
theorem ggX6_well_X6_unitAt : GoodIn wsX6_well wsX6_unitAt := goodIn_r _ [14, 15, 27, 28, 29, 30, 31, 32, 33, 34, 35, 36, 37, 38, 39, 40, 41, 42, 43, 44, 45, 46] (by decide +kernel) (by decide +kernel)
set_option maxRecDepth 20000 in
theorem gX6_well_X6_unitAt : GoodIn wsX6_well (wsV RX6 183 RX6 yX6_unitAt wsX6_unitAt) := goodIn_app (goodIn_of _ (by decide +kernel)) ggX6_well_X6_unitAt
set_option maxRecDepth 20000 in
theorem ggX6_well_X5_init : GoodIn wsX6_well wsX5_init := goodIn_r _ [18, 19, 20, 21, 22, 23, 24, 25, 26, 47, 48, 49, 50] (by decide +kernel) (by decide +kernel)
set_option maxRecDepth 20000 in
theorem gX6_well_X5_init : GoodIn wsX6_well (wsX5_init) := ggX6_well_X5_init
theorem dX6_well_0 : decode cX6_well 0 = .ok (.aload_n 0, 1) := by decide +kernel
theorem dX6_well_1 : decode cX6_well 1 = .ok (.iload_n 1, 1) := by decide +kernel
theorem dX6_well_2 : decode cX6_well 2 = .ok (.invokevirtual 183, 3) := by decide +kernel
theorem dX6_well_5 : decode cX6_well 5 = .ok (.astore_n 2, 1) := by decide +kernel
theorem dX6_well_6 : decode cX6_well 6 = .ok (.aload_n 2, 1) := by decide +kernel
theorem dX6_well_7 : decode cX6_well 7 = .ok (.ifnonnull 13, 3) := by decide +kernel
theorem dX6_well_10 : decode cX6_well 10 = .ok (.new 109, 3) := by decide +kernel
theorem dX6_well_13 : decode cX6_well 13 = .ok (.dup, 1) := by decide +kernel
theorem dX6_well_14 : decode cX6_well 14 = .ok (.ldc 187, 2) := by decide +kernel
theorem dX6_well_16 : decode cX6_well 16 = .ok (.invokespecial 113, 3) := by decide +kernel
theorem dX6_well_19 : decode cX6_well 19 = .ok (.athrow, 1) := by decide +kernel
theorem dX6_well_20 : decode cX6_well 20 = .ok (.aload_n 0, 1) := by decide +kernel
theorem dX6_well_21 : decode cX6_well 21 = .ok (.getfield 55, 3) := by decide +kernel
theorem dX6_well_24 : decode cX6_well 24 = .ok (.bipush 6, 2) := by decide +kernel
theorem dX6_well_26 : decode cX6_well 26 = .ok (.if_icmp .lt 13, 3) := by decide +kernel
theorem dX6_well_29 : decode cX6_well 29 = .ok (.new 100, 3) := by decide +kernel
theorem dX6_well_32 : decode cX6_well 32 = .ok (.dup, 1) := by decide +kernel
theorem dX6_well_33 : decode cX6_well 33 = .ok (.ldc 189, 2) := by decide +kernel
theorem dX6_well_35 : decode cX6_well 35 = .ok (.invokespecial 104, 3) := by decide +kernel
theorem dX6_well_38 : decode cX6_well 38 = .ok (.athrow, 1) := by decide +kernel
theorem dX6_well_39 : decode cX6_well 39 = .ok (.aload_n 0, 1) := by decide +kernel
theorem dX6_well_40 : decode cX6_well 40 = .ok (.getfield 51, 3) := by decide +kernel
theorem dX6_well_43 : decode cX6_well 43 = .ok (.aload_n 0, 1) := by decide +kernel
theorem dX6_well_44 : decode cX6_well 44 = .ok (.getfield 55, 3) := by decide +kernel
theorem dX6_well_47 : decode cX6_well 47 = .ok (.new 49, 3) := by decide +kernel
theorem dX6_well_50 : decode cX6_well 50 = .ok (.dup, 1) := by decide +kernel
theorem dX6_well_51 : decode cX6_well 51 = .ok (.aload_n 2, 1) := by decide +kernel
theorem dX6_well_52 : decode cX6_well 52 = .ok (.invokespecial 191, 3) := by decide +kernel
theorem dX6_well_55 : decode cX6_well 55 = .ok (.aastore, 1) := by decide +kernel
theorem dX6_well_56 : decode cX6_well 56 = .ok (.aload_n 0, 1) := by decide +kernel
theorem dX6_well_57 : decode cX6_well 57 = .ok (.dup, 1) := by decide +kernel
theorem dX6_well_58 : decode cX6_well 58 = .ok (.getfield 55, 3) := by decide +kernel
theorem dX6_well_61 : decode cX6_well 61 = .ok (.dup_x1, 1) := by decide +kernel
theorem dX6_well_62 : decode cX6_well 62 = .ok (.iconst 1, 1) := by decide +kernel
theorem dX6_well_63 : decode cX6_well 63 = .ok (.iadd, 1) := by decide +kernel
theorem dX6_well_64 : decode cX6_well 64 = .ok (.putfield 55, 3) := by decide +kernel
theorem dX6_well_67 : decode cX6_well 67 = .ok (.ireturn, 1) := by decide +kernel
set_option maxRecDepth 20000 in
theorem ggX6_oil_X6_wellAt : GoodIn wsX6_oil wsX6_wellAt := goodIn_r _ [14, 15, 51, 52, 53, 54, 55, 56, 57, 58, 59, 60, 61, 62, 63, 64, 65, 66, 67, 68, 69, 70] (by decide +kernel) (by decide +kernel)
set_option maxRecDepth 20000 in
theorem gX6_oil_X6_wellAt : GoodIn wsX6_oil (wsV RX6 194 RX6 yX6_wellAt wsX6_wellAt) := goodIn_app (goodIn_of _ (by decide +kernel)) ggX6_oil_X6_wellAt
set_option maxRecDepth 20000 in
theorem ggX6_oil_X6_isMonth : GoodIn wsX6_oil wsX6_isMonth := goodIn_r _ [19, 20, 51, 52, 53, 54, 55, 56, 57, 58, 59, 60, 61, 62, 63, 64, 65, 66, 67, 68, 69, 70] (by decide +kernel) (by decide +kernel)
set_option maxRecDepth 20000 in
theorem gX6_oil_X6_isMonth : GoodIn wsX6_oil (wsV RX6 125 RX6 yX6_isMonth wsX6_isMonth) := goodIn_app (goodIn_of _ (by decide +kernel)) ggX6_oil_X6_isMonth
set_option maxRecDepth 20000 in
theorem ggX6_oil_X5_tellOil : GoodIn wsX6_oil wsX5_tellOil := goodIn_r _ [25, 26, 27, 28, 29, 30, 40, 41, 42, 43, 44, 45, 46, 47, 48, 49, 50] (by decide +kernel) (by decide +kernel)
set_option maxRecDepth 20000 in
theorem gX6_oil_X5_tellOil : GoodIn wsX6_oil (wsV RX6 209 RX5 yX5_tellOil wsX5_tellOil) := goodIn_app (goodIn_of _ (by decide +kernel)) ggX6_oil_X5_tellOil
set_option maxRecDepth 20000 in
theorem ggX6_oil_X6_unsettle : GoodIn wsX6_oil wsX6_unsettle := goodIn_r _ [34, 35, 36, 37, 38, 39, 51, 52, 53, 54, 55, 56, 57, 58, 59, 60, 61, 62, 63, 64, 65, 66, 67, 68, 69, 70] (by decide +kernel) (by decide +kernel)
set_option maxRecDepth 20000 in
theorem gX6_oil_X6_unsettle : GoodIn wsX6_oil (wsV RX6 141 RX6 yX6_unsettle wsX6_unsettle) := goodIn_app (goodIn_of _ (by decide +kernel)) ggX6_oil_X6_unsettle
theorem dX6_oil_0 : decode cX6_oil 0 = .ok (.aload_n 0, 1) := by decide +kernel
theorem dX6_oil_1 : decode cX6_oil 1 = .ok (.iload_n 1, 1) := by decide +kernel
theorem dX6_oil_2 : decode cX6_oil 2 = .ok (.invokevirtual 194, 3) := by decide +kernel
theorem dX6_oil_5 : decode cX6_oil 5 = .ok (.astore 5, 2) := by decide +kernel
theorem dX6_oil_7 : decode cX6_oil 7 = .ok (.aload 5, 2) := by decide +kernel
theorem dX6_oil_9 : decode cX6_oil 9 = .ok (.ifnull 11, 3) := by decide +kernel
theorem dX6_oil_12 : decode cX6_oil 12 = .ok (.aload_n 0, 1) := by decide +kernel
theorem dX6_oil_13 : decode cX6_oil 13 = .ok (.iload_n 2, 1) := by decide +kernel
theorem dX6_oil_14 : decode cX6_oil 14 = .ok (.invokevirtual 125, 3) := by decide +kernel
theorem dX6_oil_17 : decode cX6_oil 17 = .ok (.ifCond .ne 13, 3) := by decide +kernel
theorem dX6_oil_20 : decode cX6_oil 20 = .ok (.new 109, 3) := by decide +kernel
theorem dX6_oil_23 : decode cX6_oil 23 = .ok (.dup, 1) := by decide +kernel
theorem dX6_oil_24 : decode cX6_oil 24 = .ok (.ldc 198, 2) := by decide +kernel
theorem dX6_oil_26 : decode cX6_oil 26 = .ok (.invokespecial 113, 3) := by decide +kernel
theorem dX6_oil_29 : decode cX6_oil 29 = .ok (.athrow, 1) := by decide +kernel
theorem dX6_oil_30 : decode cX6_oil 30 = .ok (.iload_n 3, 1) := by decide +kernel
theorem dX6_oil_31 : decode cX6_oil 31 = .ok (.ifCond .lt 23, 3) := by decide +kernel
theorem dX6_oil_34 : decode cX6_oil 34 = .ok (.iload_n 3, 1) := by decide +kernel
theorem dX6_oil_35 : decode cX6_oil 35 = .ok (.sipush 1000, 3) := by decide +kernel
theorem dX6_oil_38 : decode cX6_oil 38 = .ok (.if_icmp .gt 16, 3) := by decide +kernel
theorem dX6_oil_41 : decode cX6_oil 41 = .ok (.iload 4, 2) := by decide +kernel
theorem dX6_oil_43 : decode cX6_oil 43 = .ok (.ifCond .lt 11, 3) := by decide +kernel
theorem dX6_oil_46 : decode cX6_oil 46 = .ok (.iload 4, 2) := by decide +kernel
theorem dX6_oil_48 : decode cX6_oil 48 = .ok (.sipush 10000, 3) := by decide +kernel
theorem dX6_oil_51 : decode cX6_oil 51 = .ok (.if_icmp .le 13, 3) := by decide +kernel
theorem dX6_oil_54 : decode cX6_oil 54 = .ok (.new 93, 3) := by decide +kernel
theorem dX6_oil_57 : decode cX6_oil 57 = .ok (.dup, 1) := by decide +kernel
theorem dX6_oil_58 : decode cX6_oil 58 = .ok (.ldc 200, 2) := by decide +kernel
theorem dX6_oil_60 : decode cX6_oil 60 = .ok (.invokespecial 97, 3) := by decide +kernel
theorem dX6_oil_63 : decode cX6_oil 63 = .ok (.athrow, 1) := by decide +kernel
theorem dX6_oil_64 : decode cX6_oil 64 = .ok (.iload_n 2, 1) := by decide +kernel
theorem dX6_oil_65 : decode cX6_oil 65 = .ok (.aload 5, 2) := by decide +kernel
theorem dX6_oil_67 : decode cX6_oil 67 = .ok (.getfield 202, 3) := by decide +kernel
theorem dX6_oil_70 : decode cX6_oil 70 = .ok (.getfield 203, 3) := by decide +kernel
theorem dX6_oil_73 : decode cX6_oil 73 = .ok (.if_icmp .ge 13, 3) := by decide +kernel
theorem dX6_oil_76 : decode cX6_oil 76 = .ok (.new 100, 3) := by decide +kernel
theorem dX6_oil_79 : decode cX6_oil 79 = .ok (.dup, 1) := by decide +kernel
theorem dX6_oil_80 : decode cX6_oil 80 = .ok (.ldc 204, 2) := by decide +kernel
theorem dX6_oil_82 : decode cX6_oil 82 = .ok (.invokespecial 104, 3) := by decide +kernel
theorem dX6_oil_85 : decode cX6_oil 85 = .ok (.athrow, 1) := by decide +kernel
theorem dX6_oil_86 : decode cX6_oil 86 = .ok (.aload 5, 2) := by decide +kernel
theorem dX6_oil_88 : decode cX6_oil 88 = .ok (.getfield 206, 3) := by decide +kernel
theorem dX6_oil_91 : decode cX6_oil 91 = .ok (.iload_n 2, 1) := by decide +kernel
theorem dX6_oil_92 : decode cX6_oil 92 = .ok (.iaload, 1) := by decide +kernel
theorem dX6_oil_93 : decode cX6_oil 93 = .ok (.istore 6, 2) := by decide +kernel
theorem dX6_oil_95 : decode cX6_oil 95 = .ok (.aload 5, 2) := by decide +kernel
theorem dX6_oil_97 : decode cX6_oil 97 = .ok (.iload_n 2, 1) := by decide +kernel
theorem dX6_oil_98 : decode cX6_oil 98 = .ok (.iload_n 3, 1) := by decide +kernel
theorem dX6_oil_99 : decode cX6_oil 99 = .ok (.iload 4, 2) := by decide +kernel
theorem dX6_oil_101 : decode cX6_oil 101 = .ok (.invokevirtual 209, 3) := by decide +kernel
theorem dX6_oil_104 : decode cX6_oil 104 = .ok (.aload_n 0, 1) := by decide +kernel
theorem dX6_oil_105 : decode cX6_oil 105 = .ok (.iload_n 2, 1) := by decide +kernel
theorem dX6_oil_106 : decode cX6_oil 106 = .ok (.invokevirtual 141, 3) := by decide +kernel
theorem dX6_oil_109 : decode cX6_oil 109 = .ok (.iload 6, 2) := by decide +kernel
theorem dX6_oil_111 : decode cX6_oil 111 = .ok (.ireturn, 1) := by decide +kernel
set_option maxRecDepth 20000 in
theorem ggX6_cost_X6_wellAt : GoodIn wsX6_cost wsX6_wellAt := goodIn_r _ [17, 18, 44, 45, 46, 47, 48, 49, 50, 51, 52, 53, 54, 55, 56, 57, 58, 59, 60, 61, 62, 63] (by decide +kernel) (by decide +kernel)
set_option maxRecDepth 20000 in
theorem gX6_cost_X6_wellAt : GoodIn wsX6_cost (wsV RX6 194 RX6 yX6_wellAt wsX6_wellAt) := goodIn_app (goodIn_of _ (by decide +kernel)) ggX6_cost_X6_wellAt
set_option maxRecDepth 20000 in
theorem ggX6_cost_X6_isMonth : GoodIn wsX6_cost wsX6_isMonth := goodIn_r _ [22, 23, 44, 45, 46, 47, 48, 49, 50, 51, 52, 53, 54, 55, 56, 57, 58, 59, 60, 61, 62, 63] (by decide +kernel) (by decide +kernel)
set_option maxRecDepth 20000 in
theorem gX6_cost_X6_isMonth : GoodIn wsX6_cost (wsV RX6 125 RX6 yX6_isMonth wsX6_isMonth) := goodIn_app (goodIn_of _ (by decide +kernel)) ggX6_cost_X6_isMonth
set_option maxRecDepth 20000 in
theorem ggX6_cost_X6_unsettle : GoodIn wsX6_cost wsX6_unsettle := goodIn_r _ [27, 28, 29, 30, 31, 32, 44, 45, 46, 47, 48, 49, 50, 51, 52, 53, 54, 55, 56, 57, 58, 59, 60, 61, 62, 63] (by decide +kernel) (by decide +kernel)
set_option maxRecDepth 20000 in
theorem gX6_cost_X6_unsettle : GoodIn wsX6_cost (wsV RX6 141 RX6 yX6_unsettle wsX6_unsettle) := goodIn_app (goodIn_of _ (by decide +kernel)) ggX6_cost_X6_unsettle
theorem dX6_cost_0 : decode cX6_cost 0 = .ok (.aload_n 0, 1) := by decide +kernel
theorem dX6_cost_1 : decode cX6_cost 1 = .ok (.iload_n 1, 1) := by decide +kernel
theorem dX6_cost_2 : decode cX6_cost 2 = .ok (.invokevirtual 194, 3) := by decide +kernel
theorem dX6_cost_5 : decode cX6_cost 5 = .ok (.astore 4, 2) := by decide +kernel
theorem dX6_cost_7 : decode cX6_cost 7 = .ok (.aload 4, 2) := by decide +kernel
theorem dX6_cost_9 : decode cX6_cost 9 = .ok (.ifnull 11, 3) := by decide +kernel
theorem dX6_cost_12 : decode cX6_cost 12 = .ok (.aload_n 0, 1) := by decide +kernel
theorem dX6_cost_13 : decode cX6_cost 13 = .ok (.iload_n 2, 1) := by decide +kernel
theorem dX6_cost_14 : decode cX6_cost 14 = .ok (.invokevirtual 125, 3) := by decide +kernel
theorem dX6_cost_17 : decode cX6_cost 17 = .ok (.ifCond .ne 13, 3) := by decide +kernel
theorem dX6_cost_20 : decode cX6_cost 20 = .ok (.new 109, 3) := by decide +kernel
theorem dX6_cost_23 : decode cX6_cost 23 = .ok (.dup, 1) := by decide +kernel
theorem dX6_cost_24 : decode cX6_cost 24 = .ok (.ldc 198, 2) := by decide +kernel
theorem dX6_cost_26 : decode cX6_cost 26 = .ok (.invokespecial 113, 3) := by decide +kernel
theorem dX6_cost_29 : decode cX6_cost 29 = .ok (.athrow, 1) := by decide +kernel
theorem dX6_cost_30 : decode cX6_cost 30 = .ok (.iload_n 3, 1) := by decide +kernel
theorem dX6_cost_31 : decode cX6_cost 31 = .ok (.iconst 1, 1) := by decide +kernel
theorem dX6_cost_32 : decode cX6_cost 32 = .ok (.if_icmp .lt 9, 3) := by decide +kernel
theorem dX6_cost_35 : decode cX6_cost 35 = .ok (.iload_n 3, 1) := by decide +kernel
theorem dX6_cost_36 : decode cX6_cost 36 = .ok (.ldc 213, 2) := by decide +kernel
theorem dX6_cost_38 : decode cX6_cost 38 = .ok (.if_icmp .le 13, 3) := by decide +kernel
theorem dX6_cost_41 : decode cX6_cost 41 = .ok (.new 93, 3) := by decide +kernel
theorem dX6_cost_44 : decode cX6_cost 44 = .ok (.dup, 1) := by decide +kernel
theorem dX6_cost_45 : decode cX6_cost 45 = .ok (.ldc 214, 2) := by decide +kernel
theorem dX6_cost_47 : decode cX6_cost 47 = .ok (.invokespecial 97, 3) := by decide +kernel
theorem dX6_cost_50 : decode cX6_cost 50 = .ok (.athrow, 1) := by decide +kernel
theorem dX6_cost_51 : decode cX6_cost 51 = .ok (.iload_n 2, 1) := by decide +kernel
theorem dX6_cost_52 : decode cX6_cost 52 = .ok (.aload 4, 2) := by decide +kernel
theorem dX6_cost_54 : decode cX6_cost 54 = .ok (.getfield 202, 3) := by decide +kernel
theorem dX6_cost_57 : decode cX6_cost 57 = .ok (.getfield 203, 3) := by decide +kernel
theorem dX6_cost_60 : decode cX6_cost 60 = .ok (.if_icmp .lt 17, 3) := by decide +kernel
theorem dX6_cost_63 : decode cX6_cost 63 = .ok (.aload 4, 2) := by decide +kernel
theorem dX6_cost_65 : decode cX6_cost 65 = .ok (.getfield 216, 3) := by decide +kernel
theorem dX6_cost_68 : decode cX6_cost 68 = .ok (.iload_n 2, 1) := by decide +kernel
theorem dX6_cost_69 : decode cX6_cost 69 = .ok (.iaload, 1) := by decide +kernel
theorem dX6_cost_70 : decode cX6_cost 70 = .ok (.iload_n 3, 1) := by decide +kernel
theorem dX6_cost_71 : decode cX6_cost 71 = .ok (.iadd, 1) := by decide +kernel
theorem dX6_cost_72 : decode cX6_cost 72 = .ok (.ldc 219, 2) := by decide +kernel
theorem dX6_cost_74 : decode cX6_cost 74 = .ok (.if_icmp .le 13, 3) := by decide +kernel
theorem dX6_cost_77 : decode cX6_cost 77 = .ok (.new 100, 3) := by decide +kernel
theorem dX6_cost_80 : decode cX6_cost 80 = .ok (.dup, 1) := by decide +kernel
theorem dX6_cost_81 : decode cX6_cost 81 = .ok (.ldc 220, 2) := by decide +kernel
theorem dX6_cost_83 : decode cX6_cost 83 = .ok (.invokespecial 104, 3) := by decide +kernel
theorem dX6_cost_86 : decode cX6_cost 86 = .ok (.athrow, 1) := by decide +kernel
theorem dX6_cost_87 : decode cX6_cost 87 = .ok (.aload 4, 2) := by decide +kernel
theorem dX6_cost_89 : decode cX6_cost 89 = .ok (.getfield 216, 3) := by decide +kernel
theorem dX6_cost_92 : decode cX6_cost 92 = .ok (.iload_n 2, 1) := by decide +kernel
theorem dX6_cost_93 : decode cX6_cost 93 = .ok (.dup2, 1) := by decide +kernel
theorem dX6_cost_94 : decode cX6_cost 94 = .ok (.iaload, 1) := by decide +kernel
theorem dX6_cost_95 : decode cX6_cost 95 = .ok (.iload_n 3, 1) := by decide +kernel
theorem dX6_cost_96 : decode cX6_cost 96 = .ok (.iadd, 1) := by decide +kernel
theorem dX6_cost_97 : decode cX6_cost 97 = .ok (.iastore, 1) := by decide +kernel
theorem dX6_cost_98 : decode cX6_cost 98 = .ok (.aload 4, 2) := by decide +kernel
theorem dX6_cost_100 : decode cX6_cost 100 = .ok (.getfield 202, 3) := by decide +kernel
theorem dX6_cost_103 : decode cX6_cost 103 = .ok (.getfield 222, 3) := by decide +kernel
theorem dX6_cost_106 : decode cX6_cost 106 = .ok (.iload_n 2, 1) := by decide +kernel
theorem dX6_cost_107 : decode cX6_cost 107 = .ok (.dup2, 1) := by decide +kernel
theorem dX6_cost_108 : decode cX6_cost 108 = .ok (.iaload, 1) := by decide +kernel
theorem dX6_cost_109 : decode cX6_cost 109 = .ok (.iload_n 3, 1) := by decide +kernel
theorem dX6_cost_110 : decode cX6_cost 110 = .ok (.iadd, 1) := by decide +kernel
theorem dX6_cost_111 : decode cX6_cost 111 = .ok (.iastore, 1) := by decide +kernel
theorem dX6_cost_112 : decode cX6_cost 112 = .ok (.aload_n 0, 1) := by decide +kernel
theorem dX6_cost_113 : decode cX6_cost 113 = .ok (.iload_n 2, 1) := by decide +kernel
theorem dX6_cost_114 : decode cX6_cost 114 = .ok (.invokevirtual 141, 3) := by decide +kernel
theorem dX6_cost_117 : decode cX6_cost 117 = .ok (.aload 4, 2) := by decide +kernel
theorem dX6_cost_119 : decode cX6_cost 119 = .ok (.getfield 216, 3) := by decide +kernel
theorem dX6_cost_122 : decode cX6_cost 122 = .ok (.iload_n 2, 1) := by decide +kernel
theorem dX6_cost_123 : decode cX6_cost 123 = .ok (.iaload, 1) := by decide +kernel
theorem dX6_cost_124 : decode cX6_cost 124 = .ok (.ireturn, 1) := by decide +kernel
set_option maxRecDepth 20000 in
theorem ggX6_tax_X6_isMonth : GoodIn wsX6_tax wsX6_isMonth := goodIn_r _ [10, 11, 25, 26, 27, 28, 29, 30, 31, 32, 33, 34, 35, 36, 37, 38, 39, 40, 41, 42, 43, 44] (by decide +kernel) (by decide +kernel)
set_option maxRecDepth 20000 in
theorem gX6_tax_X6_isMonth : GoodIn wsX6_tax (wsV RX6 125 RX6 yX6_isMonth wsX6_isMonth) := goodIn_app (goodIn_of _ (by decide +kernel)) ggX6_tax_X6_isMonth
set_option maxRecDepth 20000 in
theorem ggX6_tax_X6_taxIn : GoodIn wsX6_tax wsX6_taxIn := goodIn_r _ [15, 5, 25, 26, 27, 28, 29, 30, 31, 32, 33, 34, 35, 36, 37, 38, 39, 40, 41, 42, 43, 44] (by decide +kernel) (by decide +kernel)
set_option maxRecDepth 20000 in
theorem gX6_tax_X6_taxIn : GoodIn wsX6_tax (wsV RX6 227 RX6 yX6_taxIn wsX6_taxIn) := goodIn_app (goodIn_of _ (by decide +kernel)) ggX6_tax_X6_taxIn
set_option maxRecDepth 20000 in
theorem ggX6_tax_X6_unsettle : GoodIn wsX6_tax wsX6_unsettle := goodIn_r _ [19, 20, 21, 22, 23, 24, 25, 26, 27, 28, 29, 30, 31, 32, 33, 34, 35, 36, 37, 38, 39, 40, 41, 42, 43, 44] (by decide +kernel) (by decide +kernel)
set_option maxRecDepth 20000 in
theorem gX6_tax_X6_unsettle : GoodIn wsX6_tax (wsV RX6 141 RX6 yX6_unsettle wsX6_unsettle) := goodIn_app (goodIn_of _ (by decide +kernel)) ggX6_tax_X6_unsettle
theorem dX6_tax_0 : decode cX6_tax 0 = .ok (.aload_n 0, 1) := by decide +kernel
theorem dX6_tax_1 : decode cX6_tax 1 = .ok (.iload_n 2, 1) := by decide +kernel
theorem dX6_tax_2 : decode cX6_tax 2 = .ok (.invokevirtual 125, 3) := by decide +kernel
theorem dX6_tax_5 : decode cX6_tax 5 = .ok (.ifCond .ne 13, 3) := by decide +kernel
theorem dX6_tax_8 : decode cX6_tax 8 = .ok (.new 109, 3) := by decide +kernel
theorem dX6_tax_11 : decode cX6_tax 11 = .ok (.dup, 1) := by decide +kernel
theorem dX6_tax_12 : decode cX6_tax 12 = .ok (.ldc 223, 2) := by decide +kernel
theorem dX6_tax_14 : decode cX6_tax 14 = .ok (.invokespecial 113, 3) := by decide +kernel
theorem dX6_tax_17 : decode cX6_tax 17 = .ok (.athrow, 1) := by decide +kernel
theorem dX6_tax_18 : decode cX6_tax 18 = .ok (.iload_n 1, 1) := by decide +kernel
theorem dX6_tax_19 : decode cX6_tax 19 = .ok (.ifCond .lt 9, 3) := by decide +kernel
theorem dX6_tax_22 : decode cX6_tax 22 = .ok (.iload_n 1, 1) := by decide +kernel
theorem dX6_tax_23 : decode cX6_tax 23 = .ok (.bipush 50, 2) := by decide +kernel
theorem dX6_tax_25 : decode cX6_tax 25 = .ok (.if_icmp .le 13, 3) := by decide +kernel
theorem dX6_tax_28 : decode cX6_tax 28 = .ok (.new 93, 3) := by decide +kernel
theorem dX6_tax_31 : decode cX6_tax 31 = .ok (.dup, 1) := by decide +kernel
theorem dX6_tax_32 : decode cX6_tax 32 = .ok (.ldc 225, 2) := by decide +kernel
theorem dX6_tax_34 : decode cX6_tax 34 = .ok (.invokespecial 97, 3) := by decide +kernel
theorem dX6_tax_37 : decode cX6_tax 37 = .ok (.athrow, 1) := by decide +kernel
theorem dX6_tax_38 : decode cX6_tax 38 = .ok (.aload_n 0, 1) := by decide +kernel
theorem dX6_tax_39 : decode cX6_tax 39 = .ok (.iload_n 2, 1) := by decide +kernel
theorem dX6_tax_40 : decode cX6_tax 40 = .ok (.invokevirtual 227, 3) := by decide +kernel
theorem dX6_tax_43 : decode cX6_tax 43 = .ok (.istore_n 3, 1) := by decide +kernel
theorem dX6_tax_44 : decode cX6_tax 44 = .ok (.aload_n 0, 1) := by decide +kernel
theorem dX6_tax_45 : decode cX6_tax 45 = .ok (.getfield 58, 3) := by decide +kernel
theorem dX6_tax_48 : decode cX6_tax 48 = .ok (.iload_n 2, 1) := by decide +kernel
theorem dX6_tax_49 : decode cX6_tax 49 = .ok (.iload_n 1, 1) := by decide +kernel
theorem dX6_tax_50 : decode cX6_tax 50 = .ok (.iastore, 1) := by decide +kernel
theorem dX6_tax_51 : decode cX6_tax 51 = .ok (.aload_n 0, 1) := by decide +kernel
theorem dX6_tax_52 : decode cX6_tax 52 = .ok (.iload_n 2, 1) := by decide +kernel
theorem dX6_tax_53 : decode cX6_tax 53 = .ok (.invokevirtual 141, 3) := by decide +kernel
theorem dX6_tax_56 : decode cX6_tax 56 = .ok (.iload_n 3, 1) := by decide +kernel
theorem dX6_tax_57 : decode cX6_tax 57 = .ok (.ireturn, 1) := by decide +kernel
set_option maxRecDepth 20000 in
theorem ggX6_consent_X6_unitAt : GoodIn wsX6_consent wsX6_unitAt := goodIn_r _ [9, 10, 36, 37, 38, 39, 40, 41, 42, 43, 44, 45, 46, 47, 48, 49, 50, 51, 52, 53, 54, 55] (by decide +kernel) (by decide +kernel)
set_option maxRecDepth 20000 in
theorem gX6_consent_X6_unitAt : GoodIn wsX6_consent (wsV RX6 183 RX6 yX6_unitAt wsX6_unitAt) := goodIn_app (goodIn_of _ (by decide +kernel)) ggX6_consent_X6_unitAt
set_option maxRecDepth 20000 in
theorem ggX6_consent_X6_isOwner : GoodIn wsX6_consent wsX6_isOwner := goodIn_r _ [13] (by decide +kernel) (by decide +kernel)
set_option maxRecDepth 20000 in
theorem gX6_consent_X6_isOwner : GoodIn wsX6_consent (va_wsS RX6 105 yX6_isOwner wsX6_isOwner) := goodIn_app (goodIn_of _ (by decide +kernel)) ggX6_consent_X6_isOwner
set_option maxRecDepth 20000 in
theorem ggX6_consent_X6_hasBit : GoodIn wsX6_consent wsX6_hasBit := goodIn_r _ [16] (by decide +kernel) (by decide +kernel)
set_option maxRecDepth 20000 in
theorem gX6_consent_X6_hasBit : GoodIn wsX6_consent (va_wsS RX6 175 yX6_hasBit wsX6_hasBit) := goodIn_app (goodIn_of _ (by decide +kernel)) ggX6_consent_X6_hasBit
set_option maxRecDepth 20000 in
theorem ggX6_consent_X6_withBit : GoodIn wsX6_consent wsX6_withBit := goodIn_r _ [19] (by decide +kernel) (by decide +kernel)
set_option maxRecDepth 20000 in
theorem gX6_consent_X6_withBit : GoodIn wsX6_consent (va_wsS RX6 236 yX6_withBit wsX6_withBit) := goodIn_app (goodIn_of _ (by decide +kernel)) ggX6_consent_X6_withBit
set_option maxRecDepth 20000 in
theorem ggX6_consent_X6_unsettle : GoodIn wsX6_consent wsX6_unsettle := goodIn_r _ [23, 24, 25, 26, 27, 28, 36, 37, 38, 39, 40, 41, 42, 43, 44, 45, 46, 47, 48, 49, 50, 51, 52, 53, 54, 55] (by decide +kernel) (by decide +kernel)
set_option maxRecDepth 20000 in
theorem gX6_consent_X6_unsettle : GoodIn wsX6_consent (wsV RX6 141 RX6 yX6_unsettle wsX6_unsettle) := goodIn_app (goodIn_of _ (by decide +kernel)) ggX6_consent_X6_unsettle
theorem dX6_consent_0 : decode cX6_consent 0 = .ok (.aload_n 0, 1) := by decide +kernel
theorem dX6_consent_1 : decode cX6_consent 1 = .ok (.iload_n 1, 1) := by decide +kernel
theorem dX6_consent_2 : decode cX6_consent 2 = .ok (.invokevirtual 183, 3) := by decide +kernel
theorem dX6_consent_5 : decode cX6_consent 5 = .ok (.astore 4, 2) := by decide +kernel
theorem dX6_consent_7 : decode cX6_consent 7 = .ok (.aload 4, 2) := by decide +kernel
theorem dX6_consent_9 : decode cX6_consent 9 = .ok (.ifnull 10, 3) := by decide +kernel
theorem dX6_consent_12 : decode cX6_consent 12 = .ok (.iload_n 2, 1) := by decide +kernel
theorem dX6_consent_13 : decode cX6_consent 13 = .ok (.invokestatic 105, 3) := by decide +kernel
theorem dX6_consent_16 : decode cX6_consent 16 = .ok (.ifCond .ne 13, 3) := by decide +kernel
theorem dX6_consent_19 : decode cX6_consent 19 = .ok (.new 109, 3) := by decide +kernel
theorem dX6_consent_22 : decode cX6_consent 22 = .ok (.dup, 1) := by decide +kernel
theorem dX6_consent_23 : decode cX6_consent 23 = .ok (.ldc 231, 2) := by decide +kernel
theorem dX6_consent_25 : decode cX6_consent 25 = .ok (.invokespecial 113, 3) := by decide +kernel
theorem dX6_consent_28 : decode cX6_consent 28 = .ok (.athrow, 1) := by decide +kernel
theorem dX6_consent_29 : decode cX6_consent 29 = .ok (.aload 4, 2) := by decide +kernel
theorem dX6_consent_31 : decode cX6_consent 31 = .ok (.getfield 233, 3) := by decide +kernel
theorem dX6_consent_34 : decode cX6_consent 34 = .ok (.aload_n 0, 1) := by decide +kernel
theorem dX6_consent_35 : decode cX6_consent 35 = .ok (.getfield 9, 3) := by decide +kernel
theorem dX6_consent_38 : decode cX6_consent 38 = .ok (.iaload, 1) := by decide +kernel
theorem dX6_consent_39 : decode cX6_consent 39 = .ok (.iload_n 2, 1) := by decide +kernel
theorem dX6_consent_40 : decode cX6_consent 40 = .ok (.invokestatic 175, 3) := by decide +kernel
theorem dX6_consent_43 : decode cX6_consent 43 = .ok (.ifCond .ne 7, 3) := by decide +kernel
theorem dX6_consent_46 : decode cX6_consent 46 = .ok (.iconst 1, 1) := by decide +kernel
theorem dX6_consent_47 : decode cX6_consent 47 = .ok (.goto 4, 3) := by decide +kernel
theorem dX6_consent_50 : decode cX6_consent 50 = .ok (.iconst 0, 1) := by decide +kernel
theorem dX6_consent_51 : decode cX6_consent 51 = .ok (.istore 5, 2) := by decide +kernel
theorem dX6_consent_53 : decode cX6_consent 53 = .ok (.aload_n 0, 1) := by decide +kernel
theorem dX6_consent_54 : decode cX6_consent 54 = .ok (.getfield 9, 3) := by decide +kernel
theorem dX6_consent_57 : decode cX6_consent 57 = .ok (.istore 6, 2) := by decide +kernel
theorem dX6_consent_59 : decode cX6_consent 59 = .ok (.iload 6, 2) := by decide +kernel
theorem dX6_consent_61 : decode cX6_consent 61 = .ok (.bipush 61, 2) := by decide +kernel
theorem dX6_consent_63 : decode cX6_consent 63 = .ok (.if_icmp .ge 38, 3) := by decide +kernel
theorem dX6_consent_66 : decode cX6_consent 66 = .ok (.aload 4, 2) := by decide +kernel
theorem dX6_consent_68 : decode cX6_consent 68 = .ok (.getfield 233, 3) := by decide +kernel
theorem dX6_consent_71 : decode cX6_consent 71 = .ok (.iload 6, 2) := by decide +kernel
theorem dX6_consent_73 : decode cX6_consent 73 = .ok (.aload 4, 2) := by decide +kernel
theorem dX6_consent_75 : decode cX6_consent 75 = .ok (.getfield 233, 3) := by decide +kernel
theorem dX6_consent_78 : decode cX6_consent 78 = .ok (.iload 6, 2) := by decide +kernel
theorem dX6_consent_80 : decode cX6_consent 80 = .ok (.iaload, 1) := by decide +kernel
theorem dX6_consent_81 : decode cX6_consent 81 = .ok (.iload_n 2, 1) := by decide +kernel
theorem dX6_consent_82 : decode cX6_consent 82 = .ok (.iload_n 3, 1) := by decide +kernel
theorem dX6_consent_83 : decode cX6_consent 83 = .ok (.ifCond .ne 7, 3) := by decide +kernel
theorem dX6_consent_86 : decode cX6_consent 86 = .ok (.iconst 1, 1) := by decide +kernel
theorem dX6_consent_87 : decode cX6_consent 87 = .ok (.goto 4, 3) := by decide +kernel
theorem dX6_consent_90 : decode cX6_consent 90 = .ok (.iconst 0, 1) := by decide +kernel
theorem dX6_consent_91 : decode cX6_consent 91 = .ok (.invokestatic 236, 3) := by decide +kernel
theorem dX6_consent_94 : decode cX6_consent 94 = .ok (.iastore, 1) := by decide +kernel
theorem dX6_consent_95 : decode cX6_consent 95 = .ok (.iinc 6 1, 3) := by decide +kernel
theorem dX6_consent_98 : decode cX6_consent 98 = .ok (.goto (-39), 3) := by decide +kernel
theorem dX6_consent_101 : decode cX6_consent 101 = .ok (.aload_n 0, 1) := by decide +kernel
theorem dX6_consent_102 : decode cX6_consent 102 = .ok (.aload_n 0, 1) := by decide +kernel
theorem dX6_consent_103 : decode cX6_consent 103 = .ok (.getfield 9, 3) := by decide +kernel
theorem dX6_consent_106 : decode cX6_consent 106 = .ok (.invokevirtual 141, 3) := by decide +kernel
theorem dX6_consent_109 : decode cX6_consent 109 = .ok (.iload 5, 2) := by decide +kernel
theorem dX6_consent_111 : decode cX6_consent 111 = .ok (.ireturn, 1) := by decide +kernel
set_option maxRecDepth 20000 in
theorem ggX6_penalty_X6_unsettle : GoodIn wsX6_penalty wsX6_unsettle := goodIn_r _ [8, 9, 10, 11, 12, 13, 14, 15, 16, 17, 18, 19, 20, 21, 22, 23, 24, 25, 26, 27, 28, 29, 30, 31, 32, 33] (by decide +kernel) (by decide +kernel)
set_option maxRecDepth 20000 in
theorem gX6_penalty_X6_unsettle : GoodIn wsX6_penalty (wsV RX6 141 RX6 yX6_unsettle wsX6_unsettle) := goodIn_app (goodIn_of _ (by decide +kernel)) ggX6_penalty_X6_unsettle
theorem dX6_penalty_0 : decode cX6_penalty 0 = .ok (.iload_n 1, 1) := by decide +kernel
theorem dX6_penalty_1 : decode cX6_penalty 1 = .ok (.bipush 100, 2) := by decide +kernel
theorem dX6_penalty_3 : decode cX6_penalty 3 = .ok (.if_icmp .lt 10, 3) := by decide +kernel
theorem dX6_penalty_6 : decode cX6_penalty 6 = .ok (.iload_n 1, 1) := by decide +kernel
theorem dX6_penalty_7 : decode cX6_penalty 7 = .ok (.sipush 500, 3) := by decide +kernel
theorem dX6_penalty_10 : decode cX6_penalty 10 = .ok (.if_icmp .le 13, 3) := by decide +kernel
theorem dX6_penalty_13 : decode cX6_penalty 13 = .ok (.new 93, 3) := by decide +kernel
theorem dX6_penalty_16 : decode cX6_penalty 16 = .ok (.dup, 1) := by decide +kernel
theorem dX6_penalty_17 : decode cX6_penalty 17 = .ok (.ldc 225, 2) := by decide +kernel
theorem dX6_penalty_19 : decode cX6_penalty 19 = .ok (.invokespecial 97, 3) := by decide +kernel
theorem dX6_penalty_22 : decode cX6_penalty 22 = .ok (.athrow, 1) := by decide +kernel
theorem dX6_penalty_23 : decode cX6_penalty 23 = .ok (.aload_n 0, 1) := by decide +kernel
theorem dX6_penalty_24 : decode cX6_penalty 24 = .ok (.getfield 62, 3) := by decide +kernel
theorem dX6_penalty_27 : decode cX6_penalty 27 = .ok (.istore_n 2, 1) := by decide +kernel
theorem dX6_penalty_28 : decode cX6_penalty 28 = .ok (.aload_n 0, 1) := by decide +kernel
theorem dX6_penalty_29 : decode cX6_penalty 29 = .ok (.iload_n 1, 1) := by decide +kernel
theorem dX6_penalty_30 : decode cX6_penalty 30 = .ok (.putfield 62, 3) := by decide +kernel
theorem dX6_penalty_33 : decode cX6_penalty 33 = .ok (.aload_n 0, 1) := by decide +kernel
theorem dX6_penalty_34 : decode cX6_penalty 34 = .ok (.iconst 0, 1) := by decide +kernel
theorem dX6_penalty_35 : decode cX6_penalty 35 = .ok (.invokevirtual 141, 3) := by decide +kernel
theorem dX6_penalty_38 : decode cX6_penalty 38 = .ok (.iload_n 2, 1) := by decide +kernel
theorem dX6_penalty_39 : decode cX6_penalty 39 = .ok (.ireturn, 1) := by decide +kernel
set_option maxRecDepth 20000 in
theorem ggX6_interest_X6_unitIn : GoodIn wsX6_interest wsX6_unitIn := goodIn_r _ [10, 11, 12, 13, 14, 15, 9, 16, 17, 105, 106, 107, 108, 109, 110, 111, 82, 83, 84, 85, 86, 87, 88, 89, 90, 91, 92, 93, 94, 95, 96, 97, 98, 99, 100, 101] (by decide +kernel) (by decide +kernel)
set_option maxRecDepth 20000 in
theorem gX6_interest_X6_unitIn : GoodIn wsX6_interest (wsV RX6 240 RX6 yX6_unitIn wsX6_unitIn) := goodIn_app (goodIn_of _ (by decide +kernel)) ggX6_interest_X6_unitIn
set_option maxRecDepth 20000 in
theorem ggX6_interest_X6_isOwner : GoodIn wsX6_interest wsX6_isOwner := goodIn_r _ [20] (by decide +kernel) (by decide +kernel)
set_option maxRecDepth 20000 in
theorem gX6_interest_X6_isOwner : GoodIn wsX6_interest (va_wsS RX6 105 yX6_isOwner wsX6_isOwner) := goodIn_app (goodIn_of _ (by decide +kernel)) ggX6_interest_X6_isOwner
set_option maxRecDepth 20000 in
theorem ggX6_interest_X6_layDeck : GoodIn wsX6_interest wsX6_layDeck := goodIn_r _ [24, 3, 25, 26, 27, 28, 29, 30, 31, 32, 33, 34, 35, 9, 36, 37, 38, 39, 40, 41, 42, 43, 44, 45, 46, 47, 48, 49, 50, 51, 52, 53, 54, 55, 56, 57, 58, 59, 60, 61, 62, 63, 64, 65, 66, 67, 68, 69, 70, 82, 83, 84, 85, 86, 87, 88, 89, 90, 91, 92, 93, 94, 95, 96, 97, 98, 99, 100, 101, 112, 113, 114, 102, 103, 104, 115, 116, 117, 118, 119, 120, 121, 122, 123, 124, 125, 105, 106, 107, 108, 109, 110, 111] (by decide +kernel) (by decide +kernel)
set_option maxRecDepth 20000 in
theorem gX6_interest_X6_layDeck : GoodIn wsX6_interest (wsV RX6 246 RX6 yX6_layDeck wsX6_layDeck) := goodIn_app (goodIn_of _ (by decide +kernel)) ggX6_interest_X6_layDeck
set_option maxRecDepth 20000 in
theorem ggX6_interest_X2_partOut : GoodIn wsX6_interest wsX2_partOut := goodIn_r _ [74, 32, 75, 76, 77, 78, 79, 30, 80, 81, 102, 103, 104] (by decide +kernel) (by decide +kernel)
set_option maxRecDepth 20000 in
theorem gX6_interest_X2_partOut : GoodIn wsX6_interest (wsV RX6 252 RX2 yX2_partOut wsX2_partOut) := goodIn_app (goodIn_of _ (by decide +kernel)) ggX6_interest_X2_partOut
theorem dX6_interest_0 : decode cX6_interest 0 = .ok (.aload_n 0, 1) := by decide +kernel
theorem dX6_interest_1 : decode cX6_interest 1 = .ok (.iload_n 1, 1) := by decide +kernel
theorem dX6_interest_2 : decode cX6_interest 2 = .ok (.iload_n 2, 1) := by decide +kernel
theorem dX6_interest_3 : decode cX6_interest 3 = .ok (.invokevirtual 240, 3) := by decide +kernel
theorem dX6_interest_6 : decode cX6_interest 6 = .ok (.astore 5, 2) := by decide +kernel
theorem dX6_interest_8 : decode cX6_interest 8 = .ok (.aload 5, 2) := by decide +kernel
theorem dX6_interest_10 : decode cX6_interest 10 = .ok (.ifnull 10, 3) := by decide +kernel
theorem dX6_interest_13 : decode cX6_interest 13 = .ok (.iload_n 3, 1) := by decide +kernel
theorem dX6_interest_14 : decode cX6_interest 14 = .ok (.invokestatic 105, 3) := by decide +kernel
theorem dX6_interest_17 : decode cX6_interest 17 = .ok (.ifCond .ne 13, 3) := by decide +kernel
theorem dX6_interest_20 : decode cX6_interest 20 = .ok (.new 109, 3) := by decide +kernel
theorem dX6_interest_23 : decode cX6_interest 23 = .ok (.dup, 1) := by decide +kernel
theorem dX6_interest_24 : decode cX6_interest 24 = .ok (.ldc 244, 2) := by decide +kernel
theorem dX6_interest_26 : decode cX6_interest 26 = .ok (.invokespecial 113, 3) := by decide +kernel
theorem dX6_interest_29 : decode cX6_interest 29 = .ok (.athrow, 1) := by decide +kernel
theorem dX6_interest_30 : decode cX6_interest 30 = .ok (.aload_n 0, 1) := by decide +kernel
theorem dX6_interest_31 : decode cX6_interest 31 = .ok (.aload 5, 2) := by decide +kernel
theorem dX6_interest_33 : decode cX6_interest 33 = .ok (.iload_n 2, 1) := by decide +kernel
theorem dX6_interest_34 : decode cX6_interest 34 = .ok (.invokevirtual 246, 3) := by decide +kernel
theorem dX6_interest_37 : decode cX6_interest 37 = .ok (.aload_n 0, 1) := by decide +kernel
theorem dX6_interest_38 : decode cX6_interest 38 = .ok (.getfield 86, 3) := by decide +kernel
theorem dX6_interest_41 : decode cX6_interest 41 = .ok (.ldc2_w 250, 3) := by decide +kernel
theorem dX6_interest_44 : decode cX6_interest 44 = .ok (.invokevirtual 252, 3) := by decide +kernel
theorem dX6_interest_47 : decode cX6_interest 47 = .ok (.aload_n 0, 1) := by decide +kernel
theorem dX6_interest_48 : decode cX6_interest 48 = .ok (.getfield 86, 3) := by decide +kernel
theorem dX6_interest_51 : decode cX6_interest 51 = .ok (.getfield 256, 3) := by decide +kernel
theorem dX6_interest_54 : decode cX6_interest 54 = .ok (.iload 4, 2) := by decide +kernel
theorem dX6_interest_56 : decode cX6_interest 56 = .ok (.ifCond .eq 7, 3) := by decide +kernel
theorem dX6_interest_59 : decode cX6_interest 59 = .ok (.iload_n 3, 1) := by decide +kernel
theorem dX6_interest_60 : decode cX6_interest 60 = .ok (.goto 7, 3) := by decide +kernel
theorem dX6_interest_63 : decode cX6_interest 63 = .ok (.bipush 10, 2) := by decide +kernel
theorem dX6_interest_65 : decode cX6_interest 65 = .ok (.iload_n 3, 1) := by decide +kernel
theorem dX6_interest_66 : decode cX6_interest 66 = .ok (.iadd, 1) := by decide +kernel
theorem dX6_interest_67 : decode cX6_interest 67 = .ok (.laload, 1) := by decide +kernel
theorem dX6_interest_68 : decode cX6_interest 68 = .ok (.l2i, 1) := by decide +kernel
theorem dX6_interest_69 : decode cX6_interest 69 = .ok (.ireturn, 1) := by decide +kernel
set_option maxRecDepth 20000 in
theorem ggX6_revenue_X6_unitIn : GoodIn wsX6_revenue wsX6_unitIn := goodIn_r _ [7, 8, 9, 10, 11, 12, 6, 13, 14, 26, 27, 28, 29, 30, 31, 32, 33, 34, 35, 36, 37, 38, 39, 40, 41, 42, 43, 44, 45, 46, 47, 48, 49, 50, 51, 52] (by decide +kernel) (by decide +kernel)
set_option maxRecDepth 20000 in
theorem gX6_revenue_X6_unitIn : GoodIn wsX6_revenue (wsV RX6 240 RX6 yX6_unitIn wsX6_unitIn) := goodIn_app (goodIn_of _ (by decide +kernel)) ggX6_revenue_X6_unitIn
set_option maxRecDepth 20000 in
theorem ggX6_revenue_X6_revenueOf : GoodIn wsX6_revenue wsX6_revenueOf := goodIn_r _ [18, 19, 20, 21, 22, 23, 6, 24, 25, 26, 27, 28, 29, 30, 31, 32, 33, 34, 35, 36, 37, 38, 39, 40, 41, 42, 43, 44, 45, 46, 47, 48, 49, 50, 51, 52] (by decide +kernel) (by decide +kernel)
set_option maxRecDepth 20000 in
theorem gX6_revenue_X6_revenueOf : GoodIn wsX6_revenue (wsV RX6 261 RX6 yX6_revenueOf wsX6_revenueOf) := goodIn_app (goodIn_of _ (by decide +kernel)) ggX6_revenue_X6_revenueOf
theorem dX6_revenue_0 : decode cX6_revenue 0 = .ok (.aload_n 0, 1) := by decide +kernel
theorem dX6_revenue_1 : decode cX6_revenue 1 = .ok (.iload_n 1, 1) := by decide +kernel
theorem dX6_revenue_2 : decode cX6_revenue 2 = .ok (.iload_n 2, 1) := by decide +kernel
theorem dX6_revenue_3 : decode cX6_revenue 3 = .ok (.invokevirtual 240, 3) := by decide +kernel
theorem dX6_revenue_6 : decode cX6_revenue 6 = .ok (.astore_n 3, 1) := by decide +kernel
theorem dX6_revenue_7 : decode cX6_revenue 7 = .ok (.aload_n 3, 1) := by decide +kernel
theorem dX6_revenue_8 : decode cX6_revenue 8 = .ok (.ifnonnull 14, 3) := by decide +kernel
theorem dX6_revenue_11 : decode cX6_revenue 11 = .ok (.new 109, 3) := by decide +kernel
theorem dX6_revenue_14 : decode cX6_revenue 14 = .ok (.dup, 1) := by decide +kernel
theorem dX6_revenue_15 : decode cX6_revenue 15 = .ok (.ldc_w 259, 3) := by decide +kernel
theorem dX6_revenue_18 : decode cX6_revenue 18 = .ok (.invokespecial 113, 3) := by decide +kernel
theorem dX6_revenue_21 : decode cX6_revenue 21 = .ok (.athrow, 1) := by decide +kernel
theorem dX6_revenue_22 : decode cX6_revenue 22 = .ok (.aload_n 0, 1) := by decide +kernel
theorem dX6_revenue_23 : decode cX6_revenue 23 = .ok (.aload_n 3, 1) := by decide +kernel
theorem dX6_revenue_24 : decode cX6_revenue 24 = .ok (.iload_n 2, 1) := by decide +kernel
theorem dX6_revenue_25 : decode cX6_revenue 25 = .ok (.invokevirtual 261, 3) := by decide +kernel
theorem dX6_revenue_28 : decode cX6_revenue 28 = .ok (.l2i, 1) := by decide +kernel
theorem dX6_revenue_29 : decode cX6_revenue 29 = .ok (.ireturn, 1) := by decide +kernel
set_option maxRecDepth 20000 in
theorem ggX6_due_X6_unitIn : GoodIn wsX6_due wsX6_unitIn := goodIn_r _ [8, 9, 10, 11, 12, 13, 7, 14, 15, 141, 142, 143, 144, 145, 146, 147, 148, 149, 150, 151, 152, 153, 154, 155, 156, 157, 158, 159, 160, 161, 162, 163, 164, 165, 166, 167] (by decide +kernel) (by decide +kernel)
set_option maxRecDepth 20000 in
theorem gX6_due_X6_unitIn : GoodIn wsX6_due (wsV RX6 240 RX6 yX6_unitIn wsX6_unitIn) := goodIn_app (goodIn_of _ (by decide +kernel)) ggX6_due_X6_unitIn
set_option maxRecDepth 20000 in
theorem ggX6_due_X6_isOwner : GoodIn wsX6_due wsX6_isOwner := goodIn_r _ [18] (by decide +kernel) (by decide +kernel)
set_option maxRecDepth 20000 in
theorem gX6_due_X6_isOwner : GoodIn wsX6_due (va_wsS RX6 105 yX6_isOwner wsX6_isOwner) := goodIn_app (goodIn_of _ (by decide +kernel)) ggX6_due_X6_isOwner
end
section
set_option maxRecDepth 20000 in
theorem ggX6_due_X6_settle : GoodIn wsX6_due wsX6_settle := goodIn_r _ [22, 23, 10, 15, 9, 24, 25, 26, 7, 27, 28, 29, 30, 31, 32, 33, 34, 35, 36, 37, 38, 39, 40, 41, 42, 43, 44, 45, 46, 47, 48, 49, 50, 51, 52, 53, 54, 55, 56, 57, 58, 59, 60, 61, 62, 63, 64, 65, 66, 67, 68, 69, 70, 71, 72, 73, 74, 75, 76, 77, 78, 79, 80, 81, 82, 83, 84, 85, 86, 87, 88, 89, 90, 91, 92, 93, 94, 95, 96, 97, 98, 99, 100, 101, 102, 103, 104, 105, 106, 107, 108, 3, 109, 110, 111, 112, 113, 114, 115, 116, 117, 118, 119, 120, 121, 122, 123, 124, 125, 126, 127, 128, 129, 130, 131, 132, 133, 134, 135, 136, 137, 138, 139, 140, 148, 149, 150, 151, 152, 153, 154, 155, 156, 157, 158, 159, 160, 161, 162, 163, 164, 165, 166, 167, 141, 142, 143, 144, 145, 146, 147, 168, 169, 170, 171, 172, 173, 174, 175, 176, 177, 178, 179, 180, 181, 182, 183, 184] (by decide +kernel) (by decide +kernel)
set_option maxRecDepth 20000 in
theorem gX6_due_X6_settle : GoodIn wsX6_due (wsV RX6 265 RX6 yX6_settle wsX6_settle) := goodIn_app (goodIn_of _ (by decide +kernel)) ggX6_due_X6_settle
theorem dX6_due_0 : decode cX6_due 0 = .ok (.aload_n 0, 1) := by decide +kernel
theorem dX6_due_1 : decode cX6_due 1 = .ok (.iload_n 1, 1) := by decide +kernel
theorem dX6_due_2 : decode cX6_due 2 = .ok (.iload_n 2, 1) := by decide +kernel
theorem dX6_due_3 : decode cX6_due 3 = .ok (.invokevirtual 240, 3) := by decide +kernel
theorem dX6_due_6 : decode cX6_due 6 = .ok (.astore 4, 2) := by decide +kernel
theorem dX6_due_8 : decode cX6_due 8 = .ok (.aload 4, 2) := by decide +kernel
theorem dX6_due_10 : decode cX6_due 10 = .ok (.ifnull 10, 3) := by decide +kernel
theorem dX6_due_13 : decode cX6_due 13 = .ok (.iload_n 3, 1) := by decide +kernel
theorem dX6_due_14 : decode cX6_due 14 = .ok (.invokestatic 105, 3) := by decide +kernel
theorem dX6_due_17 : decode cX6_due 17 = .ok (.ifCond .ne 13, 3) := by decide +kernel
theorem dX6_due_20 : decode cX6_due 20 = .ok (.new 109, 3) := by decide +kernel
theorem dX6_due_23 : decode cX6_due 23 = .ok (.dup, 1) := by decide +kernel
theorem dX6_due_24 : decode cX6_due 24 = .ok (.ldc 244, 2) := by decide +kernel
theorem dX6_due_26 : decode cX6_due 26 = .ok (.invokespecial 113, 3) := by decide +kernel
theorem dX6_due_29 : decode cX6_due 29 = .ok (.athrow, 1) := by decide +kernel
theorem dX6_due_30 : decode cX6_due 30 = .ok (.aload_n 0, 1) := by decide +kernel
theorem dX6_due_31 : decode cX6_due 31 = .ok (.invokevirtual 265, 3) := by decide +kernel
theorem dX6_due_34 : decode cX6_due 34 = .ok (.aload 4, 2) := by decide +kernel
theorem dX6_due_36 : decode cX6_due 36 = .ok (.getfield 268, 3) := by decide +kernel
theorem dX6_due_39 : decode cX6_due 39 = .ok (.iload_n 2, 1) := by decide +kernel
theorem dX6_due_40 : decode cX6_due 40 = .ok (.bipush 10, 2) := by decide +kernel
theorem dX6_due_42 : decode cX6_due 42 = .ok (.imul, 1) := by decide +kernel
theorem dX6_due_43 : decode cX6_due 43 = .ok (.iload_n 3, 1) := by decide +kernel
theorem dX6_due_44 : decode cX6_due 44 = .ok (.iadd, 1) := by decide +kernel
theorem dX6_due_45 : decode cX6_due 45 = .ok (.laload, 1) := by decide +kernel
theorem dX6_due_46 : decode cX6_due 46 = .ok (.l2i, 1) := by decide +kernel
theorem dX6_due_47 : decode cX6_due 47 = .ok (.ireturn, 1) := by decide +kernel
set_option maxRecDepth 20000 in
theorem ggX6_balance_X6_unitIn : GoodIn wsX6_balance wsX6_unitIn := goodIn_r _ [8, 9, 10, 11, 12, 13, 7, 14, 15, 141, 142, 143, 144, 145, 146, 147, 148, 149, 150, 151, 152, 153, 154, 155, 156, 157, 158, 159, 160, 161, 162, 163, 164, 165, 166, 167] (by decide +kernel) (by decide +kernel)
set_option maxRecDepth 20000 in
theorem gX6_balance_X6_unitIn : GoodIn wsX6_balance (wsV RX6 240 RX6 yX6_unitIn wsX6_unitIn) := goodIn_app (goodIn_of _ (by decide +kernel)) ggX6_balance_X6_unitIn
set_option maxRecDepth 20000 in
theorem ggX6_balance_X6_isOwner : GoodIn wsX6_balance wsX6_isOwner := goodIn_r _ [18] (by decide +kernel) (by decide +kernel)
set_option maxRecDepth 20000 in
theorem gX6_balance_X6_isOwner : GoodIn wsX6_balance (va_wsS RX6 105 yX6_isOwner wsX6_isOwner) := goodIn_app (goodIn_of _ (by decide +kernel)) ggX6_balance_X6_isOwner
set_option maxRecDepth 20000 in
theorem ggX6_balance_X6_settle : GoodIn wsX6_balance wsX6_settle := goodIn_r _ [22, 23, 10, 15, 9, 24, 25, 26, 7, 27, 28, 29, 30, 31, 32, 33, 34, 35, 36, 37, 38, 39, 40, 41, 42, 43, 44, 45, 46, 47, 48, 49, 50, 51, 52, 53, 54, 55, 56, 57, 58, 59, 60, 61, 62, 63, 64, 65, 66, 67, 68, 69, 70, 71, 72, 73, 74, 75, 76, 77, 78, 79, 80, 81, 82, 83, 84, 85, 86, 87, 88, 89, 90, 91, 92, 93, 3, 94, 95, 96, 97, 98, 99, 100, 101, 102, 103, 104, 105, 106, 107, 108, 109, 110, 111, 112, 113, 114, 115, 116, 117, 118, 119, 120, 121, 122, 123, 124, 125, 126, 127, 128, 129, 130, 131, 132, 133, 134, 135, 136, 137, 138, 139, 140, 148, 149, 150, 151, 152, 153, 154, 155, 156, 157, 158, 159, 160, 161, 162, 163, 164, 165, 166, 167, 141, 142, 143, 144, 145, 146, 147, 168, 169, 170, 171, 172, 173, 174, 175, 176, 177, 178, 179, 180, 181, 182, 183, 184] (by decide +kernel) (by decide +kernel)
set_option maxRecDepth 20000 in
theorem gX6_balance_X6_settle : GoodIn wsX6_balance (wsV RX6 265 RX6 yX6_settle wsX6_settle) := goodIn_app (goodIn_of _ (by decide +kernel)) ggX6_balance_X6_settle
theorem dX6_balance_0 : decode cX6_balance 0 = .ok (.aload_n 0, 1) := by decide +kernel
theorem dX6_balance_1 : decode cX6_balance 1 = .ok (.iload_n 1, 1) := by decide +kernel
theorem dX6_balance_2 : decode cX6_balance 2 = .ok (.iload_n 2, 1) := by decide +kernel
theorem dX6_balance_3 : decode cX6_balance 3 = .ok (.invokevirtual 240, 3) := by decide +kernel
theorem dX6_balance_6 : decode cX6_balance 6 = .ok (.astore 4, 2) := by decide +kernel
theorem dX6_balance_8 : decode cX6_balance 8 = .ok (.aload 4, 2) := by decide +kernel
theorem dX6_balance_10 : decode cX6_balance 10 = .ok (.ifnull 10, 3) := by decide +kernel
theorem dX6_balance_13 : decode cX6_balance 13 = .ok (.iload_n 3, 1) := by decide +kernel
theorem dX6_balance_14 : decode cX6_balance 14 = .ok (.invokestatic 105, 3) := by decide +kernel
theorem dX6_balance_17 : decode cX6_balance 17 = .ok (.ifCond .ne 13, 3) := by decide +kernel
theorem dX6_balance_20 : decode cX6_balance 20 = .ok (.new 109, 3) := by decide +kernel
theorem dX6_balance_23 : decode cX6_balance 23 = .ok (.dup, 1) := by decide +kernel
theorem dX6_balance_24 : decode cX6_balance 24 = .ok (.ldc 244, 2) := by decide +kernel
theorem dX6_balance_26 : decode cX6_balance 26 = .ok (.invokespecial 113, 3) := by decide +kernel
theorem dX6_balance_29 : decode cX6_balance 29 = .ok (.athrow, 1) := by decide +kernel
theorem dX6_balance_30 : decode cX6_balance 30 = .ok (.aload_n 0, 1) := by decide +kernel
theorem dX6_balance_31 : decode cX6_balance 31 = .ok (.invokevirtual 265, 3) := by decide +kernel
theorem dX6_balance_34 : decode cX6_balance 34 = .ok (.aload 4, 2) := by decide +kernel
theorem dX6_balance_36 : decode cX6_balance 36 = .ok (.getfield 271, 3) := by decide +kernel
theorem dX6_balance_39 : decode cX6_balance 39 = .ok (.iload_n 2, 1) := by decide +kernel
theorem dX6_balance_40 : decode cX6_balance 40 = .ok (.bipush 10, 2) := by decide +kernel
theorem dX6_balance_42 : decode cX6_balance 42 = .ok (.imul, 1) := by decide +kernel
theorem dX6_balance_43 : decode cX6_balance 43 = .ok (.iload_n 3, 1) := by decide +kernel
theorem dX6_balance_44 : decode cX6_balance 44 = .ok (.iadd, 1) := by decide +kernel
theorem dX6_balance_45 : decode cX6_balance 45 = .ok (.laload, 1) := by decide +kernel
theorem dX6_balance_46 : decode cX6_balance 46 = .ok (.lreturn, 1) := by decide +kernel
set_option maxRecDepth 20000 in
theorem ggX6_agrees_X6_unitIn : GoodIn wsX6_agrees wsX6_unitIn := goodIn_r _ [9, 10, 11, 12, 13, 14, 8, 15, 16, 138, 139, 140, 141, 142, 143, 144, 145, 146, 147, 148, 149, 150, 151, 152, 153, 154, 155, 156, 157, 158, 159, 160, 161, 162, 163, 164] (by decide +kernel) (by decide +kernel)
set_option maxRecDepth 20000 in
theorem gX6_agrees_X6_unitIn : GoodIn wsX6_agrees (wsV RX6 240 RX6 yX6_unitIn wsX6_unitIn) := goodIn_app (goodIn_of _ (by decide +kernel)) ggX6_agrees_X6_unitIn
set_option maxRecDepth 20000 in
theorem ggX6_agrees_X6_settle : GoodIn wsX6_agrees wsX6_settle := goodIn_r _ [20, 21, 11, 16, 10, 22, 23, 24, 8, 25, 26, 4, 27, 28, 29, 30, 31, 32, 33, 34, 35, 36, 37, 38, 39, 40, 41, 42, 43, 44, 45, 46, 47, 48, 49, 50, 51, 52, 53, 54, 55, 56, 57, 58, 59, 60, 61, 62, 63, 64, 65, 66, 67, 68, 69, 70, 71, 72, 73, 74, 75, 76, 77, 78, 79, 80, 81, 82, 83, 84, 85, 86, 87, 88, 89, 90, 91, 92, 93, 94, 95, 96, 97, 98, 99, 100, 101, 102, 103, 104, 105, 3, 106, 107, 108, 109, 110, 111, 112, 113, 114, 115, 116, 117, 118, 119, 120, 121, 122, 123, 124, 125, 126, 127, 128, 129, 130, 131, 132, 133, 134, 135, 136, 137, 145, 146, 147, 148, 149, 150, 151, 152, 153, 154, 155, 156, 157, 158, 159, 160, 161, 162, 163, 164, 138, 139, 140, 141, 142, 143, 144, 165, 166, 167, 168, 169, 170, 171, 172, 173, 174, 175, 176, 177, 178, 179, 180, 181] (by decide +kernel) (by decide +kernel)
set_option maxRecDepth 20000 in
theorem gX6_agrees_X6_settle : GoodIn wsX6_agrees (wsV RX6 265 RX6 yX6_settle wsX6_settle) := goodIn_app (goodIn_of _ (by decide +kernel)) ggX6_agrees_X6_settle
set_option maxRecDepth 20000 in
theorem ggX6_agrees_X6_revenueOf : GoodIn wsX6_agrees wsX6_revenueOf := goodIn_r _ [132, 26, 105, 133, 134, 135, 8, 136, 137, 138, 139, 140, 141, 142, 143, 144, 145, 146, 147, 148, 149, 150, 151, 152, 153, 154, 155, 156, 157, 158, 159, 160, 161, 162, 163, 164] (by decide +kernel) (by decide +kernel)
set_option maxRecDepth 20000 in
theorem gX6_agrees_X6_revenueOf : GoodIn wsX6_agrees (wsV RX6 261 RX6 yX6_revenueOf wsX6_revenueOf) := goodIn_app (goodIn_of _ (by decide +kernel)) ggX6_agrees_X6_revenueOf
theorem dX6_agrees_0 : decode cX6_agrees 0 = .ok (.aload_n 0, 1) := by decide +kernel
theorem dX6_agrees_1 : decode cX6_agrees 1 = .ok (.iload_n 1, 1) := by decide +kernel
theorem dX6_agrees_2 : decode cX6_agrees 2 = .ok (.iload_n 2, 1) := by decide +kernel
theorem dX6_agrees_3 : decode cX6_agrees 3 = .ok (.invokevirtual 240, 3) := by decide +kernel
theorem dX6_agrees_6 : decode cX6_agrees 6 = .ok (.astore_n 3, 1) := by decide +kernel
theorem dX6_agrees_7 : decode cX6_agrees 7 = .ok (.aload_n 3, 1) := by decide +kernel
theorem dX6_agrees_8 : decode cX6_agrees 8 = .ok (.ifnonnull 14, 3) := by decide +kernel
theorem dX6_agrees_11 : decode cX6_agrees 11 = .ok (.new 109, 3) := by decide +kernel
theorem dX6_agrees_14 : decode cX6_agrees 14 = .ok (.dup, 1) := by decide +kernel
theorem dX6_agrees_15 : decode cX6_agrees 15 = .ok (.ldc_w 259, 3) := by decide +kernel
theorem dX6_agrees_18 : decode cX6_agrees 18 = .ok (.invokespecial 113, 3) := by decide +kernel
theorem dX6_agrees_21 : decode cX6_agrees 21 = .ok (.athrow, 1) := by decide +kernel
theorem dX6_agrees_22 : decode cX6_agrees 22 = .ok (.aload_n 0, 1) := by decide +kernel
theorem dX6_agrees_23 : decode cX6_agrees 23 = .ok (.invokevirtual 265, 3) := by decide +kernel
theorem dX6_agrees_26 : decode cX6_agrees 26 = .ok (.lconst 0, 1) := by decide +kernel
theorem dX6_agrees_27 : decode cX6_agrees 27 = .ok (.lstore 4, 2) := by decide +kernel
theorem dX6_agrees_29 : decode cX6_agrees 29 = .ok (.iconst 0, 1) := by decide +kernel
theorem dX6_agrees_30 : decode cX6_agrees 30 = .ok (.istore 6, 2) := by decide +kernel
theorem dX6_agrees_32 : decode cX6_agrees 32 = .ok (.iload 6, 2) := by decide +kernel
theorem dX6_agrees_34 : decode cX6_agrees 34 = .ok (.bipush 10, 2) := by decide +kernel
theorem dX6_agrees_36 : decode cX6_agrees 36 = .ok (.if_icmp .ge 26, 3) := by decide +kernel
theorem dX6_agrees_39 : decode cX6_agrees 39 = .ok (.lload 4, 2) := by decide +kernel
theorem dX6_agrees_41 : decode cX6_agrees 41 = .ok (.aload_n 3, 1) := by decide +kernel
theorem dX6_agrees_42 : decode cX6_agrees 42 = .ok (.getfield 268, 3) := by decide +kernel
theorem dX6_agrees_45 : decode cX6_agrees 45 = .ok (.iload_n 2, 1) := by decide +kernel
theorem dX6_agrees_46 : decode cX6_agrees 46 = .ok (.bipush 10, 2) := by decide +kernel
theorem dX6_agrees_48 : decode cX6_agrees 48 = .ok (.imul, 1) := by decide +kernel
theorem dX6_agrees_49 : decode cX6_agrees 49 = .ok (.iload 6, 2) := by decide +kernel
theorem dX6_agrees_51 : decode cX6_agrees 51 = .ok (.iadd, 1) := by decide +kernel
theorem dX6_agrees_52 : decode cX6_agrees 52 = .ok (.laload, 1) := by decide +kernel
theorem dX6_agrees_53 : decode cX6_agrees 53 = .ok (.ladd, 1) := by decide +kernel
theorem dX6_agrees_54 : decode cX6_agrees 54 = .ok (.lstore 4, 2) := by decide +kernel
theorem dX6_agrees_56 : decode cX6_agrees 56 = .ok (.iinc 6 1, 3) := by decide +kernel
theorem dX6_agrees_59 : decode cX6_agrees 59 = .ok (.goto (-27), 3) := by decide +kernel
theorem dX6_agrees_62 : decode cX6_agrees 62 = .ok (.lload 4, 2) := by decide +kernel
theorem dX6_agrees_64 : decode cX6_agrees 64 = .ok (.aload_n 0, 1) := by decide +kernel
theorem dX6_agrees_65 : decode cX6_agrees 65 = .ok (.aload_n 3, 1) := by decide +kernel
theorem dX6_agrees_66 : decode cX6_agrees 66 = .ok (.iload_n 2, 1) := by decide +kernel
theorem dX6_agrees_67 : decode cX6_agrees 67 = .ok (.invokevirtual 261, 3) := by decide +kernel
theorem dX6_agrees_70 : decode cX6_agrees 70 = .ok (.aload_n 3, 1) := by decide +kernel
theorem dX6_agrees_71 : decode cX6_agrees 71 = .ok (.getfield 222, 3) := by decide +kernel
theorem dX6_agrees_74 : decode cX6_agrees 74 = .ok (.iload_n 2, 1) := by decide +kernel
theorem dX6_agrees_75 : decode cX6_agrees 75 = .ok (.iaload, 1) := by decide +kernel
theorem dX6_agrees_76 : decode cX6_agrees 76 = .ok (.i2l, 1) := by decide +kernel
theorem dX6_agrees_77 : decode cX6_agrees 77 = .ok (.lsub, 1) := by decide +kernel
theorem dX6_agrees_78 : decode cX6_agrees 78 = .ok (.lcmp, 1) := by decide +kernel
theorem dX6_agrees_79 : decode cX6_agrees 79 = .ok (.ifCond .ne 7, 3) := by decide +kernel
theorem dX6_agrees_82 : decode cX6_agrees 82 = .ok (.iconst 1, 1) := by decide +kernel
theorem dX6_agrees_83 : decode cX6_agrees 83 = .ok (.goto 4, 3) := by decide +kernel
theorem dX6_agrees_86 : decode cX6_agrees 86 = .ok (.iconst 0, 1) := by decide +kernel
theorem dX6_agrees_87 : decode cX6_agrees 87 = .ok (.ireturn, 1) := by decide +kernel
set_option maxRecDepth 20000 in
theorem ggX6_suspend_X6_isOwner : GoodIn wsX6_suspend wsX6_isOwner := goodIn_r _ [7] (by decide +kernel) (by decide +kernel)
set_option maxRecDepth 20000 in
theorem gX6_suspend_X6_isOwner : GoodIn wsX6_suspend (va_wsS RX6 105 yX6_isOwner wsX6_isOwner) := goodIn_app (goodIn_of _ (by decide +kernel)) ggX6_suspend_X6_isOwner
set_option maxRecDepth 20000 in
theorem ggX6_suspend_X6_hasBit : GoodIn wsX6_suspend wsX6_hasBit := goodIn_r _ [10] (by decide +kernel) (by decide +kernel)
set_option maxRecDepth 20000 in
theorem gX6_suspend_X6_hasBit : GoodIn wsX6_suspend (va_wsS RX6 175 yX6_hasBit wsX6_hasBit) := goodIn_app (goodIn_of _ (by decide +kernel)) ggX6_suspend_X6_hasBit
set_option maxRecDepth 20000 in
theorem ggX6_suspend_X6_withBit : GoodIn wsX6_suspend wsX6_withBit := goodIn_r _ [13] (by decide +kernel) (by decide +kernel)
set_option maxRecDepth 20000 in
theorem gX6_suspend_X6_withBit : GoodIn wsX6_suspend (va_wsS RX6 236 yX6_withBit wsX6_withBit) := goodIn_app (goodIn_of _ (by decide +kernel)) ggX6_suspend_X6_withBit
theorem dX6_suspend_0 : decode cX6_suspend 0 = .ok (.iload_n 1, 1) := by decide +kernel
theorem dX6_suspend_1 : decode cX6_suspend 1 = .ok (.invokestatic 105, 3) := by decide +kernel
theorem dX6_suspend_4 : decode cX6_suspend 4 = .ok (.ifCond .ne 13, 3) := by decide +kernel
theorem dX6_suspend_7 : decode cX6_suspend 7 = .ok (.new 109, 3) := by decide +kernel
theorem dX6_suspend_10 : decode cX6_suspend 10 = .ok (.dup, 1) := by decide +kernel
theorem dX6_suspend_11 : decode cX6_suspend 11 = .ok (.ldc 111, 2) := by decide +kernel
theorem dX6_suspend_13 : decode cX6_suspend 13 = .ok (.invokespecial 113, 3) := by decide +kernel
theorem dX6_suspend_16 : decode cX6_suspend 16 = .ok (.athrow, 1) := by decide +kernel
theorem dX6_suspend_17 : decode cX6_suspend 17 = .ok (.aload_n 0, 1) := by decide +kernel
theorem dX6_suspend_18 : decode cX6_suspend 18 = .ok (.getfield 65, 3) := by decide +kernel
theorem dX6_suspend_21 : decode cX6_suspend 21 = .ok (.iload_n 1, 1) := by decide +kernel
theorem dX6_suspend_22 : decode cX6_suspend 22 = .ok (.invokestatic 175, 3) := by decide +kernel
theorem dX6_suspend_25 : decode cX6_suspend 25 = .ok (.istore_n 3, 1) := by decide +kernel
theorem dX6_suspend_26 : decode cX6_suspend 26 = .ok (.aload_n 0, 1) := by decide +kernel
theorem dX6_suspend_27 : decode cX6_suspend 27 = .ok (.aload_n 0, 1) := by decide +kernel
theorem dX6_suspend_28 : decode cX6_suspend 28 = .ok (.getfield 65, 3) := by decide +kernel
theorem dX6_suspend_31 : decode cX6_suspend 31 = .ok (.iload_n 1, 1) := by decide +kernel
theorem dX6_suspend_32 : decode cX6_suspend 32 = .ok (.iload_n 2, 1) := by decide +kernel
theorem dX6_suspend_33 : decode cX6_suspend 33 = .ok (.invokestatic 236, 3) := by decide +kernel
theorem dX6_suspend_36 : decode cX6_suspend 36 = .ok (.putfield 65, 3) := by decide +kernel
theorem dX6_suspend_39 : decode cX6_suspend 39 = .ok (.iload_n 3, 1) := by decide +kernel
theorem dX6_suspend_40 : decode cX6_suspend 40 = .ok (.ireturn, 1) := by decide +kernel
theorem dX6_least_0 : decode cX6_least 0 = .ok (.iload_n 1, 1) := by decide +kernel
theorem dX6_least_1 : decode cX6_least 1 = .ok (.iconst 1, 1) := by decide +kernel
theorem dX6_least_2 : decode cX6_least 2 = .ok (.if_icmp .lt 10, 3) := by decide +kernel
theorem dX6_least_5 : decode cX6_least 5 = .ok (.iload_n 1, 1) := by decide +kernel
theorem dX6_least_6 : decode cX6_least 6 = .ok (.ldc_w 274, 3) := by decide +kernel
theorem dX6_least_9 : decode cX6_least 9 = .ok (.if_icmp .le 13, 3) := by decide +kernel
theorem dX6_least_12 : decode cX6_least 12 = .ok (.new 93, 3) := by decide +kernel
theorem dX6_least_15 : decode cX6_least 15 = .ok (.dup, 1) := by decide +kernel
theorem dX6_least_16 : decode cX6_least 16 = .ok (.ldc 214, 2) := by decide +kernel
theorem dX6_least_18 : decode cX6_least 18 = .ok (.invokespecial 97, 3) := by decide +kernel
theorem dX6_least_21 : decode cX6_least 21 = .ok (.athrow, 1) := by decide +kernel
theorem dX6_least_22 : decode cX6_least 22 = .ok (.aload_n 0, 1) := by decide +kernel
theorem dX6_least_23 : decode cX6_least 23 = .ok (.getfield 68, 3) := by decide +kernel
theorem dX6_least_26 : decode cX6_least 26 = .ok (.istore_n 2, 1) := by decide +kernel
theorem dX6_least_27 : decode cX6_least 27 = .ok (.aload_n 0, 1) := by decide +kernel
theorem dX6_least_28 : decode cX6_least 28 = .ok (.iload_n 1, 1) := by decide +kernel
theorem dX6_least_29 : decode cX6_least 29 = .ok (.putfield 68, 3) := by decide +kernel
theorem dX6_least_32 : decode cX6_least 32 = .ok (.iload_n 2, 1) := by decide +kernel
theorem dX6_least_33 : decode cX6_least 33 = .ok (.ireturn, 1) := by decide +kernel
set_option maxRecDepth 20000 in
theorem ggX6_payDay_X6_settle : GoodIn wsX6_payDay wsX6_settle := goodIn_r _ [8, 9, 10, 11, 12, 13, 14, 15, 7, 16, 17, 18, 19, 20, 21, 22, 23, 24, 25, 26, 27, 28, 29, 30, 31, 32, 33, 34, 35, 36, 37, 38, 39, 40, 41, 42, 43, 44, 45, 46, 47, 48, 49, 50, 51, 52, 53, 54, 55, 56, 57, 58, 59, 60, 61, 62, 63, 64, 65, 66, 67, 68, 69, 70, 71, 72, 73, 74, 75, 76, 77, 78, 79, 80, 81, 82, 83, 84, 85, 86, 87, 88, 89, 90, 91, 92, 93, 94, 95, 96, 97, 98, 99, 100, 101, 102, 103, 104, 105, 106, 107, 108, 109, 110, 111, 112, 113, 114, 115, 116, 117, 118, 119, 120, 121, 122, 123, 124, 125, 126, 127, 128, 129, 130, 135, 136, 137, 138, 139, 140, 141, 142, 143, 144, 145, 146, 147, 148, 149, 150, 151, 152, 153, 154, 155, 156, 157, 158, 159, 160, 161, 162, 163, 164, 165, 166, 167, 168, 169, 170, 171, 172, 173, 174, 175, 176, 177, 178] (by decide +kernel) (by decide +kernel)
set_option maxRecDepth 20000 in
theorem gX6_payDay_X6_settle : GoodIn wsX6_payDay (wsV RX6 265 RX6 yX6_settle wsX6_settle) := goodIn_app (goodIn_of _ (by decide +kernel)) ggX6_payDay_X6_settle
set_option maxRecDepth 20000 in
theorem ggX6_payDay_X6_hasBit : GoodIn wsX6_payDay wsX6_hasBit := goodIn_r _ [86] (by decide +kernel) (by decide +kernel)
set_option maxRecDepth 20000 in
theorem gX6_payDay_X6_hasBit : GoodIn wsX6_payDay (va_wsS RX6 175 yX6_hasBit wsX6_hasBit) := goodIn_app (goodIn_of _ (by decide +kernel)) ggX6_payDay_X6_hasBit
set_option maxRecDepth 20000 in
theorem ggX6_payDay_X6_settledOwed : GoodIn wsX6_payDay wsX6_settledOwed := goodIn_r _ [134, 3, 11, 12, 10, 98, 135, 136, 137, 138, 139, 140, 141, 142, 143, 144, 145, 146, 147, 148, 149, 150, 151, 152, 153, 154, 155, 156, 157, 158, 159, 160, 161] (by decide +kernel) (by decide +kernel)
set_option maxRecDepth 20000 in
theorem gX6_payDay_X6_settledOwed : GoodIn wsX6_payDay (wsV RX6 275 RX6 yX6_settledOwed wsX6_settledOwed) := goodIn_app (goodIn_of _ (by decide +kernel)) ggX6_payDay_X6_settledOwed
theorem dX6_payDay_0 : decode cX6_payDay 0 = .ok (.aload_n 0, 1) := by decide +kernel
theorem dX6_payDay_1 : decode cX6_payDay 1 = .ok (.invokevirtual 265, 3) := by decide +kernel
theorem dX6_payDay_4 : decode cX6_payDay 4 = .ok (.lconst 0, 1) := by decide +kernel
theorem dX6_payDay_5 : decode cX6_payDay 5 = .ok (.lstore_n 1, 1) := by decide +kernel
theorem dX6_payDay_6 : decode cX6_payDay 6 = .ok (.iconst 0, 1) := by decide +kernel
theorem dX6_payDay_7 : decode cX6_payDay 7 = .ok (.istore_n 3, 1) := by decide +kernel
theorem dX6_payDay_8 : decode cX6_payDay 8 = .ok (.iload_n 3, 1) := by decide +kernel
theorem dX6_payDay_9 : decode cX6_payDay 9 = .ok (.bipush 10, 2) := by decide +kernel
theorem dX6_payDay_11 : decode cX6_payDay 11 = .ok (.if_icmp .ge 58, 3) := by decide +kernel
theorem dX6_payDay_14 : decode cX6_payDay 14 = .ok (.aload_n 0, 1) := by decide +kernel
theorem dX6_payDay_15 : decode cX6_payDay 15 = .ok (.getfield 65, 3) := by decide +kernel
theorem dX6_payDay_18 : decode cX6_payDay 18 = .ok (.iload_n 3, 1) := by decide +kernel
theorem dX6_payDay_19 : decode cX6_payDay 19 = .ok (.invokestatic 175, 3) := by decide +kernel
theorem dX6_payDay_22 : decode cX6_payDay 22 = .ok (.ifCond .eq 7, 3) := by decide +kernel
theorem dX6_payDay_25 : decode cX6_payDay 25 = .ok (.lconst 0, 1) := by decide +kernel
theorem dX6_payDay_26 : decode cX6_payDay 26 = .ok (.goto 8, 3) := by decide +kernel
theorem dX6_payDay_29 : decode cX6_payDay 29 = .ok (.aload_n 0, 1) := by decide +kernel
theorem dX6_payDay_30 : decode cX6_payDay 30 = .ok (.iload_n 3, 1) := by decide +kernel
theorem dX6_payDay_31 : decode cX6_payDay 31 = .ok (.invokevirtual 275, 3) := by decide +kernel
theorem dX6_payDay_34 : decode cX6_payDay 34 = .ok (.lstore 4, 2) := by decide +kernel
theorem dX6_payDay_36 : decode cX6_payDay 36 = .ok (.lload 4, 2) := by decide +kernel
theorem dX6_payDay_38 : decode cX6_payDay 38 = .ok (.aload_n 0, 1) := by decide +kernel
theorem dX6_payDay_39 : decode cX6_payDay 39 = .ok (.getfield 68, 3) := by decide +kernel
theorem dX6_payDay_42 : decode cX6_payDay 42 = .ok (.i2l, 1) := by decide +kernel
theorem dX6_payDay_43 : decode cX6_payDay 43 = .ok (.lcmp, 1) := by decide +kernel
theorem dX6_payDay_44 : decode cX6_payDay 44 = .ok (.ifCond .lt 19, 3) := by decide +kernel
theorem dX6_payDay_47 : decode cX6_payDay 47 = .ok (.aload_n 0, 1) := by decide +kernel
theorem dX6_payDay_48 : decode cX6_payDay 48 = .ok (.getfield 71, 3) := by decide +kernel
theorem dX6_payDay_51 : decode cX6_payDay 51 = .ok (.iload_n 3, 1) := by decide +kernel
theorem dX6_payDay_52 : decode cX6_payDay 52 = .ok (.dup2, 1) := by decide +kernel
theorem dX6_payDay_53 : decode cX6_payDay 53 = .ok (.laload, 1) := by decide +kernel
theorem dX6_payDay_54 : decode cX6_payDay 54 = .ok (.lload 4, 2) := by decide +kernel
theorem dX6_payDay_56 : decode cX6_payDay 56 = .ok (.ladd, 1) := by decide +kernel
theorem dX6_payDay_57 : decode cX6_payDay 57 = .ok (.lastore, 1) := by decide +kernel
theorem dX6_payDay_58 : decode cX6_payDay 58 = .ok (.lload_n 1, 1) := by decide +kernel
theorem dX6_payDay_59 : decode cX6_payDay 59 = .ok (.lload 4, 2) := by decide +kernel
theorem dX6_payDay_61 : decode cX6_payDay 61 = .ok (.ladd, 1) := by decide +kernel
theorem dX6_payDay_62 : decode cX6_payDay 62 = .ok (.lstore_n 1, 1) := by decide +kernel
theorem dX6_payDay_63 : decode cX6_payDay 63 = .ok (.iinc 3 1, 3) := by decide +kernel
theorem dX6_payDay_66 : decode cX6_payDay 66 = .ok (.goto (-58), 3) := by decide +kernel
theorem dX6_payDay_69 : decode cX6_payDay 69 = .ok (.lload_n 1, 1) := by decide +kernel
theorem dX6_payDay_70 : decode cX6_payDay 70 = .ok (.lreturn, 1) := by decide +kernel
set_option maxRecDepth 20000 in
theorem ggX6_owed_X6_isOwner : GoodIn wsX6_owed wsX6_isOwner := goodIn_r _ [6] (by decide +kernel) (by decide +kernel)
set_option maxRecDepth 20000 in
theorem gX6_owed_X6_isOwner : GoodIn wsX6_owed (va_wsS RX6 105 yX6_isOwner wsX6_isOwner) := goodIn_app (goodIn_of _ (by decide +kernel)) ggX6_owed_X6_isOwner
set_option maxRecDepth 20000 in
theorem ggX6_owed_X6_settle : GoodIn wsX6_owed wsX6_settle := goodIn_r _ [10, 11, 12, 13, 14, 15, 16, 17, 5, 18, 19, 20, 21, 22, 23, 24, 25, 26, 27, 28, 29, 30, 31, 32, 33, 34, 35, 36, 37, 38, 39, 40, 41, 42, 43, 44, 45, 46, 47, 48, 49, 50, 51, 52, 53, 54, 55, 56, 57, 58, 59, 60, 61, 62, 63, 64, 65, 66, 67, 68, 69, 70, 71, 72, 73, 74, 75, 76, 77, 78, 79, 80, 81, 82, 83, 84, 85, 86, 87, 88, 89, 90, 91, 92, 93, 94, 95, 96, 97, 98, 99, 100, 101, 102, 103, 104, 105, 106, 107, 108, 109, 110, 111, 112, 113, 114, 115, 116, 117, 118, 119, 120, 121, 122, 123, 124, 125, 126, 127, 128, 129, 130, 131, 132, 138, 139, 140, 141, 142, 143, 144, 145, 146, 147, 148, 149, 150, 151, 152, 153, 154, 155, 156, 157, 158, 159, 160, 161, 162, 163, 164, 165, 166, 167, 168, 169, 170, 171, 172, 173, 174, 175, 176, 177, 178, 179, 180, 181] (by decide +kernel) (by decide +kernel)
set_option maxRecDepth 20000 in
theorem gX6_owed_X6_settle : GoodIn wsX6_owed (wsV RX6 265 RX6 yX6_settle wsX6_settle) := goodIn_app (goodIn_of _ (by decide +kernel)) ggX6_owed_X6_settle
set_option maxRecDepth 20000 in
theorem ggX6_owed_X6_settledOwed : GoodIn wsX6_owed wsX6_settledOwed := goodIn_r _ [136, 137, 13, 14, 12, 100, 138, 139, 140, 141, 142, 143, 144, 145, 146, 147, 148, 149, 150, 151, 152, 153, 154, 155, 156, 157, 158, 159, 160, 161, 162, 163, 164] (by decide +kernel) (by decide +kernel)
set_option maxRecDepth 20000 in
theorem gX6_owed_X6_settledOwed : GoodIn wsX6_owed (wsV RX6 275 RX6 yX6_settledOwed wsX6_settledOwed) := goodIn_app (goodIn_of _ (by decide +kernel)) ggX6_owed_X6_settledOwed
theorem dX6_owed_0 : decode cX6_owed 0 = .ok (.iload_n 1, 1) := by decide +kernel
theorem dX6_owed_1 : decode cX6_owed 1 = .ok (.invokestatic 105, 3) := by decide +kernel
theorem dX6_owed_4 : decode cX6_owed 4 = .ok (.ifCond .ne 13, 3) := by decide +kernel
theorem dX6_owed_7 : decode cX6_owed 7 = .ok (.new 109, 3) := by decide +kernel
theorem dX6_owed_10 : decode cX6_owed 10 = .ok (.dup, 1) := by decide +kernel
theorem dX6_owed_11 : decode cX6_owed 11 = .ok (.ldc 111, 2) := by decide +kernel
theorem dX6_owed_13 : decode cX6_owed 13 = .ok (.invokespecial 113, 3) := by decide +kernel
theorem dX6_owed_16 : decode cX6_owed 16 = .ok (.athrow, 1) := by decide +kernel
theorem dX6_owed_17 : decode cX6_owed 17 = .ok (.aload_n 0, 1) := by decide +kernel
theorem dX6_owed_18 : decode cX6_owed 18 = .ok (.invokevirtual 265, 3) := by decide +kernel
theorem dX6_owed_21 : decode cX6_owed 21 = .ok (.aload_n 0, 1) := by decide +kernel
theorem dX6_owed_22 : decode cX6_owed 22 = .ok (.iload_n 1, 1) := by decide +kernel
theorem dX6_owed_23 : decode cX6_owed 23 = .ok (.invokevirtual 275, 3) := by decide +kernel
theorem dX6_owed_26 : decode cX6_owed 26 = .ok (.lreturn, 1) := by decide +kernel
set_option maxRecDepth 20000 in
theorem ggX6_paid_X6_isOwner : GoodIn wsX6_paid wsX6_isOwner := goodIn_r _ [7] (by decide +kernel) (by decide +kernel)
set_option maxRecDepth 20000 in
theorem gX6_paid_X6_isOwner : GoodIn wsX6_paid (va_wsS RX6 105 yX6_isOwner wsX6_isOwner) := goodIn_app (goodIn_of _ (by decide +kernel)) ggX6_paid_X6_isOwner
theorem dX6_paid_0 : decode cX6_paid 0 = .ok (.iload_n 1, 1) := by decide +kernel
theorem dX6_paid_1 : decode cX6_paid 1 = .ok (.invokestatic 105, 3) := by decide +kernel
theorem dX6_paid_4 : decode cX6_paid 4 = .ok (.ifCond .ne 13, 3) := by decide +kernel
theorem dX6_paid_7 : decode cX6_paid 7 = .ok (.new 109, 3) := by decide +kernel
theorem dX6_paid_10 : decode cX6_paid 10 = .ok (.dup, 1) := by decide +kernel
theorem dX6_paid_11 : decode cX6_paid 11 = .ok (.ldc 111, 2) := by decide +kernel
theorem dX6_paid_13 : decode cX6_paid 13 = .ok (.invokespecial 113, 3) := by decide +kernel
theorem dX6_paid_16 : decode cX6_paid 16 = .ok (.athrow, 1) := by decide +kernel
theorem dX6_paid_17 : decode cX6_paid 17 = .ok (.aload_n 0, 1) := by decide +kernel
theorem dX6_paid_18 : decode cX6_paid 18 = .ok (.getfield 71, 3) := by decide +kernel
theorem dX6_paid_21 : decode cX6_paid 21 = .ok (.iload_n 1, 1) := by decide +kernel
theorem dX6_paid_22 : decode cX6_paid 22 = .ok (.laload, 1) := by decide +kernel
theorem dX6_paid_23 : decode cX6_paid 23 = .ok (.lreturn, 1) := by decide +kernel
theorem dX6_isOwner_0 : decode cX6_isOwner 0 = .ok (.iload_n 0, 1) := by decide +kernel
theorem dX6_isOwner_1 : decode cX6_isOwner 1 = .ok (.ifCond .lt 13, 3) := by decide +kernel
theorem dX6_isOwner_4 : decode cX6_isOwner 4 = .ok (.iload_n 0, 1) := by decide +kernel
theorem dX6_isOwner_5 : decode cX6_isOwner 5 = .ok (.bipush 10, 2) := by decide +kernel
theorem dX6_isOwner_7 : decode cX6_isOwner 7 = .ok (.if_icmp .ge 7, 3) := by decide +kernel
theorem dX6_isOwner_10 : decode cX6_isOwner 10 = .ok (.iconst 1, 1) := by decide +kernel
theorem dX6_isOwner_11 : decode cX6_isOwner 11 = .ok (.goto 4, 3) := by decide +kernel
theorem dX6_isOwner_14 : decode cX6_isOwner 14 = .ok (.iconst 0, 1) := by decide +kernel
theorem dX6_isOwner_15 : decode cX6_isOwner 15 = .ok (.ireturn, 1) := by decide +kernel
theorem dX6_isMonth_0 : decode cX6_isMonth 0 = .ok (.iload_n 1, 1) := by decide +kernel
theorem dX6_isMonth_1 : decode cX6_isMonth 1 = .ok (.ifCond .lt 15, 3) := by decide +kernel
theorem dX6_isMonth_4 : decode cX6_isMonth 4 = .ok (.iload_n 1, 1) := by decide +kernel
theorem dX6_isMonth_5 : decode cX6_isMonth 5 = .ok (.aload_n 0, 1) := by decide +kernel
theorem dX6_isMonth_6 : decode cX6_isMonth 6 = .ok (.getfield 9, 3) := by decide +kernel
theorem dX6_isMonth_9 : decode cX6_isMonth 9 = .ok (.if_icmp .gt 7, 3) := by decide +kernel
theorem dX6_isMonth_12 : decode cX6_isMonth 12 = .ok (.iconst 1, 1) := by decide +kernel
theorem dX6_isMonth_13 : decode cX6_isMonth 13 = .ok (.goto 4, 3) := by decide +kernel
theorem dX6_isMonth_16 : decode cX6_isMonth 16 = .ok (.iconst 0, 1) := by decide +kernel
theorem dX6_isMonth_17 : decode cX6_isMonth 17 = .ok (.ireturn, 1) := by decide +kernel
theorem dX6_tractAt_0 : decode cX6_tractAt 0 = .ok (.iload_n 1, 1) := by decide +kernel
theorem dX6_tractAt_1 : decode cX6_tractAt 1 = .ok (.ifCond .lt 18, 3) := by decide +kernel
theorem dX6_tractAt_4 : decode cX6_tractAt 4 = .ok (.iload_n 1, 1) := by decide +kernel
theorem dX6_tractAt_5 : decode cX6_tractAt 5 = .ok (.bipush 8, 2) := by decide +kernel
theorem dX6_tractAt_7 : decode cX6_tractAt 7 = .ok (.if_icmp .ge 12, 3) := by decide +kernel
theorem dX6_tractAt_10 : decode cX6_tractAt 10 = .ok (.aload_n 0, 1) := by decide +kernel
theorem dX6_tractAt_11 : decode cX6_tractAt 11 = .ok (.getfield 15, 3) := by decide +kernel
theorem dX6_tractAt_14 : decode cX6_tractAt 14 = .ok (.iload_n 1, 1) := by decide +kernel
theorem dX6_tractAt_15 : decode cX6_tractAt 15 = .ok (.aaload, 1) := by decide +kernel
theorem dX6_tractAt_16 : decode cX6_tractAt 16 = .ok (.goto 4, 3) := by decide +kernel
theorem dX6_tractAt_19 : decode cX6_tractAt 19 = .ok (.aconst_null, 1) := by decide +kernel
theorem dX6_tractAt_20 : decode cX6_tractAt 20 = .ok (.areturn, 1) := by decide +kernel
theorem dX6_unitAt_0 : decode cX6_unitAt 0 = .ok (.iload_n 1, 1) := by decide +kernel
theorem dX6_unitAt_1 : decode cX6_unitAt 1 = .ok (.ifCond .lt 17, 3) := by decide +kernel
theorem dX6_unitAt_4 : decode cX6_unitAt 4 = .ok (.iload_n 1, 1) := by decide +kernel
theorem dX6_unitAt_5 : decode cX6_unitAt 5 = .ok (.iconst 3, 1) := by decide +kernel
theorem dX6_unitAt_6 : decode cX6_unitAt 6 = .ok (.if_icmp .ge 12, 3) := by decide +kernel
theorem dX6_unitAt_9 : decode cX6_unitAt 9 = .ok (.aload_n 0, 1) := by decide +kernel
theorem dX6_unitAt_10 : decode cX6_unitAt 10 = .ok (.getfield 42, 3) := by decide +kernel
theorem dX6_unitAt_13 : decode cX6_unitAt 13 = .ok (.iload_n 1, 1) := by decide +kernel
theorem dX6_unitAt_14 : decode cX6_unitAt 14 = .ok (.aaload, 1) := by decide +kernel
theorem dX6_unitAt_15 : decode cX6_unitAt 15 = .ok (.goto 4, 3) := by decide +kernel
theorem dX6_unitAt_18 : decode cX6_unitAt 18 = .ok (.aconst_null, 1) := by decide +kernel
theorem dX6_unitAt_19 : decode cX6_unitAt 19 = .ok (.areturn, 1) := by decide +kernel
set_option maxRecDepth 20000 in
theorem ggX6_unitIn_X6_unitAt : GoodIn wsX6_unitIn wsX6_unitAt := goodIn_r _ [7, 8, 16, 17, 18, 19, 20, 21, 22, 23, 24, 25, 26, 27, 28, 29, 30, 31, 32, 33, 34, 35] (by decide +kernel) (by decide +kernel)
set_option maxRecDepth 20000 in
theorem gX6_unitIn_X6_unitAt : GoodIn wsX6_unitIn (wsV RX6 183 RX6 yX6_unitAt wsX6_unitAt) := goodIn_app (goodIn_of _ (by decide +kernel)) ggX6_unitIn_X6_unitAt
theorem dX6_unitIn_0 : decode cX6_unitIn 0 = .ok (.aload_n 0, 1) := by decide +kernel
theorem dX6_unitIn_1 : decode cX6_unitIn 1 = .ok (.iload_n 1, 1) := by decide +kernel
theorem dX6_unitIn_2 : decode cX6_unitIn 2 = .ok (.invokevirtual 183, 3) := by decide +kernel
theorem dX6_unitIn_5 : decode cX6_unitIn 5 = .ok (.astore_n 3, 1) := by decide +kernel
theorem dX6_unitIn_6 : decode cX6_unitIn 6 = .ok (.aload_n 3, 1) := by decide +kernel
theorem dX6_unitIn_7 : decode cX6_unitIn 7 = .ok (.ifnull 23, 3) := by decide +kernel
theorem dX6_unitIn_10 : decode cX6_unitIn 10 = .ok (.iload_n 2, 1) := by decide +kernel
theorem dX6_unitIn_11 : decode cX6_unitIn 11 = .ok (.aload_n 3, 1) := by decide +kernel
theorem dX6_unitIn_12 : decode cX6_unitIn 12 = .ok (.getfield 203, 3) := by decide +kernel
theorem dX6_unitIn_15 : decode cX6_unitIn 15 = .ok (.if_icmp .lt 15, 3) := by decide +kernel
theorem dX6_unitIn_18 : decode cX6_unitIn 18 = .ok (.iload_n 2, 1) := by decide +kernel
theorem dX6_unitIn_19 : decode cX6_unitIn 19 = .ok (.aload_n 0, 1) := by decide +kernel
theorem dX6_unitIn_20 : decode cX6_unitIn 20 = .ok (.getfield 9, 3) := by decide +kernel
theorem dX6_unitIn_23 : decode cX6_unitIn 23 = .ok (.if_icmp .gt 7, 3) := by decide +kernel
theorem dX6_unitIn_26 : decode cX6_unitIn 26 = .ok (.aload_n 3, 1) := by decide +kernel
theorem dX6_unitIn_27 : decode cX6_unitIn 27 = .ok (.goto 4, 3) := by decide +kernel
theorem dX6_unitIn_30 : decode cX6_unitIn 30 = .ok (.aconst_null, 1) := by decide +kernel
theorem dX6_unitIn_31 : decode cX6_unitIn 31 = .ok (.areturn, 1) := by decide +kernel
theorem dX6_wellAt_0 : decode cX6_wellAt 0 = .ok (.iload_n 1, 1) := by decide +kernel
theorem dX6_wellAt_1 : decode cX6_wellAt 1 = .ok (.ifCond .lt 18, 3) := by decide +kernel
theorem dX6_wellAt_4 : decode cX6_wellAt 4 = .ok (.iload_n 1, 1) := by decide +kernel
theorem dX6_wellAt_5 : decode cX6_wellAt 5 = .ok (.bipush 6, 2) := by decide +kernel
theorem dX6_wellAt_7 : decode cX6_wellAt 7 = .ok (.if_icmp .ge 12, 3) := by decide +kernel
theorem dX6_wellAt_10 : decode cX6_wellAt 10 = .ok (.aload_n 0, 1) := by decide +kernel
theorem dX6_wellAt_11 : decode cX6_wellAt 11 = .ok (.getfield 51, 3) := by decide +kernel
theorem dX6_wellAt_14 : decode cX6_wellAt 14 = .ok (.iload_n 1, 1) := by decide +kernel
theorem dX6_wellAt_15 : decode cX6_wellAt 15 = .ok (.aaload, 1) := by decide +kernel
theorem dX6_wellAt_16 : decode cX6_wellAt 16 = .ok (.goto 4, 3) := by decide +kernel
theorem dX6_wellAt_19 : decode cX6_wellAt 19 = .ok (.aconst_null, 1) := by decide +kernel
theorem dX6_wellAt_20 : decode cX6_wellAt 20 = .ok (.areturn, 1) := by decide +kernel
set_option maxRecDepth 20000 in
theorem ggX6_hasTractOfUnit_X6_hasBit : GoodIn wsX6_hasTractOfUnit wsX6_hasBit := goodIn_r _ [6] (by decide +kernel) (by decide +kernel)
set_option maxRecDepth 20000 in
theorem gX6_hasTractOfUnit_X6_hasBit : GoodIn wsX6_hasTractOfUnit (va_wsS RX6 175 yX6_hasBit wsX6_hasBit) := goodIn_app (goodIn_of _ (by decide +kernel)) ggX6_hasTractOfUnit_X6_hasBit
theorem dX6_hasTractOfUnit_0 : decode cX6_hasTractOfUnit 0 = .ok (.iconst 0, 1) := by decide +kernel
theorem dX6_hasTractOfUnit_1 : decode cX6_hasTractOfUnit 1 = .ok (.istore_n 2, 1) := by decide +kernel
theorem dX6_hasTractOfUnit_2 : decode cX6_hasTractOfUnit 2 = .ok (.iload_n 2, 1) := by decide +kernel
theorem dX6_hasTractOfUnit_3 : decode cX6_hasTractOfUnit 3 = .ok (.bipush 8, 2) := by decide +kernel
theorem dX6_hasTractOfUnit_5 : decode cX6_hasTractOfUnit 5 = .ok (.if_icmp .ge 37, 3) := by decide +kernel
theorem dX6_hasTractOfUnit_8 : decode cX6_hasTractOfUnit 8 = .ok (.aload_n 0, 1) := by decide +kernel
theorem dX6_hasTractOfUnit_9 : decode cX6_hasTractOfUnit 9 = .ok (.getfield 15, 3) := by decide +kernel
theorem dX6_hasTractOfUnit_12 : decode cX6_hasTractOfUnit 12 = .ok (.iload_n 2, 1) := by decide +kernel
theorem dX6_hasTractOfUnit_13 : decode cX6_hasTractOfUnit 13 = .ok (.aaload, 1) := by decide +kernel
theorem dX6_hasTractOfUnit_14 : decode cX6_hasTractOfUnit 14 = .ok (.astore_n 3, 1) := by decide +kernel
theorem dX6_hasTractOfUnit_15 : decode cX6_hasTractOfUnit 15 = .ok (.aload_n 3, 1) := by decide +kernel
theorem dX6_hasTractOfUnit_16 : decode cX6_hasTractOfUnit 16 = .ok (.ifnull 20, 3) := by decide +kernel
theorem dX6_hasTractOfUnit_19 : decode cX6_hasTractOfUnit 19 = .ok (.iload_n 1, 1) := by decide +kernel
theorem dX6_hasTractOfUnit_20 : decode cX6_hasTractOfUnit 20 = .ok (.iload_n 2, 1) := by decide +kernel
theorem dX6_hasTractOfUnit_21 : decode cX6_hasTractOfUnit 21 = .ok (.invokestatic 175, 3) := by decide +kernel
theorem dX6_hasTractOfUnit_24 : decode cX6_hasTractOfUnit 24 = .ok (.ifCond .eq 12, 3) := by decide +kernel
theorem dX6_hasTractOfUnit_27 : decode cX6_hasTractOfUnit 27 = .ok (.aload_n 3, 1) := by decide +kernel
theorem dX6_hasTractOfUnit_28 : decode cX6_hasTractOfUnit 28 = .ok (.getfield 179, 3) := by decide +kernel
theorem dX6_hasTractOfUnit_31 : decode cX6_hasTractOfUnit 31 = .ok (.ifnull 5, 3) := by decide +kernel
theorem dX6_hasTractOfUnit_34 : decode cX6_hasTractOfUnit 34 = .ok (.iconst 1, 1) := by decide +kernel
theorem dX6_hasTractOfUnit_35 : decode cX6_hasTractOfUnit 35 = .ok (.ireturn, 1) := by decide +kernel
theorem dX6_hasTractOfUnit_36 : decode cX6_hasTractOfUnit 36 = .ok (.iinc 2 1, 3) := by decide +kernel
theorem dX6_hasTractOfUnit_39 : decode cX6_hasTractOfUnit 39 = .ok (.goto (-37), 3) := by decide +kernel
theorem dX6_hasTractOfUnit_42 : decode cX6_hasTractOfUnit 42 = .ok (.iconst 0, 1) := by decide +kernel
theorem dX6_hasTractOfUnit_43 : decode cX6_hasTractOfUnit 43 = .ok (.ireturn, 1) := by decide +kernel
theorem dX6_hasBit_0 : decode cX6_hasBit 0 = .ok (.iload_n 0, 1) := by decide +kernel
theorem dX6_hasBit_1 : decode cX6_hasBit 1 = .ok (.iload_n 1, 1) := by decide +kernel
theorem dX6_hasBit_2 : decode cX6_hasBit 2 = .ok (.ishr, 1) := by decide +kernel
theorem dX6_hasBit_3 : decode cX6_hasBit 3 = .ok (.iconst 1, 1) := by decide +kernel
theorem dX6_hasBit_4 : decode cX6_hasBit 4 = .ok (.iand, 1) := by decide +kernel
theorem dX6_hasBit_5 : decode cX6_hasBit 5 = .ok (.ifCond .eq 7, 3) := by decide +kernel
theorem dX6_hasBit_8 : decode cX6_hasBit 8 = .ok (.iconst 1, 1) := by decide +kernel
theorem dX6_hasBit_9 : decode cX6_hasBit 9 = .ok (.goto 4, 3) := by decide +kernel
theorem dX6_hasBit_12 : decode cX6_hasBit 12 = .ok (.iconst 0, 1) := by decide +kernel
theorem dX6_hasBit_13 : decode cX6_hasBit 13 = .ok (.ireturn, 1) := by decide +kernel
theorem dX6_withBit_0 : decode cX6_withBit 0 = .ok (.iload_n 2, 1) := by decide +kernel
theorem dX6_withBit_1 : decode cX6_withBit 1 = .ok (.ifCond .eq 11, 3) := by decide +kernel
theorem dX6_withBit_4 : decode cX6_withBit 4 = .ok (.iload_n 0, 1) := by decide +kernel
theorem dX6_withBit_5 : decode cX6_withBit 5 = .ok (.iconst 1, 1) := by decide +kernel
theorem dX6_withBit_6 : decode cX6_withBit 6 = .ok (.iload_n 1, 1) := by decide +kernel
theorem dX6_withBit_7 : decode cX6_withBit 7 = .ok (.ishl, 1) := by decide +kernel
theorem dX6_withBit_8 : decode cX6_withBit 8 = .ok (.ior, 1) := by decide +kernel
theorem dX6_withBit_9 : decode cX6_withBit 9 = .ok (.goto 10, 3) := by decide +kernel
theorem dX6_withBit_12 : decode cX6_withBit 12 = .ok (.iload_n 0, 1) := by decide +kernel
theorem dX6_withBit_13 : decode cX6_withBit 13 = .ok (.iconst 1, 1) := by decide +kernel
theorem dX6_withBit_14 : decode cX6_withBit 14 = .ok (.iload_n 1, 1) := by decide +kernel
theorem dX6_withBit_15 : decode cX6_withBit 15 = .ok (.ishl, 1) := by decide +kernel
theorem dX6_withBit_16 : decode cX6_withBit 16 = .ok (.iconst (-1), 1) := by decide +kernel
theorem dX6_withBit_17 : decode cX6_withBit 17 = .ok (.ixor, 1) := by decide +kernel
theorem dX6_withBit_18 : decode cX6_withBit 18 = .ok (.iand, 1) := by decide +kernel
theorem dX6_withBit_19 : decode cX6_withBit 19 = .ok (.ireturn, 1) := by decide +kernel
theorem dX6_titleOf_0 : decode cX6_titleOf 0 = .ok (.aload_n 1, 1) := by decide +kernel
theorem dX6_titleOf_1 : decode cX6_titleOf 1 = .ok (.getfield 279, 3) := by decide +kernel
theorem dX6_titleOf_4 : decode cX6_titleOf 4 = .ok (.iload_n 2, 1) := by decide +kernel
theorem dX6_titleOf_5 : decode cX6_titleOf 5 = .ok (.if_icmp .ne 9, 3) := by decide +kernel
theorem dX6_titleOf_8 : decode cX6_titleOf 8 = .ok (.sipush 10000, 3) := by decide +kernel
theorem dX6_titleOf_11 : decode cX6_titleOf 11 = .ok (.goto 4, 3) := by decide +kernel
theorem dX6_titleOf_14 : decode cX6_titleOf 14 = .ok (.iconst 0, 1) := by decide +kernel
theorem dX6_titleOf_15 : decode cX6_titleOf 15 = .ok (.istore 4, 2) := by decide +kernel
theorem dX6_titleOf_17 : decode cX6_titleOf 17 = .ok (.aload_n 0, 1) := by decide +kernel
theorem dX6_titleOf_18 : decode cX6_titleOf 18 = .ok (.getfield 24, 3) := by decide +kernel
theorem dX6_titleOf_21 : decode cX6_titleOf 21 = .ok (.astore 5, 2) := by decide +kernel
theorem dX6_titleOf_23 : decode cX6_titleOf 23 = .ok (.aload 5, 2) := by decide +kernel
theorem dX6_titleOf_25 : decode cX6_titleOf 25 = .ok (.arraylength, 1) := by decide +kernel
theorem dX6_titleOf_26 : decode cX6_titleOf 26 = .ok (.istore 6, 2) := by decide +kernel
theorem dX6_titleOf_28 : decode cX6_titleOf 28 = .ok (.iconst 0, 1) := by decide +kernel
theorem dX6_titleOf_29 : decode cX6_titleOf 29 = .ok (.istore 7, 2) := by decide +kernel
theorem dX6_titleOf_31 : decode cX6_titleOf 31 = .ok (.iload 7, 2) := by decide +kernel
theorem dX6_titleOf_33 : decode cX6_titleOf 33 = .ok (.iload 6, 2) := by decide +kernel
theorem dX6_titleOf_35 : decode cX6_titleOf 35 = .ok (.if_icmp .ge 88, 3) := by decide +kernel
theorem dX6_titleOf_38 : decode cX6_titleOf 38 = .ok (.aload 5, 2) := by decide +kernel
theorem dX6_titleOf_40 : decode cX6_titleOf 40 = .ok (.iload 7, 2) := by decide +kernel
theorem dX6_titleOf_42 : decode cX6_titleOf 42 = .ok (.aaload, 1) := by decide +kernel
theorem dX6_titleOf_43 : decode cX6_titleOf 43 = .ok (.astore 8, 2) := by decide +kernel
theorem dX6_titleOf_45 : decode cX6_titleOf 45 = .ok (.aload 8, 2) := by decide +kernel
theorem dX6_titleOf_47 : decode cX6_titleOf 47 = .ok (.ifnonnull 6, 3) := by decide +kernel
theorem dX6_titleOf_50 : decode cX6_titleOf 50 = .ok (.goto 73, 3) := by decide +kernel
theorem dX6_titleOf_53 : decode cX6_titleOf 53 = .ok (.aload 8, 2) := by decide +kernel
theorem dX6_titleOf_55 : decode cX6_titleOf 55 = .ok (.getfield 282, 3) := by decide +kernel
theorem dX6_titleOf_58 : decode cX6_titleOf 58 = .ok (.aload_n 1, 1) := by decide +kernel
theorem dX6_titleOf_59 : decode cX6_titleOf 59 = .ok (.if_acmp .ne 58, 3) := by decide +kernel
theorem dX6_titleOf_62 : decode cX6_titleOf 62 = .ok (.aload 8, 2) := by decide +kernel
theorem dX6_titleOf_64 : decode cX6_titleOf 64 = .ok (.getfield 286, 3) := by decide +kernel
theorem dX6_titleOf_67 : decode cX6_titleOf 67 = .ok (.iload_n 3, 1) := by decide +kernel
theorem dX6_titleOf_68 : decode cX6_titleOf 68 = .ok (.if_icmp .gt 49, 3) := by decide +kernel
theorem dX6_titleOf_71 : decode cX6_titleOf 71 = .ok (.iload 4, 2) := by decide +kernel
theorem dX6_titleOf_73 : decode cX6_titleOf 73 = .ok (.aload 8, 2) := by decide +kernel
end
section
theorem dX6_titleOf_75 : decode cX6_titleOf 75 = .ok (.getfield 289, 3) := by decide +kernel
theorem dX6_titleOf_78 : decode cX6_titleOf 78 = .ok (.iload_n 2, 1) := by decide +kernel
theorem dX6_titleOf_79 : decode cX6_titleOf 79 = .ok (.if_icmp .ne 11, 3) := by decide +kernel
theorem dX6_titleOf_82 : decode cX6_titleOf 82 = .ok (.aload 8, 2) := by decide +kernel
theorem dX6_titleOf_84 : decode cX6_titleOf 84 = .ok (.getfield 292, 3) := by decide +kernel
theorem dX6_titleOf_87 : decode cX6_titleOf 87 = .ok (.goto 4, 3) := by decide +kernel
theorem dX6_titleOf_90 : decode cX6_titleOf 90 = .ok (.iconst 0, 1) := by decide +kernel
theorem dX6_titleOf_91 : decode cX6_titleOf 91 = .ok (.iadd, 1) := by decide +kernel
theorem dX6_titleOf_92 : decode cX6_titleOf 92 = .ok (.istore 4, 2) := by decide +kernel
theorem dX6_titleOf_94 : decode cX6_titleOf 94 = .ok (.iload 4, 2) := by decide +kernel
theorem dX6_titleOf_96 : decode cX6_titleOf 96 = .ok (.aload 8, 2) := by decide +kernel
theorem dX6_titleOf_98 : decode cX6_titleOf 98 = .ok (.getfield 294, 3) := by decide +kernel
theorem dX6_titleOf_101 : decode cX6_titleOf 101 = .ok (.iload_n 2, 1) := by decide +kernel
theorem dX6_titleOf_102 : decode cX6_titleOf 102 = .ok (.if_icmp .ne 11, 3) := by decide +kernel
theorem dX6_titleOf_105 : decode cX6_titleOf 105 = .ok (.aload 8, 2) := by decide +kernel
theorem dX6_titleOf_107 : decode cX6_titleOf 107 = .ok (.getfield 292, 3) := by decide +kernel
theorem dX6_titleOf_110 : decode cX6_titleOf 110 = .ok (.goto 4, 3) := by decide +kernel
theorem dX6_titleOf_113 : decode cX6_titleOf 113 = .ok (.iconst 0, 1) := by decide +kernel
theorem dX6_titleOf_114 : decode cX6_titleOf 114 = .ok (.isub, 1) := by decide +kernel
theorem dX6_titleOf_115 : decode cX6_titleOf 115 = .ok (.istore 4, 2) := by decide +kernel
theorem dX6_titleOf_117 : decode cX6_titleOf 117 = .ok (.iinc 7 1, 3) := by decide +kernel
theorem dX6_titleOf_120 : decode cX6_titleOf 120 = .ok (.goto (-89), 3) := by decide +kernel
theorem dX6_titleOf_123 : decode cX6_titleOf 123 = .ok (.iload 4, 2) := by decide +kernel
theorem dX6_titleOf_125 : decode cX6_titleOf 125 = .ok (.ireturn, 1) := by decide +kernel
set_option maxRecDepth 20000 in
theorem ggX6_leastTitle_X6_titleOf : GoodIn wsX6_leastTitle wsX6_titleOf := goodIn_r _ [10, 11, 12, 13, 14, 15, 16, 17, 38, 39, 40, 18, 19, 20, 21, 22, 23, 24, 25, 26, 27, 28, 29, 30, 31, 32, 33, 34, 35, 36, 37, 41, 42, 43, 44, 45] (by decide +kernel) (by decide +kernel)
set_option maxRecDepth 20000 in
theorem gX6_leastTitle_X6_titleOf : GoodIn wsX6_leastTitle (wsV RX6 144 RX6 yX6_titleOf wsX6_titleOf) := goodIn_app (goodIn_of _ (by decide +kernel)) ggX6_leastTitle_X6_titleOf
theorem dX6_leastTitle_0 : decode cX6_leastTitle 0 = .ok (.sipush 10000, 3) := by decide +kernel
theorem dX6_leastTitle_3 : decode cX6_leastTitle 3 = .ok (.istore 4, 2) := by decide +kernel
theorem dX6_leastTitle_5 : decode cX6_leastTitle 5 = .ok (.iload_n 3, 1) := by decide +kernel
theorem dX6_leastTitle_6 : decode cX6_leastTitle 6 = .ok (.istore 5, 2) := by decide +kernel
theorem dX6_leastTitle_8 : decode cX6_leastTitle 8 = .ok (.iload 5, 2) := by decide +kernel
theorem dX6_leastTitle_10 : decode cX6_leastTitle 10 = .ok (.aload_n 0, 1) := by decide +kernel
theorem dX6_leastTitle_11 : decode cX6_leastTitle 11 = .ok (.getfield 9, 3) := by decide +kernel
theorem dX6_leastTitle_14 : decode cX6_leastTitle 14 = .ok (.if_icmp .gt 24, 3) := by decide +kernel
theorem dX6_leastTitle_17 : decode cX6_leastTitle 17 = .ok (.iload 4, 2) := by decide +kernel
theorem dX6_leastTitle_19 : decode cX6_leastTitle 19 = .ok (.aload_n 0, 1) := by decide +kernel
theorem dX6_leastTitle_20 : decode cX6_leastTitle 20 = .ok (.aload_n 1, 1) := by decide +kernel
theorem dX6_leastTitle_21 : decode cX6_leastTitle 21 = .ok (.iload_n 2, 1) := by decide +kernel
theorem dX6_leastTitle_22 : decode cX6_leastTitle 22 = .ok (.iload 5, 2) := by decide +kernel
theorem dX6_leastTitle_24 : decode cX6_leastTitle 24 = .ok (.invokevirtual 144, 3) := by decide +kernel
theorem dX6_leastTitle_27 : decode cX6_leastTitle 27 = .ok (.invokestatic 297, 3) := by decide +kernel
theorem dX6_leastTitle_30 : decode cX6_leastTitle 30 = .ok (.istore 4, 2) := by decide +kernel
theorem dX6_leastTitle_32 : decode cX6_leastTitle 32 = .ok (.iinc 5 1, 3) := by decide +kernel
theorem dX6_leastTitle_35 : decode cX6_leastTitle 35 = .ok (.goto (-27), 3) := by decide +kernel
theorem dX6_leastTitle_38 : decode cX6_leastTitle 38 = .ok (.iload 4, 2) := by decide +kernel
theorem dX6_leastTitle_40 : decode cX6_leastTitle 40 = .ok (.ireturn, 1) := by decide +kernel
theorem dX6_readTitles_0 : decode cX6_readTitles 0 = .ok (.iconst 0, 1) := by decide +kernel
theorem dX6_readTitles_1 : decode cX6_readTitles 1 = .ok (.istore_n 3, 1) := by decide +kernel
theorem dX6_readTitles_2 : decode cX6_readTitles 2 = .ok (.iload_n 3, 1) := by decide +kernel
theorem dX6_readTitles_3 : decode cX6_readTitles 3 = .ok (.bipush 10, 2) := by decide +kernel
theorem dX6_readTitles_5 : decode cX6_readTitles 5 = .ok (.if_icmp .ge 30, 3) := by decide +kernel
theorem dX6_readTitles_8 : decode cX6_readTitles 8 = .ok (.aload_n 0, 1) := by decide +kernel
theorem dX6_readTitles_9 : decode cX6_readTitles 9 = .ok (.getfield 78, 3) := by decide +kernel
theorem dX6_readTitles_12 : decode cX6_readTitles 12 = .ok (.iload_n 3, 1) := by decide +kernel
theorem dX6_readTitles_13 : decode cX6_readTitles 13 = .ok (.aload_n 1, 1) := by decide +kernel
theorem dX6_readTitles_14 : decode cX6_readTitles 14 = .ok (.getfield 279, 3) := by decide +kernel
theorem dX6_readTitles_17 : decode cX6_readTitles 17 = .ok (.iload_n 3, 1) := by decide +kernel
theorem dX6_readTitles_18 : decode cX6_readTitles 18 = .ok (.if_icmp .ne 9, 3) := by decide +kernel
theorem dX6_readTitles_21 : decode cX6_readTitles 21 = .ok (.sipush 10000, 3) := by decide +kernel
theorem dX6_readTitles_24 : decode cX6_readTitles 24 = .ok (.goto 4, 3) := by decide +kernel
theorem dX6_readTitles_27 : decode cX6_readTitles 27 = .ok (.iconst 0, 1) := by decide +kernel
theorem dX6_readTitles_28 : decode cX6_readTitles 28 = .ok (.iastore, 1) := by decide +kernel
theorem dX6_readTitles_29 : decode cX6_readTitles 29 = .ok (.iinc 3 1, 3) := by decide +kernel
theorem dX6_readTitles_32 : decode cX6_readTitles 32 = .ok (.goto (-30), 3) := by decide +kernel
theorem dX6_readTitles_35 : decode cX6_readTitles 35 = .ok (.aload_n 0, 1) := by decide +kernel
theorem dX6_readTitles_36 : decode cX6_readTitles 36 = .ok (.getfield 24, 3) := by decide +kernel
theorem dX6_readTitles_39 : decode cX6_readTitles 39 = .ok (.astore_n 3, 1) := by decide +kernel
theorem dX6_readTitles_40 : decode cX6_readTitles 40 = .ok (.aload_n 3, 1) := by decide +kernel
theorem dX6_readTitles_41 : decode cX6_readTitles 41 = .ok (.arraylength, 1) := by decide +kernel
theorem dX6_readTitles_42 : decode cX6_readTitles 42 = .ok (.istore 4, 2) := by decide +kernel
theorem dX6_readTitles_44 : decode cX6_readTitles 44 = .ok (.iconst 0, 1) := by decide +kernel
theorem dX6_readTitles_45 : decode cX6_readTitles 45 = .ok (.istore 5, 2) := by decide +kernel
theorem dX6_readTitles_47 : decode cX6_readTitles 47 = .ok (.iload 5, 2) := by decide +kernel
theorem dX6_readTitles_49 : decode cX6_readTitles 49 = .ok (.iload 4, 2) := by decide +kernel
theorem dX6_readTitles_51 : decode cX6_readTitles 51 = .ok (.if_icmp .ge 77, 3) := by decide +kernel
theorem dX6_readTitles_54 : decode cX6_readTitles 54 = .ok (.aload_n 3, 1) := by decide +kernel
theorem dX6_readTitles_55 : decode cX6_readTitles 55 = .ok (.iload 5, 2) := by decide +kernel
theorem dX6_readTitles_57 : decode cX6_readTitles 57 = .ok (.aaload, 1) := by decide +kernel
theorem dX6_readTitles_58 : decode cX6_readTitles 58 = .ok (.astore 6, 2) := by decide +kernel
theorem dX6_readTitles_60 : decode cX6_readTitles 60 = .ok (.aload 6, 2) := by decide +kernel
theorem dX6_readTitles_62 : decode cX6_readTitles 62 = .ok (.ifnonnull 6, 3) := by decide +kernel
theorem dX6_readTitles_65 : decode cX6_readTitles 65 = .ok (.goto 63, 3) := by decide +kernel
theorem dX6_readTitles_68 : decode cX6_readTitles 68 = .ok (.aload 6, 2) := by decide +kernel
theorem dX6_readTitles_70 : decode cX6_readTitles 70 = .ok (.getfield 282, 3) := by decide +kernel
theorem dX6_readTitles_73 : decode cX6_readTitles 73 = .ok (.aload_n 1, 1) := by decide +kernel
theorem dX6_readTitles_74 : decode cX6_readTitles 74 = .ok (.if_acmp .ne 48, 3) := by decide +kernel
theorem dX6_readTitles_77 : decode cX6_readTitles 77 = .ok (.aload 6, 2) := by decide +kernel
theorem dX6_readTitles_79 : decode cX6_readTitles 79 = .ok (.getfield 286, 3) := by decide +kernel
theorem dX6_readTitles_82 : decode cX6_readTitles 82 = .ok (.iload_n 2, 1) := by decide +kernel
theorem dX6_readTitles_83 : decode cX6_readTitles 83 = .ok (.if_icmp .gt 39, 3) := by decide +kernel
theorem dX6_readTitles_86 : decode cX6_readTitles 86 = .ok (.aload_n 0, 1) := by decide +kernel
theorem dX6_readTitles_87 : decode cX6_readTitles 87 = .ok (.getfield 78, 3) := by decide +kernel
theorem dX6_readTitles_90 : decode cX6_readTitles 90 = .ok (.aload 6, 2) := by decide +kernel
theorem dX6_readTitles_92 : decode cX6_readTitles 92 = .ok (.getfield 294, 3) := by decide +kernel
theorem dX6_readTitles_95 : decode cX6_readTitles 95 = .ok (.dup2, 1) := by decide +kernel
theorem dX6_readTitles_96 : decode cX6_readTitles 96 = .ok (.iaload, 1) := by decide +kernel
theorem dX6_readTitles_97 : decode cX6_readTitles 97 = .ok (.aload 6, 2) := by decide +kernel
theorem dX6_readTitles_99 : decode cX6_readTitles 99 = .ok (.getfield 292, 3) := by decide +kernel
theorem dX6_readTitles_102 : decode cX6_readTitles 102 = .ok (.isub, 1) := by decide +kernel
theorem dX6_readTitles_103 : decode cX6_readTitles 103 = .ok (.iastore, 1) := by decide +kernel
theorem dX6_readTitles_104 : decode cX6_readTitles 104 = .ok (.aload_n 0, 1) := by decide +kernel
theorem dX6_readTitles_105 : decode cX6_readTitles 105 = .ok (.getfield 78, 3) := by decide +kernel
theorem dX6_readTitles_108 : decode cX6_readTitles 108 = .ok (.aload 6, 2) := by decide +kernel
theorem dX6_readTitles_110 : decode cX6_readTitles 110 = .ok (.getfield 289, 3) := by decide +kernel
theorem dX6_readTitles_113 : decode cX6_readTitles 113 = .ok (.dup2, 1) := by decide +kernel
theorem dX6_readTitles_114 : decode cX6_readTitles 114 = .ok (.iaload, 1) := by decide +kernel
theorem dX6_readTitles_115 : decode cX6_readTitles 115 = .ok (.aload 6, 2) := by decide +kernel
theorem dX6_readTitles_117 : decode cX6_readTitles 117 = .ok (.getfield 292, 3) := by decide +kernel
theorem dX6_readTitles_120 : decode cX6_readTitles 120 = .ok (.iadd, 1) := by decide +kernel
theorem dX6_readTitles_121 : decode cX6_readTitles 121 = .ok (.iastore, 1) := by decide +kernel
theorem dX6_readTitles_122 : decode cX6_readTitles 122 = .ok (.iinc 5 1, 3) := by decide +kernel
theorem dX6_readTitles_125 : decode cX6_readTitles 125 = .ok (.goto (-78), 3) := by decide +kernel
theorem dX6_readTitles_128 : decode cX6_readTitles 128 = .ok (.return_, 1) := by decide +kernel
theorem dX6_taxIn_0 : decode cX6_taxIn 0 = .ok (.iload_n 1, 1) := by decide +kernel
theorem dX6_taxIn_1 : decode cX6_taxIn 1 = .ok (.istore_n 2, 1) := by decide +kernel
theorem dX6_taxIn_2 : decode cX6_taxIn 2 = .ok (.iload_n 2, 1) := by decide +kernel
theorem dX6_taxIn_3 : decode cX6_taxIn 3 = .ok (.ifCond .lt 26, 3) := by decide +kernel
theorem dX6_taxIn_6 : decode cX6_taxIn 6 = .ok (.aload_n 0, 1) := by decide +kernel
theorem dX6_taxIn_7 : decode cX6_taxIn 7 = .ok (.getfield 58, 3) := by decide +kernel
theorem dX6_taxIn_10 : decode cX6_taxIn 10 = .ok (.iload_n 2, 1) := by decide +kernel
theorem dX6_taxIn_11 : decode cX6_taxIn 11 = .ok (.iaload, 1) := by decide +kernel
theorem dX6_taxIn_12 : decode cX6_taxIn 12 = .ok (.iconst (-1), 1) := by decide +kernel
theorem dX6_taxIn_13 : decode cX6_taxIn 13 = .ok (.if_icmp .eq 10, 3) := by decide +kernel
theorem dX6_taxIn_16 : decode cX6_taxIn 16 = .ok (.aload_n 0, 1) := by decide +kernel
theorem dX6_taxIn_17 : decode cX6_taxIn 17 = .ok (.getfield 58, 3) := by decide +kernel
theorem dX6_taxIn_20 : decode cX6_taxIn 20 = .ok (.iload_n 2, 1) := by decide +kernel
theorem dX6_taxIn_21 : decode cX6_taxIn 21 = .ok (.iaload, 1) := by decide +kernel
theorem dX6_taxIn_22 : decode cX6_taxIn 22 = .ok (.ireturn, 1) := by decide +kernel
theorem dX6_taxIn_23 : decode cX6_taxIn 23 = .ok (.iinc 2 (-1), 3) := by decide +kernel
theorem dX6_taxIn_26 : decode cX6_taxIn 26 = .ok (.goto (-24), 3) := by decide +kernel
theorem dX6_taxIn_29 : decode cX6_taxIn 29 = .ok (.iconst 0, 1) := by decide +kernel
theorem dX6_taxIn_30 : decode cX6_taxIn 30 = .ok (.ireturn, 1) := by decide +kernel
set_option maxRecDepth 20000 in
theorem ggX6_revenueOf_X6_taxIn : GoodIn wsX6_revenueOf wsX6_taxIn := goodIn_r _ [7, 8, 16, 17, 18, 19, 20, 21, 22, 23, 24, 25, 26, 27, 28, 29, 30, 31, 32, 33, 34, 35] (by decide +kernel) (by decide +kernel)
set_option maxRecDepth 20000 in
theorem gX6_revenueOf_X6_taxIn : GoodIn wsX6_revenueOf (wsV RX6 227 RX6 yX6_taxIn wsX6_taxIn) := goodIn_app (goodIn_of _ (by decide +kernel)) ggX6_revenueOf_X6_taxIn
theorem dX6_revenueOf_0 : decode cX6_revenueOf 0 = .ok (.aload_n 1, 1) := by decide +kernel
theorem dX6_revenueOf_1 : decode cX6_revenueOf 1 = .ok (.getfield 303, 3) := by decide +kernel
theorem dX6_revenueOf_4 : decode cX6_revenueOf 4 = .ok (.iload_n 2, 1) := by decide +kernel
theorem dX6_revenueOf_5 : decode cX6_revenueOf 5 = .ok (.iaload, 1) := by decide +kernel
theorem dX6_revenueOf_6 : decode cX6_revenueOf 6 = .ok (.i2l, 1) := by decide +kernel
theorem dX6_revenueOf_7 : decode cX6_revenueOf 7 = .ok (.lstore_n 3, 1) := by decide +kernel
theorem dX6_revenueOf_8 : decode cX6_revenueOf 8 = .ok (.lload_n 3, 1) := by decide +kernel
theorem dX6_revenueOf_9 : decode cX6_revenueOf 9 = .ok (.lload_n 3, 1) := by decide +kernel
theorem dX6_revenueOf_10 : decode cX6_revenueOf 10 = .ok (.aload_n 0, 1) := by decide +kernel
theorem dX6_revenueOf_11 : decode cX6_revenueOf 11 = .ok (.iload_n 2, 1) := by decide +kernel
theorem dX6_revenueOf_12 : decode cX6_revenueOf 12 = .ok (.invokevirtual 227, 3) := by decide +kernel
theorem dX6_revenueOf_15 : decode cX6_revenueOf 15 = .ok (.i2l, 1) := by decide +kernel
theorem dX6_revenueOf_16 : decode cX6_revenueOf 16 = .ok (.lmul, 1) := by decide +kernel
theorem dX6_revenueOf_17 : decode cX6_revenueOf 17 = .ok (.ldc2_w 306, 3) := by decide +kernel
theorem dX6_revenueOf_20 : decode cX6_revenueOf 20 = .ok (.ldiv, 1) := by decide +kernel
theorem dX6_revenueOf_21 : decode cX6_revenueOf 21 = .ok (.lsub, 1) := by decide +kernel
theorem dX6_revenueOf_22 : decode cX6_revenueOf 22 = .ok (.lreturn, 1) := by decide +kernel
set_option maxRecDepth 20000 in
theorem ggX6_layDeck_X2_clear : GoodIn wsX6_layDeck wsX2_clear := goodIn_r _ [8, 9, 72, 73, 74] (by decide +kernel) (by decide +kernel)
set_option maxRecDepth 20000 in
theorem gX6_layDeck_X2_clear : GoodIn wsX6_layDeck (wsV RX6 308 RX2 yX2_clear wsX2_clear) := goodIn_app (goodIn_of _ (by decide +kernel)) ggX6_layDeck_X2_clear
set_option maxRecDepth 20000 in
theorem ggX6_layDeck_X6_layTract : GoodIn wsX6_layDeck wsX6_layTract := goodIn_r _ [14, 15, 16, 1, 17, 18, 19, 20, 21, 22, 23, 13, 24, 25, 26, 27, 28, 29, 30, 31, 32, 33, 34, 35, 36, 37, 38, 39, 40, 41, 42, 43, 44, 45, 46, 47, 48, 49, 50, 51, 52, 53, 54, 55, 56, 57, 58, 59, 60, 61, 62, 63, 64, 65, 66, 67, 68, 69, 70, 71, 72, 73, 74, 75, 76, 77, 78, 79, 80, 81, 82, 83, 84, 85, 86, 87, 88, 89, 90, 91, 92] (by decide +kernel) (by decide +kernel)
set_option maxRecDepth 20000 in
theorem gX6_layDeck_X6_layTract : GoodIn wsX6_layDeck (wsV RX6 311 RX6 yX6_layTract wsX6_layTract) := goodIn_app (goodIn_of _ (by decide +kernel)) ggX6_layDeck_X6_layTract
theorem dX6_layDeck_0 : decode cX6_layDeck 0 = .ok (.aload_n 0, 1) := by decide +kernel
theorem dX6_layDeck_1 : decode cX6_layDeck 1 = .ok (.getfield 86, 3) := by decide +kernel
theorem dX6_layDeck_4 : decode cX6_layDeck 4 = .ok (.invokevirtual 308, 3) := by decide +kernel
theorem dX6_layDeck_7 : decode cX6_layDeck 7 = .ok (.aload_n 0, 1) := by decide +kernel
theorem dX6_layDeck_8 : decode cX6_layDeck 8 = .ok (.getfield 15, 3) := by decide +kernel
theorem dX6_layDeck_11 : decode cX6_layDeck 11 = .ok (.astore_n 3, 1) := by decide +kernel
theorem dX6_layDeck_12 : decode cX6_layDeck 12 = .ok (.aload_n 3, 1) := by decide +kernel
theorem dX6_layDeck_13 : decode cX6_layDeck 13 = .ok (.arraylength, 1) := by decide +kernel
theorem dX6_layDeck_14 : decode cX6_layDeck 14 = .ok (.istore 4, 2) := by decide +kernel
theorem dX6_layDeck_16 : decode cX6_layDeck 16 = .ok (.iconst 0, 1) := by decide +kernel
theorem dX6_layDeck_17 : decode cX6_layDeck 17 = .ok (.istore 5, 2) := by decide +kernel
theorem dX6_layDeck_19 : decode cX6_layDeck 19 = .ok (.iload 5, 2) := by decide +kernel
theorem dX6_layDeck_21 : decode cX6_layDeck 21 = .ok (.iload 4, 2) := by decide +kernel
theorem dX6_layDeck_23 : decode cX6_layDeck 23 = .ok (.if_icmp .ge 39, 3) := by decide +kernel
theorem dX6_layDeck_26 : decode cX6_layDeck 26 = .ok (.aload_n 3, 1) := by decide +kernel
theorem dX6_layDeck_27 : decode cX6_layDeck 27 = .ok (.iload 5, 2) := by decide +kernel
theorem dX6_layDeck_29 : decode cX6_layDeck 29 = .ok (.aaload, 1) := by decide +kernel
theorem dX6_layDeck_30 : decode cX6_layDeck 30 = .ok (.astore 6, 2) := by decide +kernel
theorem dX6_layDeck_32 : decode cX6_layDeck 32 = .ok (.aload 6, 2) := by decide +kernel
theorem dX6_layDeck_34 : decode cX6_layDeck 34 = .ok (.ifnonnull 6, 3) := by decide +kernel
theorem dX6_layDeck_37 : decode cX6_layDeck 37 = .ok (.goto 25, 3) := by decide +kernel
theorem dX6_layDeck_40 : decode cX6_layDeck 40 = .ok (.aload 6, 2) := by decide +kernel
theorem dX6_layDeck_42 : decode cX6_layDeck 42 = .ok (.getfield 179, 3) := by decide +kernel
theorem dX6_layDeck_45 : decode cX6_layDeck 45 = .ok (.aload_n 1, 1) := by decide +kernel
theorem dX6_layDeck_46 : decode cX6_layDeck 46 = .ok (.if_acmp .ne 10, 3) := by decide +kernel
theorem dX6_layDeck_49 : decode cX6_layDeck 49 = .ok (.aload_n 0, 1) := by decide +kernel
theorem dX6_layDeck_50 : decode cX6_layDeck 50 = .ok (.aload 6, 2) := by decide +kernel
theorem dX6_layDeck_52 : decode cX6_layDeck 52 = .ok (.iload_n 2, 1) := by decide +kernel
theorem dX6_layDeck_53 : decode cX6_layDeck 53 = .ok (.invokevirtual 311, 3) := by decide +kernel
theorem dX6_layDeck_56 : decode cX6_layDeck 56 = .ok (.iinc 5 1, 3) := by decide +kernel
theorem dX6_layDeck_59 : decode cX6_layDeck 59 = .ok (.goto (-40), 3) := by decide +kernel
theorem dX6_layDeck_62 : decode cX6_layDeck 62 = .ok (.return_, 1) := by decide +kernel
set_option maxRecDepth 20000 in
theorem ggX6_layTract_X6_readTitles : GoodIn wsX6_layTract wsX6_readTitles := goodIn_r _ [12, 1, 13, 14, 15, 16, 17, 18, 19, 37, 38, 39, 40, 41, 42, 43, 44, 45, 46, 47, 48, 49, 50, 51, 52, 53, 54, 55, 56, 57, 58, 59, 69, 70, 71, 72, 73] (by decide +kernel) (by decide +kernel)
set_option maxRecDepth 20000 in
theorem gX6_layTract_X6_readTitles : GoodIn wsX6_layTract (wsV RX6 315 RX6 yX6_readTitles wsX6_readTitles) := goodIn_app (goodIn_of _ (by decide +kernel)) ggX6_layTract_X6_readTitles
set_option maxRecDepth 20000 in
theorem ggX6_layTract_X6_leaseThatCounts : GoodIn wsX6_layTract wsX6_leaseThatCounts := goodIn_r _ [23, 24, 25, 26, 27, 28, 29, 30, 31, 32, 33, 34, 35, 36, 37, 38, 39, 40, 41, 42, 43, 44, 45, 46, 47, 48, 49, 50, 51, 52, 53, 54, 55, 56, 63, 64, 65, 66, 67, 68, 57, 58, 59, 74, 75, 76, 77, 78, 79, 80] (by decide +kernel) (by decide +kernel)
set_option maxRecDepth 20000 in
theorem gX6_layTract_X6_leaseThatCounts : GoodIn wsX6_layTract (wsV RX6 321 RX6 yX6_leaseThatCounts wsX6_leaseThatCounts) := goodIn_app (goodIn_of _ (by decide +kernel)) ggX6_layTract_X6_leaseThatCounts
theorem dX6_layTract_0 : decode cX6_layTract 0 = .ok (.aload_n 0, 1) := by decide +kernel
theorem dX6_layTract_1 : decode cX6_layTract 1 = .ok (.aload_n 1, 1) := by decide +kernel
theorem dX6_layTract_2 : decode cX6_layTract 2 = .ok (.iload_n 2, 1) := by decide +kernel
theorem dX6_layTract_3 : decode cX6_layTract 3 = .ok (.invokevirtual 315, 3) := by decide +kernel
theorem dX6_layTract_6 : decode cX6_layTract 6 = .ok (.iconst 0, 1) := by decide +kernel
theorem dX6_layTract_7 : decode cX6_layTract 7 = .ok (.istore_n 3, 1) := by decide +kernel
theorem dX6_layTract_8 : decode cX6_layTract 8 = .ok (.iload_n 3, 1) := by decide +kernel
theorem dX6_layTract_9 : decode cX6_layTract 9 = .ok (.bipush 10, 2) := by decide +kernel
theorem dX6_layTract_11 : decode cX6_layTract 11 = .ok (.if_icmp .ge 124, 3) := by decide +kernel
theorem dX6_layTract_14 : decode cX6_layTract 14 = .ok (.aload_n 0, 1) := by decide +kernel
theorem dX6_layTract_15 : decode cX6_layTract 15 = .ok (.getfield 78, 3) := by decide +kernel
theorem dX6_layTract_18 : decode cX6_layTract 18 = .ok (.iload_n 3, 1) := by decide +kernel
theorem dX6_layTract_19 : decode cX6_layTract 19 = .ok (.iaload, 1) := by decide +kernel
theorem dX6_layTract_20 : decode cX6_layTract 20 = .ok (.ifCond .le 109, 3) := by decide +kernel
theorem dX6_layTract_23 : decode cX6_layTract 23 = .ok (.aload_n 1, 1) := by decide +kernel
theorem dX6_layTract_24 : decode cX6_layTract 24 = .ok (.getfield 318, 3) := by decide +kernel
theorem dX6_layTract_27 : decode cX6_layTract 27 = .ok (.i2l, 1) := by decide +kernel
theorem dX6_layTract_28 : decode cX6_layTract 28 = .ok (.aload_n 0, 1) := by decide +kernel
theorem dX6_layTract_29 : decode cX6_layTract 29 = .ok (.getfield 78, 3) := by decide +kernel
theorem dX6_layTract_32 : decode cX6_layTract 32 = .ok (.iload_n 3, 1) := by decide +kernel
theorem dX6_layTract_33 : decode cX6_layTract 33 = .ok (.iaload, 1) := by decide +kernel
theorem dX6_layTract_34 : decode cX6_layTract 34 = .ok (.i2l, 1) := by decide +kernel
theorem dX6_layTract_35 : decode cX6_layTract 35 = .ok (.lmul, 1) := by decide +kernel
theorem dX6_layTract_36 : decode cX6_layTract 36 = .ok (.lstore 4, 2) := by decide +kernel
theorem dX6_layTract_38 : decode cX6_layTract 38 = .ok (.aload_n 0, 1) := by decide +kernel
theorem dX6_layTract_39 : decode cX6_layTract 39 = .ok (.aload_n 1, 1) := by decide +kernel
theorem dX6_layTract_40 : decode cX6_layTract 40 = .ok (.iload_n 3, 1) := by decide +kernel
theorem dX6_layTract_41 : decode cX6_layTract 41 = .ok (.iload_n 2, 1) := by decide +kernel
theorem dX6_layTract_42 : decode cX6_layTract 42 = .ok (.invokevirtual 321, 3) := by decide +kernel
theorem dX6_layTract_45 : decode cX6_layTract 45 = .ok (.astore 6, 2) := by decide +kernel
theorem dX6_layTract_47 : decode cX6_layTract 47 = .ok (.aload 6, 2) := by decide +kernel
theorem dX6_layTract_49 : decode cX6_layTract 49 = .ok (.ifnonnull 27, 3) := by decide +kernel
theorem dX6_layTract_52 : decode cX6_layTract 52 = .ok (.aload_n 0, 1) := by decide +kernel
theorem dX6_layTract_53 : decode cX6_layTract 53 = .ok (.getfield 86, 3) := by decide +kernel
theorem dX6_layTract_56 : decode cX6_layTract 56 = .ok (.getfield 325, 3) := by decide +kernel
theorem dX6_layTract_59 : decode cX6_layTract 59 = .ok (.bipush 10, 2) := by decide +kernel
theorem dX6_layTract_61 : decode cX6_layTract 61 = .ok (.iload_n 3, 1) := by decide +kernel
theorem dX6_layTract_62 : decode cX6_layTract 62 = .ok (.iadd, 1) := by decide +kernel
theorem dX6_layTract_63 : decode cX6_layTract 63 = .ok (.dup2, 1) := by decide +kernel
theorem dX6_layTract_64 : decode cX6_layTract 64 = .ok (.laload, 1) := by decide +kernel
theorem dX6_layTract_65 : decode cX6_layTract 65 = .ok (.lload 4, 2) := by decide +kernel
theorem dX6_layTract_67 : decode cX6_layTract 67 = .ok (.ldc2_w 328, 3) := by decide +kernel
theorem dX6_layTract_70 : decode cX6_layTract 70 = .ok (.lmul, 1) := by decide +kernel
theorem dX6_layTract_71 : decode cX6_layTract 71 = .ok (.ladd, 1) := by decide +kernel
theorem dX6_layTract_72 : decode cX6_layTract 72 = .ok (.lastore, 1) := by decide +kernel
theorem dX6_layTract_73 : decode cX6_layTract 73 = .ok (.goto 56, 3) := by decide +kernel
theorem dX6_layTract_76 : decode cX6_layTract 76 = .ok (.aload_n 0, 1) := by decide +kernel
theorem dX6_layTract_77 : decode cX6_layTract 77 = .ok (.getfield 86, 3) := by decide +kernel
theorem dX6_layTract_80 : decode cX6_layTract 80 = .ok (.getfield 325, 3) := by decide +kernel
theorem dX6_layTract_83 : decode cX6_layTract 83 = .ok (.iload_n 3, 1) := by decide +kernel
theorem dX6_layTract_84 : decode cX6_layTract 84 = .ok (.dup2, 1) := by decide +kernel
theorem dX6_layTract_85 : decode cX6_layTract 85 = .ok (.laload, 1) := by decide +kernel
theorem dX6_layTract_86 : decode cX6_layTract 86 = .ok (.lload 4, 2) := by decide +kernel
theorem dX6_layTract_88 : decode cX6_layTract 88 = .ok (.aload 6, 2) := by decide +kernel
theorem dX6_layTract_90 : decode cX6_layTract 90 = .ok (.getfield 330, 3) := by decide +kernel
theorem dX6_layTract_93 : decode cX6_layTract 93 = .ok (.i2l, 1) := by decide +kernel
theorem dX6_layTract_94 : decode cX6_layTract 94 = .ok (.lmul, 1) := by decide +kernel
theorem dX6_layTract_95 : decode cX6_layTract 95 = .ok (.ladd, 1) := by decide +kernel
theorem dX6_layTract_96 : decode cX6_layTract 96 = .ok (.lastore, 1) := by decide +kernel
theorem dX6_layTract_97 : decode cX6_layTract 97 = .ok (.aload_n 0, 1) := by decide +kernel
theorem dX6_layTract_98 : decode cX6_layTract 98 = .ok (.getfield 86, 3) := by decide +kernel
theorem dX6_layTract_101 : decode cX6_layTract 101 = .ok (.getfield 325, 3) := by decide +kernel
theorem dX6_layTract_104 : decode cX6_layTract 104 = .ok (.bipush 10, 2) := by decide +kernel
theorem dX6_layTract_106 : decode cX6_layTract 106 = .ok (.aload 6, 2) := by decide +kernel
theorem dX6_layTract_108 : decode cX6_layTract 108 = .ok (.getfield 333, 3) := by decide +kernel
theorem dX6_layTract_111 : decode cX6_layTract 111 = .ok (.iadd, 1) := by decide +kernel
theorem dX6_layTract_112 : decode cX6_layTract 112 = .ok (.dup2, 1) := by decide +kernel
theorem dX6_layTract_113 : decode cX6_layTract 113 = .ok (.laload, 1) := by decide +kernel
theorem dX6_layTract_114 : decode cX6_layTract 114 = .ok (.lload 4, 2) := by decide +kernel
theorem dX6_layTract_116 : decode cX6_layTract 116 = .ok (.sipush 1000, 3) := by decide +kernel
theorem dX6_layTract_119 : decode cX6_layTract 119 = .ok (.aload 6, 2) := by decide +kernel
theorem dX6_layTract_121 : decode cX6_layTract 121 = .ok (.getfield 330, 3) := by decide +kernel
theorem dX6_layTract_124 : decode cX6_layTract 124 = .ok (.isub, 1) := by decide +kernel
theorem dX6_layTract_125 : decode cX6_layTract 125 = .ok (.i2l, 1) := by decide +kernel
theorem dX6_layTract_126 : decode cX6_layTract 126 = .ok (.lmul, 1) := by decide +kernel
theorem dX6_layTract_127 : decode cX6_layTract 127 = .ok (.ladd, 1) := by decide +kernel
theorem dX6_layTract_128 : decode cX6_layTract 128 = .ok (.lastore, 1) := by decide +kernel
theorem dX6_layTract_129 : decode cX6_layTract 129 = .ok (.iinc 3 1, 3) := by decide +kernel
theorem dX6_layTract_132 : decode cX6_layTract 132 = .ok (.goto (-124), 3) := by decide +kernel
theorem dX6_layTract_135 : decode cX6_layTract 135 = .ok (.return_, 1) := by decide +kernel
set_option maxRecDepth 20000 in
theorem ggX6_leaseThatCounts_X1_isInForce : GoodIn wsX6_leaseThatCounts wsX1_isInForce := goodIn_r _ [8, 9, 10, 11, 12, 13, 34, 35, 36, 37, 38, 39, 40, 41, 42, 43, 44, 45, 46, 47, 48, 49] (by decide +kernel) (by decide +kernel)
set_option maxRecDepth 20000 in
theorem gX6_leaseThatCounts_X1_isInForce : GoodIn wsX6_leaseThatCounts (wsV RX6 164 RX1 yX1_isInForce wsX1_isInForce) := goodIn_app (goodIn_of _ (by decide +kernel)) ggX6_leaseThatCounts_X1_isInForce
theorem dX6_leaseThatCounts_0 : decode cX6_leaseThatCounts 0 = .ok (.aload_n 0, 1) := by decide +kernel
theorem dX6_leaseThatCounts_1 : decode cX6_leaseThatCounts 1 = .ok (.getfield 33, 3) := by decide +kernel
theorem dX6_leaseThatCounts_4 : decode cX6_leaseThatCounts 4 = .ok (.astore 4, 2) := by decide +kernel
theorem dX6_leaseThatCounts_6 : decode cX6_leaseThatCounts 6 = .ok (.aload 4, 2) := by decide +kernel
theorem dX6_leaseThatCounts_8 : decode cX6_leaseThatCounts 8 = .ok (.arraylength, 1) := by decide +kernel
theorem dX6_leaseThatCounts_9 : decode cX6_leaseThatCounts 9 = .ok (.istore 5, 2) := by decide +kernel
theorem dX6_leaseThatCounts_11 : decode cX6_leaseThatCounts 11 = .ok (.iconst 0, 1) := by decide +kernel
theorem dX6_leaseThatCounts_12 : decode cX6_leaseThatCounts 12 = .ok (.istore 6, 2) := by decide +kernel
theorem dX6_leaseThatCounts_14 : decode cX6_leaseThatCounts 14 = .ok (.iload 6, 2) := by decide +kernel
theorem dX6_leaseThatCounts_16 : decode cX6_leaseThatCounts 16 = .ok (.iload 5, 2) := by decide +kernel
theorem dX6_leaseThatCounts_18 : decode cX6_leaseThatCounts 18 = .ok (.if_icmp .ge 54, 3) := by decide +kernel
theorem dX6_leaseThatCounts_21 : decode cX6_leaseThatCounts 21 = .ok (.aload 4, 2) := by decide +kernel
theorem dX6_leaseThatCounts_23 : decode cX6_leaseThatCounts 23 = .ok (.iload 6, 2) := by decide +kernel
theorem dX6_leaseThatCounts_25 : decode cX6_leaseThatCounts 25 = .ok (.aaload, 1) := by decide +kernel
theorem dX6_leaseThatCounts_26 : decode cX6_leaseThatCounts 26 = .ok (.astore 7, 2) := by decide +kernel
theorem dX6_leaseThatCounts_28 : decode cX6_leaseThatCounts 28 = .ok (.aload 7, 2) := by decide +kernel
theorem dX6_leaseThatCounts_30 : decode cX6_leaseThatCounts 30 = .ok (.ifnonnull 6, 3) := by decide +kernel
theorem dX6_leaseThatCounts_33 : decode cX6_leaseThatCounts 33 = .ok (.goto 39, 3) := by decide +kernel
theorem dX6_leaseThatCounts_36 : decode cX6_leaseThatCounts 36 = .ok (.aload 7, 2) := by decide +kernel
theorem dX6_leaseThatCounts_38 : decode cX6_leaseThatCounts 38 = .ok (.getfield 336, 3) := by decide +kernel
theorem dX6_leaseThatCounts_41 : decode cX6_leaseThatCounts 41 = .ok (.aload_n 1, 1) := by decide +kernel
theorem dX6_leaseThatCounts_42 : decode cX6_leaseThatCounts 42 = .ok (.if_acmp .ne 24, 3) := by decide +kernel
theorem dX6_leaseThatCounts_45 : decode cX6_leaseThatCounts 45 = .ok (.aload 7, 2) := by decide +kernel
theorem dX6_leaseThatCounts_47 : decode cX6_leaseThatCounts 47 = .ok (.getfield 337, 3) := by decide +kernel
theorem dX6_leaseThatCounts_50 : decode cX6_leaseThatCounts 50 = .ok (.iload_n 2, 1) := by decide +kernel
theorem dX6_leaseThatCounts_51 : decode cX6_leaseThatCounts 51 = .ok (.if_icmp .ne 15, 3) := by decide +kernel
theorem dX6_leaseThatCounts_54 : decode cX6_leaseThatCounts 54 = .ok (.aload 7, 2) := by decide +kernel
theorem dX6_leaseThatCounts_56 : decode cX6_leaseThatCounts 56 = .ok (.iload_n 3, 1) := by decide +kernel
theorem dX6_leaseThatCounts_57 : decode cX6_leaseThatCounts 57 = .ok (.invokevirtual 164, 3) := by decide +kernel
theorem dX6_leaseThatCounts_60 : decode cX6_leaseThatCounts 60 = .ok (.ifCond .eq 6, 3) := by decide +kernel
theorem dX6_leaseThatCounts_63 : decode cX6_leaseThatCounts 63 = .ok (.aload 7, 2) := by decide +kernel
theorem dX6_leaseThatCounts_65 : decode cX6_leaseThatCounts 65 = .ok (.areturn, 1) := by decide +kernel
theorem dX6_leaseThatCounts_66 : decode cX6_leaseThatCounts 66 = .ok (.iinc 6 1, 3) := by decide +kernel
theorem dX6_leaseThatCounts_69 : decode cX6_leaseThatCounts 69 = .ok (.goto (-55), 3) := by decide +kernel
theorem dX6_leaseThatCounts_72 : decode cX6_leaseThatCounts 72 = .ok (.aconst_null, 1) := by decide +kernel
theorem dX6_leaseThatCounts_73 : decode cX6_leaseThatCounts 73 = .ok (.areturn, 1) := by decide +kernel
theorem dX6_unsettle_0 : decode cX6_unsettle 0 = .ok (.aload_n 0, 1) := by decide +kernel
theorem dX6_unsettle_1 : decode cX6_unsettle 1 = .ok (.aload_n 0, 1) := by decide +kernel
theorem dX6_unsettle_2 : decode cX6_unsettle 2 = .ok (.getfield 75, 3) := by decide +kernel
theorem dX6_unsettle_5 : decode cX6_unsettle 5 = .ok (.iload_n 1, 1) := by decide +kernel
theorem dX6_unsettle_6 : decode cX6_unsettle 6 = .ok (.invokestatic 297, 3) := by decide +kernel
theorem dX6_unsettle_9 : decode cX6_unsettle 9 = .ok (.putfield 75, 3) := by decide +kernel
theorem dX6_unsettle_12 : decode cX6_unsettle 12 = .ok (.return_, 1) := by decide +kernel
set_option maxRecDepth 20000 in
theorem ggX6_settle_X6_settleMonth : GoodIn wsX6_settle wsX6_settleMonth := goodIn_r _ [9, 10, 11, 12, 13, 14, 15, 16, 17, 18, 19, 20, 21, 22, 8, 23, 24, 25, 26, 27, 28, 29, 30, 31, 32, 33, 34, 35, 36, 37, 38, 39, 40, 41, 42, 43, 44, 45, 46, 47, 48, 49, 50, 51, 52, 53, 54, 55, 56, 57, 58, 59, 60, 61, 62, 63, 64, 65, 66, 67, 68, 69, 70, 71, 72, 73, 74, 75, 76, 77, 78, 79, 80, 81, 82, 83, 84, 85, 86, 87, 88, 89, 90, 91, 92, 93, 94, 95, 96, 97, 98, 99, 100, 101, 102, 103, 104, 105, 106, 107, 108, 109, 110, 111, 112, 113, 114, 115, 116, 117, 118, 119, 120, 121, 122, 123, 144, 145, 146, 147, 148, 149, 150, 124, 125, 126, 127, 128, 129, 130, 131, 132, 133, 134, 135, 136, 137, 138, 139, 140, 141, 142, 143, 151, 152, 153, 154, 155, 156, 157, 158, 159, 160, 161, 162, 163, 164, 165, 166, 167] (by decide +kernel) (by decide +kernel)
set_option maxRecDepth 20000 in
theorem gX6_settle_X6_settleMonth : GoodIn wsX6_settle (wsV RX6 340 RX6 yX6_settleMonth wsX6_settleMonth) := goodIn_app (goodIn_of _ (by decide +kernel)) ggX6_settle_X6_settleMonth
theorem dX6_settle_0 : decode cX6_settle 0 = .ok (.aload_n 0, 1) := by decide +kernel
theorem dX6_settle_1 : decode cX6_settle 1 = .ok (.getfield 75, 3) := by decide +kernel
theorem dX6_settle_4 : decode cX6_settle 4 = .ok (.istore_n 1, 1) := by decide +kernel
theorem dX6_settle_5 : decode cX6_settle 5 = .ok (.iload_n 1, 1) := by decide +kernel
theorem dX6_settle_6 : decode cX6_settle 6 = .ok (.aload_n 0, 1) := by decide +kernel
theorem dX6_settle_7 : decode cX6_settle 7 = .ok (.getfield 9, 3) := by decide +kernel
theorem dX6_settle_10 : decode cX6_settle 10 = .ok (.if_icmp .gt 59, 3) := by decide +kernel
theorem dX6_settle_13 : decode cX6_settle 13 = .ok (.aload_n 0, 1) := by decide +kernel
theorem dX6_settle_14 : decode cX6_settle 14 = .ok (.getfield 42, 3) := by decide +kernel
theorem dX6_settle_17 : decode cX6_settle 17 = .ok (.astore_n 2, 1) := by decide +kernel
theorem dX6_settle_18 : decode cX6_settle 18 = .ok (.aload_n 2, 1) := by decide +kernel
theorem dX6_settle_19 : decode cX6_settle 19 = .ok (.arraylength, 1) := by decide +kernel
theorem dX6_settle_20 : decode cX6_settle 20 = .ok (.istore_n 3, 1) := by decide +kernel
theorem dX6_settle_21 : decode cX6_settle 21 = .ok (.iconst 0, 1) := by decide +kernel
theorem dX6_settle_22 : decode cX6_settle 22 = .ok (.istore 4, 2) := by decide +kernel
theorem dX6_settle_24 : decode cX6_settle 24 = .ok (.iload 4, 2) := by decide +kernel
theorem dX6_settle_26 : decode cX6_settle 26 = .ok (.iload_n 3, 1) := by decide +kernel
theorem dX6_settle_27 : decode cX6_settle 27 = .ok (.if_icmp .ge 36, 3) := by decide +kernel
theorem dX6_settle_30 : decode cX6_settle 30 = .ok (.aload_n 2, 1) := by decide +kernel
theorem dX6_settle_31 : decode cX6_settle 31 = .ok (.iload 4, 2) := by decide +kernel
theorem dX6_settle_33 : decode cX6_settle 33 = .ok (.aaload, 1) := by decide +kernel
theorem dX6_settle_34 : decode cX6_settle 34 = .ok (.astore 5, 2) := by decide +kernel
theorem dX6_settle_36 : decode cX6_settle 36 = .ok (.aload 5, 2) := by decide +kernel
theorem dX6_settle_38 : decode cX6_settle 38 = .ok (.ifnull 19, 3) := by decide +kernel
theorem dX6_settle_41 : decode cX6_settle 41 = .ok (.aload 5, 2) := by decide +kernel
theorem dX6_settle_43 : decode cX6_settle 43 = .ok (.getfield 203, 3) := by decide +kernel
theorem dX6_settle_46 : decode cX6_settle 46 = .ok (.iload_n 1, 1) := by decide +kernel
theorem dX6_settle_47 : decode cX6_settle 47 = .ok (.if_icmp .gt 10, 3) := by decide +kernel
theorem dX6_settle_50 : decode cX6_settle 50 = .ok (.aload_n 0, 1) := by decide +kernel
theorem dX6_settle_51 : decode cX6_settle 51 = .ok (.aload 5, 2) := by decide +kernel
theorem dX6_settle_53 : decode cX6_settle 53 = .ok (.iload_n 1, 1) := by decide +kernel
theorem dX6_settle_54 : decode cX6_settle 54 = .ok (.invokevirtual 340, 3) := by decide +kernel
theorem dX6_settle_57 : decode cX6_settle 57 = .ok (.iinc 4 1, 3) := by decide +kernel
theorem dX6_settle_60 : decode cX6_settle 60 = .ok (.goto (-36), 3) := by decide +kernel
theorem dX6_settle_63 : decode cX6_settle 63 = .ok (.iinc 1 1, 3) := by decide +kernel
theorem dX6_settle_66 : decode cX6_settle 66 = .ok (.goto (-61), 3) := by decide +kernel
theorem dX6_settle_69 : decode cX6_settle 69 = .ok (.aload_n 0, 1) := by decide +kernel
theorem dX6_settle_70 : decode cX6_settle 70 = .ok (.aload_n 0, 1) := by decide +kernel
theorem dX6_settle_71 : decode cX6_settle 71 = .ok (.getfield 9, 3) := by decide +kernel
theorem dX6_settle_74 : decode cX6_settle 74 = .ok (.iconst 1, 1) := by decide +kernel
theorem dX6_settle_75 : decode cX6_settle 75 = .ok (.iadd, 1) := by decide +kernel
theorem dX6_settle_76 : decode cX6_settle 76 = .ok (.putfield 75, 3) := by decide +kernel
theorem dX6_settle_79 : decode cX6_settle 79 = .ok (.return_, 1) := by decide +kernel
set_option maxRecDepth 20000 in
theorem ggX6_settleMonth_X4_openMonth : GoodIn wsX6_settleMonth wsX4_openMonth := goodIn_r _ [7, 8, 9, 10, 116, 117, 118, 119, 120, 121, 122] (by decide +kernel) (by decide +kernel)
set_option maxRecDepth 20000 in
theorem gX6_settleMonth_X4_openMonth : GoodIn wsX6_settleMonth (wsV RX6 343 RX4 yX4_openMonth wsX4_openMonth) := goodIn_app (goodIn_of _ (by decide +kernel)) ggX6_settleMonth_X4_openMonth
set_option maxRecDepth 20000 in
theorem ggX6_settleMonth_X6_layDeck : GoodIn wsX6_settleMonth wsX6_layDeck := goodIn_r _ [15, 16, 17, 18, 19, 20, 21, 22, 23, 24, 25, 26, 27, 14, 28, 29, 30, 31, 32, 33, 34, 35, 36, 37, 38, 39, 40, 41, 42, 43, 44, 45, 46, 47, 48, 49, 50, 51, 52, 53, 54, 55, 56, 57, 58, 59, 60, 61, 62, 123, 124, 125, 126, 127, 128, 129, 130, 131, 132, 133, 134, 135, 136, 137, 138, 139, 140, 141, 142, 143, 144, 145, 146, 147, 148, 149, 150, 151, 152, 153, 154, 155, 156, 157, 158, 159, 116, 117, 118, 119, 120, 121, 122] (by decide +kernel) (by decide +kernel)
set_option maxRecDepth 20000 in
theorem gX6_settleMonth_X6_layDeck : GoodIn wsX6_settleMonth (wsV RX6 246 RX6 yX6_layDeck wsX6_layDeck) := goodIn_app (goodIn_of _ (by decide +kernel)) ggX6_settleMonth_X6_layDeck
set_option maxRecDepth 20000 in
theorem ggX6_settleMonth_X6_carriedOwners : GoodIn wsX6_settleMonth wsX6_carriedOwners := goodIn_r _ [66, 16, 31, 67, 68, 69, 70, 14, 71, 72, 73, 74, 123, 124, 125, 126, 127, 128, 129, 130, 131, 132, 133, 134, 135, 136, 137, 138, 139, 140, 141, 142, 146, 147, 148, 116, 117, 118, 119, 120, 121, 122] (by decide +kernel) (by decide +kernel)
set_option maxRecDepth 20000 in
theorem gX6_settleMonth_X6_carriedOwners : GoodIn wsX6_settleMonth (wsV RX6 346 RX6 yX6_carriedOwners wsX6_carriedOwners) := goodIn_app (goodIn_of _ (by decide +kernel)) ggX6_settleMonth_X6_carriedOwners
set_option maxRecDepth 20000 in
theorem ggX6_settleMonth_X6_bookCosts : GoodIn wsX6_settleMonth wsX6_bookCosts := goodIn_r _ [78, 2, 68, 79, 80, 81, 82, 83, 84, 85, 86, 14, 87, 31, 16, 69, 70, 71, 88, 89, 90, 22, 91, 24, 92, 93, 94, 95, 96, 97, 98, 116, 117, 118, 119, 120, 121, 122, 123, 124, 125, 126, 127, 128, 129, 130, 131, 132, 133, 134, 135, 136, 137, 138, 139, 140, 141, 142, 146, 147, 148] (by decide +kernel) (by decide +kernel)
set_option maxRecDepth 20000 in
theorem gX6_settleMonth_X6_bookCosts : GoodIn wsX6_settleMonth (wsV RX6 350 RX6 yX6_bookCosts wsX6_bookCosts) := goodIn_app (goodIn_of _ (by decide +kernel)) ggX6_settleMonth_X6_bookCosts
set_option maxRecDepth 20000 in
theorem ggX6_settleMonth_X6_bookRevenue : GoodIn wsX6_settleMonth wsX6_bookRevenue := goodIn_r _ [102, 16, 80, 68, 103, 104, 105, 106, 83, 79, 107, 108, 109, 14, 110, 1, 82, 111, 112, 113, 114, 115, 88, 89, 90, 22, 91, 24, 92, 93, 94, 95, 96, 97, 98, 69, 70, 71, 84, 85, 86, 87, 31, 123, 124, 125, 126, 127, 128, 129, 130, 131, 132, 133, 134, 135, 136, 137, 138, 139, 140, 141, 142, 146, 147, 148, 116, 117, 118, 119, 120, 121, 122] (by decide +kernel) (by decide +kernel)
set_option maxRecDepth 20000 in
theorem gX6_settleMonth_X6_bookRevenue : GoodIn wsX6_settleMonth (wsV RX6 354 RX6 yX6_bookRevenue wsX6_bookRevenue) := goodIn_app (goodIn_of _ (by decide +kernel)) ggX6_settleMonth_X6_bookRevenue
theorem dX6_settleMonth_0 : decode cX6_settleMonth 0 = .ok (.aload_n 1, 1) := by decide +kernel
theorem dX6_settleMonth_1 : decode cX6_settleMonth 1 = .ok (.iload_n 2, 1) := by decide +kernel
theorem dX6_settleMonth_2 : decode cX6_settleMonth 2 = .ok (.invokevirtual 343, 3) := by decide +kernel
theorem dX6_settleMonth_5 : decode cX6_settleMonth 5 = .ok (.aload_n 1, 1) := by decide +kernel
theorem dX6_settleMonth_6 : decode cX6_settleMonth 6 = .ok (.getfield 303, 3) := by decide +kernel
theorem dX6_settleMonth_9 : decode cX6_settleMonth 9 = .ok (.iload_n 2, 1) := by decide +kernel
theorem dX6_settleMonth_10 : decode cX6_settleMonth 10 = .ok (.iaload, 1) := by decide +kernel
theorem dX6_settleMonth_11 : decode cX6_settleMonth 11 = .ok (.ifCond .ne 13, 3) := by decide +kernel
theorem dX6_settleMonth_14 : decode cX6_settleMonth 14 = .ok (.aload_n 1, 1) := by decide +kernel
theorem dX6_settleMonth_15 : decode cX6_settleMonth 15 = .ok (.getfield 222, 3) := by decide +kernel
theorem dX6_settleMonth_18 : decode cX6_settleMonth 18 = .ok (.iload_n 2, 1) := by decide +kernel
theorem dX6_settleMonth_19 : decode cX6_settleMonth 19 = .ok (.iaload, 1) := by decide +kernel
theorem dX6_settleMonth_20 : decode cX6_settleMonth 20 = .ok (.ifCond .ne 4, 3) := by decide +kernel
theorem dX6_settleMonth_23 : decode cX6_settleMonth 23 = .ok (.return_, 1) := by decide +kernel
theorem dX6_settleMonth_24 : decode cX6_settleMonth 24 = .ok (.aload_n 0, 1) := by decide +kernel
theorem dX6_settleMonth_25 : decode cX6_settleMonth 25 = .ok (.aload_n 1, 1) := by decide +kernel
theorem dX6_settleMonth_26 : decode cX6_settleMonth 26 = .ok (.iload_n 2, 1) := by decide +kernel
theorem dX6_settleMonth_27 : decode cX6_settleMonth 27 = .ok (.invokevirtual 246, 3) := by decide +kernel
theorem dX6_settleMonth_30 : decode cX6_settleMonth 30 = .ok (.aload_n 0, 1) := by decide +kernel
theorem dX6_settleMonth_31 : decode cX6_settleMonth 31 = .ok (.aload_n 1, 1) := by decide +kernel
theorem dX6_settleMonth_32 : decode cX6_settleMonth 32 = .ok (.iload_n 2, 1) := by decide +kernel
theorem dX6_settleMonth_33 : decode cX6_settleMonth 33 = .ok (.invokevirtual 346, 3) := by decide +kernel
theorem dX6_settleMonth_36 : decode cX6_settleMonth 36 = .ok (.istore_n 3, 1) := by decide +kernel
theorem dX6_settleMonth_37 : decode cX6_settleMonth 37 = .ok (.aload_n 0, 1) := by decide +kernel
theorem dX6_settleMonth_38 : decode cX6_settleMonth 38 = .ok (.aload_n 1, 1) := by decide +kernel
theorem dX6_settleMonth_39 : decode cX6_settleMonth 39 = .ok (.iload_n 2, 1) := by decide +kernel
theorem dX6_settleMonth_40 : decode cX6_settleMonth 40 = .ok (.iload_n 3, 1) := by decide +kernel
theorem dX6_settleMonth_41 : decode cX6_settleMonth 41 = .ok (.invokevirtual 350, 3) := by decide +kernel
theorem dX6_settleMonth_44 : decode cX6_settleMonth 44 = .ok (.aload_n 0, 1) := by decide +kernel
theorem dX6_settleMonth_45 : decode cX6_settleMonth 45 = .ok (.aload_n 1, 1) := by decide +kernel
theorem dX6_settleMonth_46 : decode cX6_settleMonth 46 = .ok (.iload_n 2, 1) := by decide +kernel
theorem dX6_settleMonth_47 : decode cX6_settleMonth 47 = .ok (.iload_n 3, 1) := by decide +kernel
theorem dX6_settleMonth_48 : decode cX6_settleMonth 48 = .ok (.invokevirtual 354, 3) := by decide +kernel
theorem dX6_settleMonth_51 : decode cX6_settleMonth 51 = .ok (.return_, 1) := by decide +kernel
set_option maxRecDepth 20000 in
theorem ggX6_carriedOwners_X6_hasBit : GoodIn wsX6_carriedOwners wsX6_hasBit := goodIn_r _ [8] (by decide +kernel) (by decide +kernel)
set_option maxRecDepth 20000 in
theorem gX6_carriedOwners_X6_hasBit : GoodIn wsX6_carriedOwners (va_wsS RX6 175 yX6_hasBit wsX6_hasBit) := goodIn_app (goodIn_of _ (by decide +kernel)) ggX6_carriedOwners_X6_hasBit
set_option maxRecDepth 20000 in
theorem ggX6_carriedOwners_X6_withBit : GoodIn wsX6_carriedOwners wsX6_withBit := goodIn_r _ [11] (by decide +kernel) (by decide +kernel)
set_option maxRecDepth 20000 in
theorem gX6_carriedOwners_X6_withBit : GoodIn wsX6_carriedOwners (va_wsS RX6 236 yX6_withBit wsX6_withBit) := goodIn_app (goodIn_of _ (by decide +kernel)) ggX6_carriedOwners_X6_withBit
theorem dX6_carriedOwners_0 : decode cX6_carriedOwners 0 = .ok (.iconst 0, 1) := by decide +kernel
theorem dX6_carriedOwners_1 : decode cX6_carriedOwners 1 = .ok (.istore_n 3, 1) := by decide +kernel
theorem dX6_carriedOwners_2 : decode cX6_carriedOwners 2 = .ok (.iconst 0, 1) := by decide +kernel
theorem dX6_carriedOwners_3 : decode cX6_carriedOwners 3 = .ok (.istore 4, 2) := by decide +kernel
theorem dX6_carriedOwners_5 : decode cX6_carriedOwners 5 = .ok (.iconst 0, 1) := by decide +kernel
theorem dX6_carriedOwners_6 : decode cX6_carriedOwners 6 = .ok (.istore 5, 2) := by decide +kernel
theorem dX6_carriedOwners_8 : decode cX6_carriedOwners 8 = .ok (.iload 5, 2) := by decide +kernel
theorem dX6_carriedOwners_10 : decode cX6_carriedOwners 10 = .ok (.bipush 10, 2) := by decide +kernel
theorem dX6_carriedOwners_12 : decode cX6_carriedOwners 12 = .ok (.if_icmp .ge 84, 3) := by decide +kernel
theorem dX6_carriedOwners_15 : decode cX6_carriedOwners 15 = .ok (.aload_n 0, 1) := by decide +kernel
theorem dX6_carriedOwners_16 : decode cX6_carriedOwners 16 = .ok (.getfield 86, 3) := by decide +kernel
end
section
theorem dX6_carriedOwners_19 : decode cX6_carriedOwners 19 = .ok (.getfield 325, 3) := by decide +kernel
theorem dX6_carriedOwners_22 : decode cX6_carriedOwners 22 = .ok (.bipush 10, 2) := by decide +kernel
theorem dX6_carriedOwners_24 : decode cX6_carriedOwners 24 = .ok (.iload 5, 2) := by decide +kernel
theorem dX6_carriedOwners_26 : decode cX6_carriedOwners 26 = .ok (.iadd, 1) := by decide +kernel
theorem dX6_carriedOwners_27 : decode cX6_carriedOwners 27 = .ok (.laload, 1) := by decide +kernel
theorem dX6_carriedOwners_28 : decode cX6_carriedOwners 28 = .ok (.lconst 0, 1) := by decide +kernel
theorem dX6_carriedOwners_29 : decode cX6_carriedOwners 29 = .ok (.lcmp, 1) := by decide +kernel
theorem dX6_carriedOwners_30 : decode cX6_carriedOwners 30 = .ok (.ifCond .le 60, 3) := by decide +kernel
theorem dX6_carriedOwners_33 : decode cX6_carriedOwners 33 = .ok (.aload_n 1, 1) := by decide +kernel
theorem dX6_carriedOwners_34 : decode cX6_carriedOwners 34 = .ok (.getfield 233, 3) := by decide +kernel
theorem dX6_carriedOwners_37 : decode cX6_carriedOwners 37 = .ok (.iload_n 2, 1) := by decide +kernel
theorem dX6_carriedOwners_38 : decode cX6_carriedOwners 38 = .ok (.iaload, 1) := by decide +kernel
theorem dX6_carriedOwners_39 : decode cX6_carriedOwners 39 = .ok (.iload 5, 2) := by decide +kernel
theorem dX6_carriedOwners_41 : decode cX6_carriedOwners 41 = .ok (.invokestatic 175, 3) := by decide +kernel
theorem dX6_carriedOwners_44 : decode cX6_carriedOwners 44 = .ok (.ifCond .ne 20, 3) := by decide +kernel
theorem dX6_carriedOwners_47 : decode cX6_carriedOwners 47 = .ok (.aload_n 1, 1) := by decide +kernel
theorem dX6_carriedOwners_48 : decode cX6_carriedOwners 48 = .ok (.getfield 271, 3) := by decide +kernel
theorem dX6_carriedOwners_51 : decode cX6_carriedOwners 51 = .ok (.iload_n 2, 1) := by decide +kernel
theorem dX6_carriedOwners_52 : decode cX6_carriedOwners 52 = .ok (.bipush 10, 2) := by decide +kernel
theorem dX6_carriedOwners_54 : decode cX6_carriedOwners 54 = .ok (.imul, 1) := by decide +kernel
theorem dX6_carriedOwners_55 : decode cX6_carriedOwners 55 = .ok (.iload 5, 2) := by decide +kernel
theorem dX6_carriedOwners_57 : decode cX6_carriedOwners 57 = .ok (.iadd, 1) := by decide +kernel
theorem dX6_carriedOwners_58 : decode cX6_carriedOwners 58 = .ok (.laload, 1) := by decide +kernel
theorem dX6_carriedOwners_59 : decode cX6_carriedOwners 59 = .ok (.lconst 0, 1) := by decide +kernel
theorem dX6_carriedOwners_60 : decode cX6_carriedOwners 60 = .ok (.lcmp, 1) := by decide +kernel
theorem dX6_carriedOwners_61 : decode cX6_carriedOwners 61 = .ok (.ifCond .le 7, 3) := by decide +kernel
theorem dX6_carriedOwners_64 : decode cX6_carriedOwners 64 = .ok (.iconst 1, 1) := by decide +kernel
theorem dX6_carriedOwners_65 : decode cX6_carriedOwners 65 = .ok (.goto 4, 3) := by decide +kernel
theorem dX6_carriedOwners_68 : decode cX6_carriedOwners 68 = .ok (.iconst 0, 1) := by decide +kernel
theorem dX6_carriedOwners_69 : decode cX6_carriedOwners 69 = .ok (.istore 6, 2) := by decide +kernel
theorem dX6_carriedOwners_71 : decode cX6_carriedOwners 71 = .ok (.iload_n 3, 1) := by decide +kernel
theorem dX6_carriedOwners_72 : decode cX6_carriedOwners 72 = .ok (.iload 5, 2) := by decide +kernel
theorem dX6_carriedOwners_74 : decode cX6_carriedOwners 74 = .ok (.iconst 1, 1) := by decide +kernel
theorem dX6_carriedOwners_75 : decode cX6_carriedOwners 75 = .ok (.invokestatic 236, 3) := by decide +kernel
theorem dX6_carriedOwners_78 : decode cX6_carriedOwners 78 = .ok (.istore_n 3, 1) := by decide +kernel
theorem dX6_carriedOwners_79 : decode cX6_carriedOwners 79 = .ok (.iload 4, 2) := by decide +kernel
theorem dX6_carriedOwners_81 : decode cX6_carriedOwners 81 = .ok (.iload 5, 2) := by decide +kernel
theorem dX6_carriedOwners_83 : decode cX6_carriedOwners 83 = .ok (.iload 6, 2) := by decide +kernel
theorem dX6_carriedOwners_85 : decode cX6_carriedOwners 85 = .ok (.invokestatic 236, 3) := by decide +kernel
theorem dX6_carriedOwners_88 : decode cX6_carriedOwners 88 = .ok (.istore 4, 2) := by decide +kernel
theorem dX6_carriedOwners_90 : decode cX6_carriedOwners 90 = .ok (.iinc 5 1, 3) := by decide +kernel
theorem dX6_carriedOwners_93 : decode cX6_carriedOwners 93 = .ok (.goto (-85), 3) := by decide +kernel
theorem dX6_carriedOwners_96 : decode cX6_carriedOwners 96 = .ok (.iload 4, 2) := by decide +kernel
theorem dX6_carriedOwners_98 : decode cX6_carriedOwners 98 = .ok (.iload_n 3, 1) := by decide +kernel
theorem dX6_carriedOwners_99 : decode cX6_carriedOwners 99 = .ok (.if_icmp .ne 7, 3) := by decide +kernel
theorem dX6_carriedOwners_102 : decode cX6_carriedOwners 102 = .ok (.iconst 0, 1) := by decide +kernel
theorem dX6_carriedOwners_103 : decode cX6_carriedOwners 103 = .ok (.goto 5, 3) := by decide +kernel
theorem dX6_carriedOwners_106 : decode cX6_carriedOwners 106 = .ok (.iload 4, 2) := by decide +kernel
theorem dX6_carriedOwners_108 : decode cX6_carriedOwners 108 = .ok (.ireturn, 1) := by decide +kernel
set_option maxRecDepth 20000 in
theorem ggX6_bookCosts_X6_partByWorking : GoodIn wsX6_bookCosts wsX6_partByWorking := goodIn_r _ [12, 3, 13, 14, 15, 16, 11, 17, 18, 19, 20, 21, 22, 23, 24, 25, 26, 27, 28, 29, 30, 38, 39, 40, 41, 42, 43, 44, 45, 46, 47, 48, 49, 50, 51, 52, 53, 54, 55, 56, 57, 58, 59, 60] (by decide +kernel) (by decide +kernel)
set_option maxRecDepth 20000 in
theorem gX6_bookCosts_X6_partByWorking : GoodIn wsX6_bookCosts (wsV RX6 357 RX6 yX6_partByWorking wsX6_partByWorking) := goodIn_app (goodIn_of _ (by decide +kernel)) ggX6_bookCosts_X6_partByWorking
set_option maxRecDepth 20000 in
theorem ggX6_bookCosts_X6_hasBit : GoodIn wsX6_bookCosts wsX6_hasBit := goodIn_r _ [17] (by decide +kernel) (by decide +kernel)
set_option maxRecDepth 20000 in
theorem gX6_bookCosts_X6_hasBit : GoodIn wsX6_bookCosts (va_wsS RX6 175 yX6_hasBit wsX6_hasBit) := goodIn_app (goodIn_of _ (by decide +kernel)) ggX6_bookCosts_X6_hasBit
theorem dX6_bookCosts_0 : decode cX6_bookCosts 0 = .ok (.iload_n 2, 1) := by decide +kernel
theorem dX6_bookCosts_1 : decode cX6_bookCosts 1 = .ok (.bipush 10, 2) := by decide +kernel
theorem dX6_bookCosts_3 : decode cX6_bookCosts 3 = .ok (.imul, 1) := by decide +kernel
theorem dX6_bookCosts_4 : decode cX6_bookCosts 4 = .ok (.istore 4, 2) := by decide +kernel
theorem dX6_bookCosts_6 : decode cX6_bookCosts 6 = .ok (.aload_n 0, 1) := by decide +kernel
theorem dX6_bookCosts_7 : decode cX6_bookCosts 7 = .ok (.aload_n 1, 1) := by decide +kernel
theorem dX6_bookCosts_8 : decode cX6_bookCosts 8 = .ok (.getfield 222, 3) := by decide +kernel
theorem dX6_bookCosts_11 : decode cX6_bookCosts 11 = .ok (.iload_n 2, 1) := by decide +kernel
theorem dX6_bookCosts_12 : decode cX6_bookCosts 12 = .ok (.iaload, 1) := by decide +kernel
theorem dX6_bookCosts_13 : decode cX6_bookCosts 13 = .ok (.i2l, 1) := by decide +kernel
theorem dX6_bookCosts_14 : decode cX6_bookCosts 14 = .ok (.iconst 0, 1) := by decide +kernel
theorem dX6_bookCosts_15 : decode cX6_bookCosts 15 = .ok (.invokevirtual 357, 3) := by decide +kernel
theorem dX6_bookCosts_18 : decode cX6_bookCosts 18 = .ok (.iconst 0, 1) := by decide +kernel
theorem dX6_bookCosts_19 : decode cX6_bookCosts 19 = .ok (.istore 5, 2) := by decide +kernel
theorem dX6_bookCosts_21 : decode cX6_bookCosts 21 = .ok (.iload 5, 2) := by decide +kernel
theorem dX6_bookCosts_23 : decode cX6_bookCosts 23 = .ok (.bipush 10, 2) := by decide +kernel
theorem dX6_bookCosts_25 : decode cX6_bookCosts 25 = .ok (.if_icmp .ge 51, 3) := by decide +kernel
theorem dX6_bookCosts_28 : decode cX6_bookCosts 28 = .ok (.iload_n 3, 1) := by decide +kernel
theorem dX6_bookCosts_29 : decode cX6_bookCosts 29 = .ok (.iload 5, 2) := by decide +kernel
theorem dX6_bookCosts_31 : decode cX6_bookCosts 31 = .ok (.invokestatic 175, 3) := by decide +kernel
theorem dX6_bookCosts_34 : decode cX6_bookCosts 34 = .ok (.ifCond .eq 36, 3) := by decide +kernel
theorem dX6_bookCosts_37 : decode cX6_bookCosts 37 = .ok (.aload_n 1, 1) := by decide +kernel
theorem dX6_bookCosts_38 : decode cX6_bookCosts 38 = .ok (.getfield 271, 3) := by decide +kernel
theorem dX6_bookCosts_41 : decode cX6_bookCosts 41 = .ok (.iload 4, 2) := by decide +kernel
theorem dX6_bookCosts_43 : decode cX6_bookCosts 43 = .ok (.iload 5, 2) := by decide +kernel
theorem dX6_bookCosts_45 : decode cX6_bookCosts 45 = .ok (.iadd, 1) := by decide +kernel
theorem dX6_bookCosts_46 : decode cX6_bookCosts 46 = .ok (.dup2, 1) := by decide +kernel
theorem dX6_bookCosts_47 : decode cX6_bookCosts 47 = .ok (.laload, 1) := by decide +kernel
theorem dX6_bookCosts_48 : decode cX6_bookCosts 48 = .ok (.aload_n 0, 1) := by decide +kernel
theorem dX6_bookCosts_49 : decode cX6_bookCosts 49 = .ok (.getfield 90, 3) := by decide +kernel
theorem dX6_bookCosts_52 : decode cX6_bookCosts 52 = .ok (.getfield 256, 3) := by decide +kernel
theorem dX6_bookCosts_55 : decode cX6_bookCosts 55 = .ok (.iload 5, 2) := by decide +kernel
theorem dX6_bookCosts_57 : decode cX6_bookCosts 57 = .ok (.laload, 1) := by decide +kernel
theorem dX6_bookCosts_58 : decode cX6_bookCosts 58 = .ok (.aload_n 0, 1) := by decide +kernel
theorem dX6_bookCosts_59 : decode cX6_bookCosts 59 = .ok (.getfield 62, 3) := by decide +kernel
theorem dX6_bookCosts_62 : decode cX6_bookCosts 62 = .ok (.i2l, 1) := by decide +kernel
theorem dX6_bookCosts_63 : decode cX6_bookCosts 63 = .ok (.lmul, 1) := by decide +kernel
theorem dX6_bookCosts_64 : decode cX6_bookCosts 64 = .ok (.ldc2_w 306, 3) := by decide +kernel
theorem dX6_bookCosts_67 : decode cX6_bookCosts 67 = .ok (.ldiv, 1) := by decide +kernel
theorem dX6_bookCosts_68 : decode cX6_bookCosts 68 = .ok (.ladd, 1) := by decide +kernel
theorem dX6_bookCosts_69 : decode cX6_bookCosts 69 = .ok (.lastore, 1) := by decide +kernel
theorem dX6_bookCosts_70 : decode cX6_bookCosts 70 = .ok (.iinc 5 1, 3) := by decide +kernel
theorem dX6_bookCosts_73 : decode cX6_bookCosts 73 = .ok (.goto (-52), 3) := by decide +kernel
theorem dX6_bookCosts_76 : decode cX6_bookCosts 76 = .ok (.aload_n 0, 1) := by decide +kernel
theorem dX6_bookCosts_77 : decode cX6_bookCosts 77 = .ok (.aload_n 1, 1) := by decide +kernel
theorem dX6_bookCosts_78 : decode cX6_bookCosts 78 = .ok (.getfield 222, 3) := by decide +kernel
theorem dX6_bookCosts_81 : decode cX6_bookCosts 81 = .ok (.iload_n 2, 1) := by decide +kernel
theorem dX6_bookCosts_82 : decode cX6_bookCosts 82 = .ok (.iaload, 1) := by decide +kernel
theorem dX6_bookCosts_83 : decode cX6_bookCosts 83 = .ok (.i2l, 1) := by decide +kernel
theorem dX6_bookCosts_84 : decode cX6_bookCosts 84 = .ok (.iload_n 3, 1) := by decide +kernel
theorem dX6_bookCosts_85 : decode cX6_bookCosts 85 = .ok (.invokevirtual 357, 3) := by decide +kernel
theorem dX6_bookCosts_88 : decode cX6_bookCosts 88 = .ok (.iconst 0, 1) := by decide +kernel
theorem dX6_bookCosts_89 : decode cX6_bookCosts 89 = .ok (.istore 5, 2) := by decide +kernel
theorem dX6_bookCosts_91 : decode cX6_bookCosts 91 = .ok (.iload 5, 2) := by decide +kernel
theorem dX6_bookCosts_93 : decode cX6_bookCosts 93 = .ok (.bipush 10, 2) := by decide +kernel
theorem dX6_bookCosts_95 : decode cX6_bookCosts 95 = .ok (.if_icmp .ge 32, 3) := by decide +kernel
theorem dX6_bookCosts_98 : decode cX6_bookCosts 98 = .ok (.aload_n 1, 1) := by decide +kernel
theorem dX6_bookCosts_99 : decode cX6_bookCosts 99 = .ok (.getfield 268, 3) := by decide +kernel
theorem dX6_bookCosts_102 : decode cX6_bookCosts 102 = .ok (.iload 4, 2) := by decide +kernel
theorem dX6_bookCosts_104 : decode cX6_bookCosts 104 = .ok (.iload 5, 2) := by decide +kernel
theorem dX6_bookCosts_106 : decode cX6_bookCosts 106 = .ok (.iadd, 1) := by decide +kernel
theorem dX6_bookCosts_107 : decode cX6_bookCosts 107 = .ok (.dup2, 1) := by decide +kernel
theorem dX6_bookCosts_108 : decode cX6_bookCosts 108 = .ok (.laload, 1) := by decide +kernel
theorem dX6_bookCosts_109 : decode cX6_bookCosts 109 = .ok (.aload_n 0, 1) := by decide +kernel
theorem dX6_bookCosts_110 : decode cX6_bookCosts 110 = .ok (.getfield 90, 3) := by decide +kernel
theorem dX6_bookCosts_113 : decode cX6_bookCosts 113 = .ok (.getfield 256, 3) := by decide +kernel
theorem dX6_bookCosts_116 : decode cX6_bookCosts 116 = .ok (.iload 5, 2) := by decide +kernel
theorem dX6_bookCosts_118 : decode cX6_bookCosts 118 = .ok (.laload, 1) := by decide +kernel
theorem dX6_bookCosts_119 : decode cX6_bookCosts 119 = .ok (.lsub, 1) := by decide +kernel
theorem dX6_bookCosts_120 : decode cX6_bookCosts 120 = .ok (.lastore, 1) := by decide +kernel
theorem dX6_bookCosts_121 : decode cX6_bookCosts 121 = .ok (.iinc 5 1, 3) := by decide +kernel
theorem dX6_bookCosts_124 : decode cX6_bookCosts 124 = .ok (.goto (-33), 3) := by decide +kernel
theorem dX6_bookCosts_127 : decode cX6_bookCosts 127 = .ok (.return_, 1) := by decide +kernel
set_option maxRecDepth 20000 in
theorem ggX6_bookRevenue_X6_revenueOf : GoodIn wsX6_bookRevenue wsX6_revenueOf := goodIn_r _ [14, 15, 16, 17, 18, 19, 13, 20, 21, 66, 67, 68, 69, 70, 71, 72, 43, 44, 45, 46, 47, 48, 49, 50, 51, 52, 53, 54, 55, 56, 57, 58, 59, 60, 61, 62] (by decide +kernel) (by decide +kernel)
set_option maxRecDepth 20000 in
theorem gX6_bookRevenue_X6_revenueOf : GoodIn wsX6_bookRevenue (wsV RX6 261 RX6 yX6_revenueOf wsX6_revenueOf) := goodIn_app (goodIn_of _ (by decide +kernel)) ggX6_bookRevenue_X6_revenueOf
set_option maxRecDepth 20000 in
theorem ggX6_bookRevenue_X2_partOut : GoodIn wsX6_bookRevenue wsX2_partOut := goodIn_r _ [26, 27, 28, 29, 30, 31, 32, 25, 33, 34, 63, 64, 65] (by decide +kernel) (by decide +kernel)
set_option maxRecDepth 20000 in
theorem gX6_bookRevenue_X2_partOut : GoodIn wsX6_bookRevenue (wsV RX6 252 RX2 yX2_partOut wsX2_partOut) := goodIn_app (goodIn_of _ (by decide +kernel)) ggX6_bookRevenue_X2_partOut
set_option maxRecDepth 20000 in
theorem ggX6_bookRevenue_X6_hasBit : GoodIn wsX6_bookRevenue wsX6_hasBit := goodIn_r _ [37] (by decide +kernel) (by decide +kernel)
set_option maxRecDepth 20000 in
theorem gX6_bookRevenue_X6_hasBit : GoodIn wsX6_bookRevenue (va_wsS RX6 175 yX6_hasBit wsX6_hasBit) := goodIn_app (goodIn_of _ (by decide +kernel)) ggX6_bookRevenue_X6_hasBit
set_option maxRecDepth 20000 in
theorem ggX6_bookRevenue_X6_partByWorking : GoodIn wsX6_bookRevenue wsX6_partByWorking := goodIn_r _ [41, 9, 42, 1, 35, 36, 13, 37, 22, 23, 24, 25, 26, 27, 28, 29, 30, 31, 32, 33, 34, 43, 44, 45, 46, 47, 48, 49, 50, 51, 52, 53, 54, 55, 56, 57, 58, 59, 60, 61, 62, 63, 64, 65] (by decide +kernel) (by decide +kernel)
set_option maxRecDepth 20000 in
theorem gX6_bookRevenue_X6_partByWorking : GoodIn wsX6_bookRevenue (wsV RX6 357 RX6 yX6_partByWorking wsX6_partByWorking) := goodIn_app (goodIn_of _ (by decide +kernel)) ggX6_bookRevenue_X6_partByWorking
theorem dX6_bookRevenue_0 : decode cX6_bookRevenue 0 = .ok (.iload_n 2, 1) := by decide +kernel
theorem dX6_bookRevenue_1 : decode cX6_bookRevenue 1 = .ok (.bipush 10, 2) := by decide +kernel
theorem dX6_bookRevenue_3 : decode cX6_bookRevenue 3 = .ok (.imul, 1) := by decide +kernel
theorem dX6_bookRevenue_4 : decode cX6_bookRevenue 4 = .ok (.istore 4, 2) := by decide +kernel
theorem dX6_bookRevenue_6 : decode cX6_bookRevenue 6 = .ok (.lconst 0, 1) := by decide +kernel
theorem dX6_bookRevenue_7 : decode cX6_bookRevenue 7 = .ok (.lstore 5, 2) := by decide +kernel
theorem dX6_bookRevenue_9 : decode cX6_bookRevenue 9 = .ok (.aload_n 0, 1) := by decide +kernel
theorem dX6_bookRevenue_10 : decode cX6_bookRevenue 10 = .ok (.getfield 86, 3) := by decide +kernel
theorem dX6_bookRevenue_13 : decode cX6_bookRevenue 13 = .ok (.aload_n 0, 1) := by decide +kernel
theorem dX6_bookRevenue_14 : decode cX6_bookRevenue 14 = .ok (.aload_n 1, 1) := by decide +kernel
theorem dX6_bookRevenue_15 : decode cX6_bookRevenue 15 = .ok (.iload_n 2, 1) := by decide +kernel
theorem dX6_bookRevenue_16 : decode cX6_bookRevenue 16 = .ok (.invokevirtual 261, 3) := by decide +kernel
theorem dX6_bookRevenue_19 : decode cX6_bookRevenue 19 = .ok (.invokevirtual 252, 3) := by decide +kernel
theorem dX6_bookRevenue_22 : decode cX6_bookRevenue 22 = .ok (.iconst 0, 1) := by decide +kernel
theorem dX6_bookRevenue_23 : decode cX6_bookRevenue 23 = .ok (.istore 7, 2) := by decide +kernel
theorem dX6_bookRevenue_25 : decode cX6_bookRevenue 25 = .ok (.iload 7, 2) := by decide +kernel
theorem dX6_bookRevenue_27 : decode cX6_bookRevenue 27 = .ok (.bipush 10, 2) := by decide +kernel
theorem dX6_bookRevenue_29 : decode cX6_bookRevenue 29 = .ok (.if_icmp .ge 105, 3) := by decide +kernel
theorem dX6_bookRevenue_32 : decode cX6_bookRevenue 32 = .ok (.aload_n 0, 1) := by decide +kernel
theorem dX6_bookRevenue_33 : decode cX6_bookRevenue 33 = .ok (.getfield 86, 3) := by decide +kernel
theorem dX6_bookRevenue_36 : decode cX6_bookRevenue 36 = .ok (.getfield 256, 3) := by decide +kernel
theorem dX6_bookRevenue_39 : decode cX6_bookRevenue 39 = .ok (.bipush 10, 2) := by decide +kernel
theorem dX6_bookRevenue_41 : decode cX6_bookRevenue 41 = .ok (.iload 7, 2) := by decide +kernel
theorem dX6_bookRevenue_43 : decode cX6_bookRevenue 43 = .ok (.iadd, 1) := by decide +kernel
theorem dX6_bookRevenue_44 : decode cX6_bookRevenue 44 = .ok (.laload, 1) := by decide +kernel
theorem dX6_bookRevenue_45 : decode cX6_bookRevenue 45 = .ok (.lstore 8, 2) := by decide +kernel
theorem dX6_bookRevenue_47 : decode cX6_bookRevenue 47 = .ok (.iload_n 3, 1) := by decide +kernel
theorem dX6_bookRevenue_48 : decode cX6_bookRevenue 48 = .ok (.iload 7, 2) := by decide +kernel
theorem dX6_bookRevenue_50 : decode cX6_bookRevenue 50 = .ok (.invokestatic 175, 3) := by decide +kernel
theorem dX6_bookRevenue_53 : decode cX6_bookRevenue 53 = .ok (.ifCond .eq 21, 3) := by decide +kernel
theorem dX6_bookRevenue_56 : decode cX6_bookRevenue 56 = .ok (.lload 8, 2) := by decide +kernel
theorem dX6_bookRevenue_58 : decode cX6_bookRevenue 58 = .ok (.aload_n 1, 1) := by decide +kernel
theorem dX6_bookRevenue_59 : decode cX6_bookRevenue 59 = .ok (.getfield 271, 3) := by decide +kernel
theorem dX6_bookRevenue_62 : decode cX6_bookRevenue 62 = .ok (.iload 4, 2) := by decide +kernel
theorem dX6_bookRevenue_64 : decode cX6_bookRevenue 64 = .ok (.iload 7, 2) := by decide +kernel
theorem dX6_bookRevenue_66 : decode cX6_bookRevenue 66 = .ok (.iadd, 1) := by decide +kernel
theorem dX6_bookRevenue_67 : decode cX6_bookRevenue 67 = .ok (.laload, 1) := by decide +kernel
theorem dX6_bookRevenue_68 : decode cX6_bookRevenue 68 = .ok (.invokestatic 361, 3) := by decide +kernel
theorem dX6_bookRevenue_71 : decode cX6_bookRevenue 71 = .ok (.goto 4, 3) := by decide +kernel
theorem dX6_bookRevenue_74 : decode cX6_bookRevenue 74 = .ok (.lconst 0, 1) := by decide +kernel
theorem dX6_bookRevenue_75 : decode cX6_bookRevenue 75 = .ok (.lstore 10, 2) := by decide +kernel
theorem dX6_bookRevenue_77 : decode cX6_bookRevenue 77 = .ok (.aload_n 1, 1) := by decide +kernel
theorem dX6_bookRevenue_78 : decode cX6_bookRevenue 78 = .ok (.getfield 271, 3) := by decide +kernel
theorem dX6_bookRevenue_81 : decode cX6_bookRevenue 81 = .ok (.iload 4, 2) := by decide +kernel
theorem dX6_bookRevenue_83 : decode cX6_bookRevenue 83 = .ok (.iload 7, 2) := by decide +kernel
theorem dX6_bookRevenue_85 : decode cX6_bookRevenue 85 = .ok (.iadd, 1) := by decide +kernel
theorem dX6_bookRevenue_86 : decode cX6_bookRevenue 86 = .ok (.dup2, 1) := by decide +kernel
theorem dX6_bookRevenue_87 : decode cX6_bookRevenue 87 = .ok (.laload, 1) := by decide +kernel
theorem dX6_bookRevenue_88 : decode cX6_bookRevenue 88 = .ok (.lload 10, 2) := by decide +kernel
theorem dX6_bookRevenue_90 : decode cX6_bookRevenue 90 = .ok (.lsub, 1) := by decide +kernel
theorem dX6_bookRevenue_91 : decode cX6_bookRevenue 91 = .ok (.lastore, 1) := by decide +kernel
theorem dX6_bookRevenue_92 : decode cX6_bookRevenue 92 = .ok (.aload_n 1, 1) := by decide +kernel
theorem dX6_bookRevenue_93 : decode cX6_bookRevenue 93 = .ok (.getfield 268, 3) := by decide +kernel
theorem dX6_bookRevenue_96 : decode cX6_bookRevenue 96 = .ok (.iload 4, 2) := by decide +kernel
theorem dX6_bookRevenue_98 : decode cX6_bookRevenue 98 = .ok (.iload 7, 2) := by decide +kernel
theorem dX6_bookRevenue_100 : decode cX6_bookRevenue 100 = .ok (.iadd, 1) := by decide +kernel
theorem dX6_bookRevenue_101 : decode cX6_bookRevenue 101 = .ok (.dup2, 1) := by decide +kernel
theorem dX6_bookRevenue_102 : decode cX6_bookRevenue 102 = .ok (.laload, 1) := by decide +kernel
theorem dX6_bookRevenue_103 : decode cX6_bookRevenue 103 = .ok (.aload_n 0, 1) := by decide +kernel
theorem dX6_bookRevenue_104 : decode cX6_bookRevenue 104 = .ok (.getfield 86, 3) := by decide +kernel
theorem dX6_bookRevenue_107 : decode cX6_bookRevenue 107 = .ok (.getfield 256, 3) := by decide +kernel
theorem dX6_bookRevenue_110 : decode cX6_bookRevenue 110 = .ok (.iload 7, 2) := by decide +kernel
theorem dX6_bookRevenue_112 : decode cX6_bookRevenue 112 = .ok (.laload, 1) := by decide +kernel
theorem dX6_bookRevenue_113 : decode cX6_bookRevenue 113 = .ok (.lload 8, 2) := by decide +kernel
theorem dX6_bookRevenue_115 : decode cX6_bookRevenue 115 = .ok (.ladd, 1) := by decide +kernel
theorem dX6_bookRevenue_116 : decode cX6_bookRevenue 116 = .ok (.lload 10, 2) := by decide +kernel
theorem dX6_bookRevenue_118 : decode cX6_bookRevenue 118 = .ok (.lsub, 1) := by decide +kernel
theorem dX6_bookRevenue_119 : decode cX6_bookRevenue 119 = .ok (.ladd, 1) := by decide +kernel
theorem dX6_bookRevenue_120 : decode cX6_bookRevenue 120 = .ok (.lastore, 1) := by decide +kernel
theorem dX6_bookRevenue_121 : decode cX6_bookRevenue 121 = .ok (.lload 5, 2) := by decide +kernel
theorem dX6_bookRevenue_123 : decode cX6_bookRevenue 123 = .ok (.lload 10, 2) := by decide +kernel
theorem dX6_bookRevenue_125 : decode cX6_bookRevenue 125 = .ok (.ladd, 1) := by decide +kernel
theorem dX6_bookRevenue_126 : decode cX6_bookRevenue 126 = .ok (.lstore 5, 2) := by decide +kernel
theorem dX6_bookRevenue_128 : decode cX6_bookRevenue 128 = .ok (.iinc 7 1, 3) := by decide +kernel
theorem dX6_bookRevenue_131 : decode cX6_bookRevenue 131 = .ok (.goto (-106), 3) := by decide +kernel
theorem dX6_bookRevenue_134 : decode cX6_bookRevenue 134 = .ok (.aload_n 0, 1) := by decide +kernel
theorem dX6_bookRevenue_135 : decode cX6_bookRevenue 135 = .ok (.lload 5, 2) := by decide +kernel
theorem dX6_bookRevenue_137 : decode cX6_bookRevenue 137 = .ok (.iload_n 3, 1) := by decide +kernel
theorem dX6_bookRevenue_138 : decode cX6_bookRevenue 138 = .ok (.invokevirtual 357, 3) := by decide +kernel
theorem dX6_bookRevenue_141 : decode cX6_bookRevenue 141 = .ok (.iconst 0, 1) := by decide +kernel
theorem dX6_bookRevenue_142 : decode cX6_bookRevenue 142 = .ok (.istore 7, 2) := by decide +kernel
theorem dX6_bookRevenue_144 : decode cX6_bookRevenue 144 = .ok (.iload 7, 2) := by decide +kernel
theorem dX6_bookRevenue_146 : decode cX6_bookRevenue 146 = .ok (.bipush 10, 2) := by decide +kernel
theorem dX6_bookRevenue_148 : decode cX6_bookRevenue 148 = .ok (.if_icmp .ge 32, 3) := by decide +kernel
theorem dX6_bookRevenue_151 : decode cX6_bookRevenue 151 = .ok (.aload_n 1, 1) := by decide +kernel
theorem dX6_bookRevenue_152 : decode cX6_bookRevenue 152 = .ok (.getfield 268, 3) := by decide +kernel
theorem dX6_bookRevenue_155 : decode cX6_bookRevenue 155 = .ok (.iload 4, 2) := by decide +kernel
theorem dX6_bookRevenue_157 : decode cX6_bookRevenue 157 = .ok (.iload 7, 2) := by decide +kernel
theorem dX6_bookRevenue_159 : decode cX6_bookRevenue 159 = .ok (.iadd, 1) := by decide +kernel
theorem dX6_bookRevenue_160 : decode cX6_bookRevenue 160 = .ok (.dup2, 1) := by decide +kernel
theorem dX6_bookRevenue_161 : decode cX6_bookRevenue 161 = .ok (.laload, 1) := by decide +kernel
theorem dX6_bookRevenue_162 : decode cX6_bookRevenue 162 = .ok (.aload_n 0, 1) := by decide +kernel
theorem dX6_bookRevenue_163 : decode cX6_bookRevenue 163 = .ok (.getfield 90, 3) := by decide +kernel
theorem dX6_bookRevenue_166 : decode cX6_bookRevenue 166 = .ok (.getfield 256, 3) := by decide +kernel
theorem dX6_bookRevenue_169 : decode cX6_bookRevenue 169 = .ok (.iload 7, 2) := by decide +kernel
theorem dX6_bookRevenue_171 : decode cX6_bookRevenue 171 = .ok (.laload, 1) := by decide +kernel
theorem dX6_bookRevenue_172 : decode cX6_bookRevenue 172 = .ok (.ladd, 1) := by decide +kernel
theorem dX6_bookRevenue_173 : decode cX6_bookRevenue 173 = .ok (.lastore, 1) := by decide +kernel
theorem dX6_bookRevenue_174 : decode cX6_bookRevenue 174 = .ok (.iinc 7 1, 3) := by decide +kernel
theorem dX6_bookRevenue_177 : decode cX6_bookRevenue 177 = .ok (.goto (-33), 3) := by decide +kernel
theorem dX6_bookRevenue_180 : decode cX6_bookRevenue 180 = .ok (.return_, 1) := by decide +kernel
set_option maxRecDepth 20000 in
theorem ggX6_partByWorking_X6_hasBit : GoodIn wsX6_partByWorking wsX6_hasBit := goodIn_r _ [7] (by decide +kernel) (by decide +kernel)
set_option maxRecDepth 20000 in
theorem gX6_partByWorking_X6_hasBit : GoodIn wsX6_partByWorking (va_wsS RX6 175 yX6_hasBit wsX6_hasBit) := goodIn_app (goodIn_of _ (by decide +kernel)) ggX6_partByWorking_X6_hasBit
set_option maxRecDepth 20000 in
theorem ggX6_partByWorking_X2_partOut : GoodIn wsX6_partByWorking wsX2_partOut := goodIn_r _ [12, 13, 14, 15, 16, 17, 18, 11, 19, 20, 41, 42, 43] (by decide +kernel) (by decide +kernel)
set_option maxRecDepth 20000 in
theorem gX6_partByWorking_X2_partOut : GoodIn wsX6_partByWorking (wsV RX6 252 RX2 yX2_partOut wsX2_partOut) := goodIn_app (goodIn_of _ (by decide +kernel)) ggX6_partByWorking_X2_partOut
theorem dX6_partByWorking_0 : decode cX6_partByWorking 0 = .ok (.iconst 0, 1) := by decide +kernel
theorem dX6_partByWorking_1 : decode cX6_partByWorking 1 = .ok (.istore 4, 2) := by decide +kernel
theorem dX6_partByWorking_3 : decode cX6_partByWorking 3 = .ok (.iload 4, 2) := by decide +kernel
theorem dX6_partByWorking_5 : decode cX6_partByWorking 5 = .ok (.bipush 10, 2) := by decide +kernel
theorem dX6_partByWorking_7 : decode cX6_partByWorking 7 = .ok (.if_icmp .ge 45, 3) := by decide +kernel
theorem dX6_partByWorking_10 : decode cX6_partByWorking 10 = .ok (.aload_n 0, 1) := by decide +kernel
theorem dX6_partByWorking_11 : decode cX6_partByWorking 11 = .ok (.getfield 90, 3) := by decide +kernel
theorem dX6_partByWorking_14 : decode cX6_partByWorking 14 = .ok (.getfield 325, 3) := by decide +kernel
theorem dX6_partByWorking_17 : decode cX6_partByWorking 17 = .ok (.iload 4, 2) := by decide +kernel
theorem dX6_partByWorking_19 : decode cX6_partByWorking 19 = .ok (.iload_n 3, 1) := by decide +kernel
theorem dX6_partByWorking_20 : decode cX6_partByWorking 20 = .ok (.iload 4, 2) := by decide +kernel
theorem dX6_partByWorking_22 : decode cX6_partByWorking 22 = .ok (.invokestatic 175, 3) := by decide +kernel
theorem dX6_partByWorking_25 : decode cX6_partByWorking 25 = .ok (.ifCond .eq 7, 3) := by decide +kernel
theorem dX6_partByWorking_28 : decode cX6_partByWorking 28 = .ok (.lconst 0, 1) := by decide +kernel
theorem dX6_partByWorking_29 : decode cX6_partByWorking 29 = .ok (.goto 16, 3) := by decide +kernel
theorem dX6_partByWorking_32 : decode cX6_partByWorking 32 = .ok (.aload_n 0, 1) := by decide +kernel
theorem dX6_partByWorking_33 : decode cX6_partByWorking 33 = .ok (.getfield 86, 3) := by decide +kernel
theorem dX6_partByWorking_36 : decode cX6_partByWorking 36 = .ok (.getfield 325, 3) := by decide +kernel
theorem dX6_partByWorking_39 : decode cX6_partByWorking 39 = .ok (.bipush 10, 2) := by decide +kernel
theorem dX6_partByWorking_41 : decode cX6_partByWorking 41 = .ok (.iload 4, 2) := by decide +kernel
theorem dX6_partByWorking_43 : decode cX6_partByWorking 43 = .ok (.iadd, 1) := by decide +kernel
theorem dX6_partByWorking_44 : decode cX6_partByWorking 44 = .ok (.laload, 1) := by decide +kernel
theorem dX6_partByWorking_45 : decode cX6_partByWorking 45 = .ok (.lastore, 1) := by decide +kernel
theorem dX6_partByWorking_46 : decode cX6_partByWorking 46 = .ok (.iinc 4 1, 3) := by decide +kernel
theorem dX6_partByWorking_49 : decode cX6_partByWorking 49 = .ok (.goto (-46), 3) := by decide +kernel
theorem dX6_partByWorking_52 : decode cX6_partByWorking 52 = .ok (.aload_n 0, 1) := by decide +kernel
theorem dX6_partByWorking_53 : decode cX6_partByWorking 53 = .ok (.getfield 90, 3) := by decide +kernel
theorem dX6_partByWorking_56 : decode cX6_partByWorking 56 = .ok (.lload_n 1, 1) := by decide +kernel
theorem dX6_partByWorking_57 : decode cX6_partByWorking 57 = .ok (.invokevirtual 252, 3) := by decide +kernel
theorem dX6_partByWorking_60 : decode cX6_partByWorking 60 = .ok (.return_, 1) := by decide +kernel
theorem dX6_settledOwed_0 : decode cX6_settledOwed 0 = .ok (.aload_n 0, 1) := by decide +kernel
theorem dX6_settledOwed_1 : decode cX6_settledOwed 1 = .ok (.getfield 71, 3) := by decide +kernel
theorem dX6_settledOwed_4 : decode cX6_settledOwed 4 = .ok (.iload_n 1, 1) := by decide +kernel
theorem dX6_settledOwed_5 : decode cX6_settledOwed 5 = .ok (.laload, 1) := by decide +kernel
theorem dX6_settledOwed_6 : decode cX6_settledOwed 6 = .ok (.lneg, 1) := by decide +kernel
theorem dX6_settledOwed_7 : decode cX6_settledOwed 7 = .ok (.lstore_n 2, 1) := by decide +kernel
theorem dX6_settledOwed_8 : decode cX6_settledOwed 8 = .ok (.aload_n 0, 1) := by decide +kernel
theorem dX6_settledOwed_9 : decode cX6_settledOwed 9 = .ok (.getfield 42, 3) := by decide +kernel
theorem dX6_settledOwed_12 : decode cX6_settledOwed 12 = .ok (.astore 4, 2) := by decide +kernel
theorem dX6_settledOwed_14 : decode cX6_settledOwed 14 = .ok (.aload 4, 2) := by decide +kernel
theorem dX6_settledOwed_16 : decode cX6_settledOwed 16 = .ok (.arraylength, 1) := by decide +kernel
theorem dX6_settledOwed_17 : decode cX6_settledOwed 17 = .ok (.istore 5, 2) := by decide +kernel
theorem dX6_settledOwed_19 : decode cX6_settledOwed 19 = .ok (.iconst 0, 1) := by decide +kernel
theorem dX6_settledOwed_20 : decode cX6_settledOwed 20 = .ok (.istore 6, 2) := by decide +kernel
theorem dX6_settledOwed_22 : decode cX6_settledOwed 22 = .ok (.iload 6, 2) := by decide +kernel
theorem dX6_settledOwed_24 : decode cX6_settledOwed 24 = .ok (.iload 5, 2) := by decide +kernel
theorem dX6_settledOwed_26 : decode cX6_settledOwed 26 = .ok (.if_icmp .ge 59, 3) := by decide +kernel
theorem dX6_settledOwed_29 : decode cX6_settledOwed 29 = .ok (.aload 4, 2) := by decide +kernel
theorem dX6_settledOwed_31 : decode cX6_settledOwed 31 = .ok (.iload 6, 2) := by decide +kernel
theorem dX6_settledOwed_33 : decode cX6_settledOwed 33 = .ok (.aaload, 1) := by decide +kernel
theorem dX6_settledOwed_34 : decode cX6_settledOwed 34 = .ok (.astore 7, 2) := by decide +kernel
theorem dX6_settledOwed_36 : decode cX6_settledOwed 36 = .ok (.aload 7, 2) := by decide +kernel
theorem dX6_settledOwed_38 : decode cX6_settledOwed 38 = .ok (.ifnull 41, 3) := by decide +kernel
theorem dX6_settledOwed_41 : decode cX6_settledOwed 41 = .ok (.aload 7, 2) := by decide +kernel
theorem dX6_settledOwed_43 : decode cX6_settledOwed 43 = .ok (.getfield 203, 3) := by decide +kernel
theorem dX6_settledOwed_46 : decode cX6_settledOwed 46 = .ok (.istore 8, 2) := by decide +kernel
theorem dX6_settledOwed_48 : decode cX6_settledOwed 48 = .ok (.iload 8, 2) := by decide +kernel
theorem dX6_settledOwed_50 : decode cX6_settledOwed 50 = .ok (.aload_n 0, 1) := by decide +kernel
theorem dX6_settledOwed_51 : decode cX6_settledOwed 51 = .ok (.getfield 9, 3) := by decide +kernel
theorem dX6_settledOwed_54 : decode cX6_settledOwed 54 = .ok (.if_icmp .gt 25, 3) := by decide +kernel
theorem dX6_settledOwed_57 : decode cX6_settledOwed 57 = .ok (.lload_n 2, 1) := by decide +kernel
theorem dX6_settledOwed_58 : decode cX6_settledOwed 58 = .ok (.aload 7, 2) := by decide +kernel
theorem dX6_settledOwed_60 : decode cX6_settledOwed 60 = .ok (.getfield 268, 3) := by decide +kernel
theorem dX6_settledOwed_63 : decode cX6_settledOwed 63 = .ok (.iload 8, 2) := by decide +kernel
theorem dX6_settledOwed_65 : decode cX6_settledOwed 65 = .ok (.bipush 10, 2) := by decide +kernel
theorem dX6_settledOwed_67 : decode cX6_settledOwed 67 = .ok (.imul, 1) := by decide +kernel
theorem dX6_settledOwed_68 : decode cX6_settledOwed 68 = .ok (.iload_n 1, 1) := by decide +kernel
theorem dX6_settledOwed_69 : decode cX6_settledOwed 69 = .ok (.iadd, 1) := by decide +kernel
theorem dX6_settledOwed_70 : decode cX6_settledOwed 70 = .ok (.laload, 1) := by decide +kernel
theorem dX6_settledOwed_71 : decode cX6_settledOwed 71 = .ok (.ladd, 1) := by decide +kernel
theorem dX6_settledOwed_72 : decode cX6_settledOwed 72 = .ok (.lstore_n 2, 1) := by decide +kernel
theorem dX6_settledOwed_73 : decode cX6_settledOwed 73 = .ok (.iinc 8 1, 3) := by decide +kernel
theorem dX6_settledOwed_76 : decode cX6_settledOwed 76 = .ok (.goto (-28), 3) := by decide +kernel
theorem dX6_settledOwed_79 : decode cX6_settledOwed 79 = .ok (.iinc 6 1, 3) := by decide +kernel
theorem dX6_settledOwed_82 : decode cX6_settledOwed 82 = .ok (.goto (-60), 3) := by decide +kernel
theorem dX6_settledOwed_85 : decode cX6_settledOwed 85 = .ok (.lload_n 2, 1) := by decide +kernel
theorem dX6_settledOwed_86 : decode cX6_settledOwed 86 = .ok (.lreturn, 1) := by decide +kernel
theorem dJ9_min_7cf53_0 : decode cJ9_min_7cf53 0 = .ok (.iload_n 0, 1) := by decide +kernel
theorem dJ9_min_7cf53_1 : decode cJ9_min_7cf53 1 = .ok (.iload_n 1, 1) := by decide +kernel
theorem dJ9_min_7cf53_2 : decode cJ9_min_7cf53 2 = .ok (.if_icmp .gt 7, 3) := by decide +kernel
theorem dJ9_min_7cf53_5 : decode cJ9_min_7cf53 5 = .ok (.iload_n 0, 1) := by decide +kernel
theorem dJ9_min_7cf53_6 : decode cJ9_min_7cf53 6 = .ok (.goto 4, 3) := by decide +kernel
theorem dJ9_min_7cf53_9 : decode cJ9_min_7cf53 9 = .ok (.iload_n 1, 1) := by decide +kernel
theorem dJ9_min_7cf53_10 : decode cJ9_min_7cf53 10 = .ok (.ireturn, 1) := by decide +kernel
theorem dJ9_min_f86c9_0 : decode cJ9_min_f86c9 0 = .ok (.lload_n 0, 1) := by decide +kernel
theorem dJ9_min_f86c9_1 : decode cJ9_min_f86c9 1 = .ok (.lload_n 2, 1) := by decide +kernel
theorem dJ9_min_f86c9_2 : decode cJ9_min_f86c9 2 = .ok (.lcmp, 1) := by decide +kernel
theorem dJ9_min_f86c9_3 : decode cJ9_min_f86c9 3 = .ok (.ifCond .gt 7, 3) := by decide +kernel
theorem dJ9_min_f86c9_6 : decode cJ9_min_f86c9 6 = .ok (.lload_n 0, 1) := by decide +kernel
theorem dJ9_min_f86c9_7 : decode cJ9_min_f86c9 7 = .ok (.goto 4, 3) := by decide +kernel
theorem dJ9_min_f86c9_10 : decode cJ9_min_f86c9 10 = .ok (.lload_n 2, 1) := by decide +kernel
theorem dJ9_min_f86c9_11 : decode cJ9_min_f86c9 11 = .ok (.lreturn, 1) := by decide +kernel
theorem dL_drawn_0 : decode cL_drawn 0 = .ok (.iload_n 1, 1) := by decide +kernel
theorem dL_drawn_1 : decode cL_drawn 1 = .ok (.aload_n 0, 1) := by decide +kernel
theorem dL_drawn_2 : decode cL_drawn 2 = .ok (.arraylength, 1) := by decide +kernel
theorem dL_drawn_3 : decode cL_drawn 3 = .ok (.if_icmp .ge 9, 3) := by decide +kernel
theorem dL_drawn_6 : decode cL_drawn 6 = .ok (.aload_n 0, 1) := by decide +kernel
theorem dL_drawn_7 : decode cL_drawn 7 = .ok (.iload_n 1, 1) := by decide +kernel
theorem dL_drawn_8 : decode cL_drawn 8 = .ok (.iaload, 1) := by decide +kernel
theorem dL_drawn_9 : decode cL_drawn 9 = .ok (.goto 15, 3) := by decide +kernel
theorem dL_drawn_12 : decode cL_drawn 12 = .ok (.ldc 7, 2) := by decide +kernel
theorem dL_drawn_14 : decode cL_drawn 14 = .ok (.iload_n 1, 1) := by decide +kernel
theorem dL_drawn_15 : decode cL_drawn 15 = .ok (.sipush 7919, 3) := by decide +kernel
theorem dL_drawn_18 : decode cL_drawn 18 = .ok (.irem, 1) := by decide +kernel
theorem dL_drawn_19 : decode cL_drawn 19 = .ok (.imul, 1) := by decide +kernel
theorem dL_drawn_20 : decode cL_drawn 20 = .ok (.sipush 5077, 3) := by decide +kernel
theorem dL_drawn_23 : decode cL_drawn 23 = .ok (.iadd, 1) := by decide +kernel
theorem dL_drawn_24 : decode cL_drawn 24 = .ok (.ldc 8, 2) := by decide +kernel
theorem dL_drawn_26 : decode cL_drawn 26 = .ok (.iand, 1) := by decide +kernel
theorem dL_drawn_27 : decode cL_drawn 27 = .ok (.ireturn, 1) := by decide +kernel
set_option maxRecDepth 20000 in
theorem ggL_pass_X6_pass : GoodIn wsL_pass wsX6_pass := goodIn_ca (goodIn_ca (goodIn_r _ [7, 8, 9, 10, 11, 12, 13, 14, 15, 16, 17, 18, 19, 20, 21, 22, 23, 24, 25, 26, 27, 28, 29, 30, 31, 32] (by decide +kernel) (by decide +kernel)) (goodIn_sub (fun _ h => List.mem_cons_of_mem _ (List.mem_append_left _ (List.mem_append_right _ h))) (by decide +kernel))) (goodIn_sub (fun _ h => List.mem_cons_of_mem _ (List.mem_append_right _ h)) (by decide +kernel))
set_option maxRecDepth 20000 in
theorem gL_pass_X6_pass : GoodIn wsL_pass (wsV RL 9 RX6 yX6_pass wsX6_pass) := goodIn_app (goodIn_of _ (by decide +kernel)) ggL_pass_X6_pass
theorem dL_pass_0 : decode cL_pass 0 = .ok (.aload_n 0, 1) := by decide +kernel
theorem dL_pass_1 : decode cL_pass 1 = .ok (.iload_n 1, 1) := by decide +kernel
theorem dL_pass_2 : decode cL_pass 2 = .ok (.invokevirtual 9, 3) := by decide +kernel
theorem dL_pass_5 : decode cL_pass 5 = .ok (.ireturn, 1) := by decide +kernel
theorem dL_pass_6 : decode cL_pass 6 = .ok (.astore_n 2, 1) := by decide +kernel
theorem dL_pass_7 : decode cL_pass 7 = .ok (.bipush (-102), 2) := by decide +kernel
theorem dL_pass_9 : decode cL_pass 9 = .ok (.ireturn, 1) := by decide +kernel
theorem dL_pass_10 : decode cL_pass 10 = .ok (.astore_n 2, 1) := by decide +kernel
theorem dL_pass_11 : decode cL_pass 11 = .ok (.bipush (-103), 2) := by decide +kernel
theorem dL_pass_13 : decode cL_pass 13 = .ok (.ireturn, 1) := by decide +kernel
set_option maxRecDepth 20000 in
theorem ggL_tract_X6_tract : GoodIn wsL_tract wsX6_tract := goodIn_ca (goodIn_ca (goodIn_ca (goodIn_r _ [8, 9, 10, 11, 12, 13, 14, 15, 16, 17, 18, 19, 20, 21, 7, 22, 23, 24, 25, 26, 27, 28, 29, 30, 31, 32, 33, 34, 35, 36, 37, 38, 39, 40, 41, 42, 43, 44, 45, 46, 47, 48, 49, 50, 51, 52, 53, 54] (by decide +kernel) (by decide +kernel)) (goodIn_sub (fun _ h => List.mem_cons_of_mem _ (List.mem_append_left _ (List.mem_append_left _ (List.mem_append_right _ h)))) (by decide +kernel))) (goodIn_sub (fun _ h => List.mem_cons_of_mem _ (List.mem_append_left _ (List.mem_append_right _ h))) (by decide +kernel))) (goodIn_sub (fun _ h => List.mem_cons_of_mem _ (List.mem_append_right _ h)) (by decide +kernel))
set_option maxRecDepth 20000 in
theorem gL_tract_X6_tract : GoodIn wsL_tract (wsV RL 19 RX6 yX6_tract wsX6_tract) := goodIn_app (goodIn_of _ (by decide +kernel)) ggL_tract_X6_tract
theorem dL_tract_0 : decode cL_tract 0 = .ok (.aload_n 0, 1) := by decide +kernel
theorem dL_tract_1 : decode cL_tract 1 = .ok (.iload_n 1, 1) := by decide +kernel
theorem dL_tract_2 : decode cL_tract 2 = .ok (.iload_n 2, 1) := by decide +kernel
theorem dL_tract_3 : decode cL_tract 3 = .ok (.invokevirtual 19, 3) := by decide +kernel
theorem dL_tract_6 : decode cL_tract 6 = .ok (.ireturn, 1) := by decide +kernel
theorem dL_tract_7 : decode cL_tract 7 = .ok (.astore_n 3, 1) := by decide +kernel
theorem dL_tract_8 : decode cL_tract 8 = .ok (.bipush (-101), 2) := by decide +kernel
theorem dL_tract_10 : decode cL_tract 10 = .ok (.ireturn, 1) := by decide +kernel
theorem dL_tract_11 : decode cL_tract 11 = .ok (.astore_n 3, 1) := by decide +kernel
theorem dL_tract_12 : decode cL_tract 12 = .ok (.bipush (-102), 2) := by decide +kernel
theorem dL_tract_14 : decode cL_tract 14 = .ok (.ireturn, 1) := by decide +kernel
theorem dL_tract_15 : decode cL_tract 15 = .ok (.astore_n 3, 1) := by decide +kernel
theorem dL_tract_16 : decode cL_tract 16 = .ok (.bipush (-103), 2) := by decide +kernel
theorem dL_tract_18 : decode cL_tract 18 = .ok (.ireturn, 1) := by decide +kernel
set_option maxRecDepth 20000 in
theorem ggL_deed_X6_deed : GoodIn wsL_deed wsX6_deed := goodIn_ca (goodIn_ca (goodIn_ca (goodIn_r _ [8, 9, 10, 11, 12, 13, 14, 15, 16, 17, 18, 19, 20, 21, 22, 23, 7, 24, 25, 26, 27, 28, 29, 30, 31, 32, 33, 34, 35, 36, 37, 38, 39, 40, 41, 42, 43, 44, 45, 46, 47, 48, 49, 50, 51, 52, 53, 54, 55, 56, 57, 58, 59, 60, 61, 62, 63, 64, 65, 66, 67, 68, 69, 70, 71, 72, 73, 74, 75, 76, 77, 78, 79, 80, 81, 82, 83, 84, 85, 86, 87, 88, 89, 90, 91, 92, 93, 94] (by decide +kernel) (by decide +kernel)) (goodIn_sub (fun _ h => List.mem_cons_of_mem _ (List.mem_append_left _ (List.mem_append_left _ (List.mem_append_right _ h)))) (by decide +kernel))) (goodIn_sub (fun _ h => List.mem_cons_of_mem _ (List.mem_append_left _ (List.mem_append_right _ h))) (by decide +kernel))) (goodIn_sub (fun _ h => List.mem_cons_of_mem _ (List.mem_append_right _ h)) (by decide +kernel))
set_option maxRecDepth 20000 in
theorem gL_deed_X6_deed : GoodIn wsL_deed (wsV RL 25 RX6 yX6_deed wsX6_deed) := goodIn_app (goodIn_of _ (by decide +kernel)) ggL_deed_X6_deed
theorem dL_deed_0 : decode cL_deed 0 = .ok (.aload_n 0, 1) := by decide +kernel
theorem dL_deed_1 : decode cL_deed 1 = .ok (.iload_n 1, 1) := by decide +kernel
theorem dL_deed_2 : decode cL_deed 2 = .ok (.iload_n 2, 1) := by decide +kernel
theorem dL_deed_3 : decode cL_deed 3 = .ok (.iload_n 3, 1) := by decide +kernel
theorem dL_deed_4 : decode cL_deed 4 = .ok (.iload 4, 2) := by decide +kernel
theorem dL_deed_6 : decode cL_deed 6 = .ok (.iload 5, 2) := by decide +kernel
theorem dL_deed_8 : decode cL_deed 8 = .ok (.invokevirtual 25, 3) := by decide +kernel
theorem dL_deed_11 : decode cL_deed 11 = .ok (.ireturn, 1) := by decide +kernel
theorem dL_deed_12 : decode cL_deed 12 = .ok (.astore 6, 2) := by decide +kernel
theorem dL_deed_14 : decode cL_deed 14 = .ok (.bipush (-101), 2) := by decide +kernel
theorem dL_deed_16 : decode cL_deed 16 = .ok (.ireturn, 1) := by decide +kernel
theorem dL_deed_17 : decode cL_deed 17 = .ok (.astore 6, 2) := by decide +kernel
theorem dL_deed_19 : decode cL_deed 19 = .ok (.bipush (-102), 2) := by decide +kernel
theorem dL_deed_21 : decode cL_deed 21 = .ok (.ireturn, 1) := by decide +kernel
theorem dL_deed_22 : decode cL_deed 22 = .ok (.astore 6, 2) := by decide +kernel
theorem dL_deed_24 : decode cL_deed 24 = .ok (.bipush (-103), 2) := by decide +kernel
theorem dL_deed_26 : decode cL_deed 26 = .ok (.ireturn, 1) := by decide +kernel
set_option maxRecDepth 20000 in
theorem ggL_title_X6_title : GoodIn wsL_title wsX6_title := goodIn_ca (goodIn_r _ [6, 7, 8, 9, 10, 11, 5, 12, 13, 14, 15, 16, 17, 18, 19, 20, 21, 22, 23, 24, 25, 26, 27, 28, 29, 30, 31, 32, 33, 34, 35, 36, 37, 38, 39, 40, 41, 42, 43, 44, 45, 46, 47, 48, 49, 50, 51, 52, 53, 54, 55, 56, 57, 58, 59, 60] (by decide +kernel) (by decide +kernel)) (goodIn_sub (fun _ h => List.mem_cons_of_mem _ (List.mem_append_right _ h)) (by decide +kernel))
set_option maxRecDepth 20000 in
theorem gL_title_X6_title : GoodIn wsL_title (wsV RL 29 RX6 yX6_title wsX6_title) := goodIn_app (goodIn_of _ (by decide +kernel)) ggL_title_X6_title
theorem dL_title_0 : decode cL_title 0 = .ok (.aload_n 0, 1) := by decide +kernel
theorem dL_title_1 : decode cL_title 1 = .ok (.iload_n 1, 1) := by decide +kernel
theorem dL_title_2 : decode cL_title 2 = .ok (.iload_n 2, 1) := by decide +kernel
theorem dL_title_3 : decode cL_title 3 = .ok (.iload_n 3, 1) := by decide +kernel
theorem dL_title_4 : decode cL_title 4 = .ok (.invokevirtual 29, 3) := by decide +kernel
theorem dL_title_7 : decode cL_title 7 = .ok (.ireturn, 1) := by decide +kernel
theorem dL_title_8 : decode cL_title 8 = .ok (.astore 4, 2) := by decide +kernel
theorem dL_title_10 : decode cL_title 10 = .ok (.bipush (-101), 2) := by decide +kernel
theorem dL_title_12 : decode cL_title 12 = .ok (.ireturn, 1) := by decide +kernel
set_option maxRecDepth 20000 in
theorem ggL_lease_X6_lease : GoodIn wsL_lease wsX6_lease := goodIn_ca (goodIn_ca (goodIn_ca (goodIn_r _ [8, 9, 10, 11, 12, 13, 14, 15, 16, 17, 18, 19, 20, 21, 22, 23, 24, 25, 7, 26, 27, 28, 29, 30, 31, 32, 33, 34, 35, 36, 37, 38, 39, 40, 41, 42, 43, 44, 45, 46, 47, 48, 49, 50, 51, 52, 53, 54, 55, 56, 57, 58, 59, 60, 61, 62, 63, 64, 65, 66, 67, 68, 69, 70, 71, 72, 73, 74, 75, 76, 77] (by decide +kernel) (by decide +kernel)) (goodIn_sub (fun _ h => List.mem_cons_of_mem _ (List.mem_append_left _ (List.mem_append_left _ (List.mem_append_right _ h)))) (by decide +kernel))) (goodIn_sub (fun _ h => List.mem_cons_of_mem _ (List.mem_append_left _ (List.mem_append_right _ h))) (by decide +kernel))) (goodIn_sub (fun _ h => List.mem_cons_of_mem _ (List.mem_append_right _ h)) (by decide +kernel))
set_option maxRecDepth 20000 in
theorem gL_lease_X6_lease : GoodIn wsL_lease (wsV RL 33 RX6 yX6_lease wsX6_lease) := goodIn_app (goodIn_of _ (by decide +kernel)) ggL_lease_X6_lease
theorem dL_lease_0 : decode cL_lease 0 = .ok (.aload_n 0, 1) := by decide +kernel
theorem dL_lease_1 : decode cL_lease 1 = .ok (.iload_n 1, 1) := by decide +kernel
theorem dL_lease_2 : decode cL_lease 2 = .ok (.iload_n 2, 1) := by decide +kernel
theorem dL_lease_3 : decode cL_lease 3 = .ok (.iload_n 3, 1) := by decide +kernel
theorem dL_lease_4 : decode cL_lease 4 = .ok (.iload 4, 2) := by decide +kernel
theorem dL_lease_6 : decode cL_lease 6 = .ok (.iload 5, 2) := by decide +kernel
theorem dL_lease_8 : decode cL_lease 8 = .ok (.invokevirtual 33, 3) := by decide +kernel
theorem dL_lease_11 : decode cL_lease 11 = .ok (.ireturn, 1) := by decide +kernel
theorem dL_lease_12 : decode cL_lease 12 = .ok (.astore 6, 2) := by decide +kernel
theorem dL_lease_14 : decode cL_lease 14 = .ok (.bipush (-101), 2) := by decide +kernel
theorem dL_lease_16 : decode cL_lease 16 = .ok (.ireturn, 1) := by decide +kernel
theorem dL_lease_17 : decode cL_lease 17 = .ok (.astore 6, 2) := by decide +kernel
theorem dL_lease_19 : decode cL_lease 19 = .ok (.bipush (-102), 2) := by decide +kernel
theorem dL_lease_21 : decode cL_lease 21 = .ok (.ireturn, 1) := by decide +kernel
theorem dL_lease_22 : decode cL_lease 22 = .ok (.astore 6, 2) := by decide +kernel
end
section
theorem dL_lease_24 : decode cL_lease 24 = .ok (.bipush (-103), 2) := by decide +kernel
theorem dL_lease_26 : decode cL_lease 26 = .ok (.ireturn, 1) := by decide +kernel
set_option maxRecDepth 20000 in
theorem ggL_unit_X6_unit : GoodIn wsL_unit wsX6_unit := goodIn_ca (goodIn_ca (goodIn_r _ [7, 8, 9, 10, 11, 12, 13, 14, 15, 16, 17, 18, 19, 20, 21, 22, 23, 6, 24, 25, 26, 27, 28, 29, 30, 31, 32, 33, 34, 35, 36, 37, 38, 39, 40, 41, 42, 43, 44, 45, 46, 47, 48, 49, 50, 51, 52, 53, 54, 55, 56, 57, 58, 59, 60, 61, 62, 63, 64, 65, 66, 67, 68, 69, 70, 71, 72, 73, 74, 75, 76, 77, 78, 79, 80, 81] (by decide +kernel) (by decide +kernel)) (goodIn_sub (fun _ h => List.mem_cons_of_mem _ (List.mem_append_left _ (List.mem_append_right _ h))) (by decide +kernel))) (goodIn_sub (fun _ h => List.mem_cons_of_mem _ (List.mem_append_right _ h)) (by decide +kernel))
set_option maxRecDepth 20000 in
theorem gL_unit_X6_unit : GoodIn wsL_unit (wsV RL 36 RX6 yX6_unit wsX6_unit) := goodIn_app (goodIn_of _ (by decide +kernel)) ggL_unit_X6_unit
theorem dL_unit_0 : decode cL_unit 0 = .ok (.aload_n 0, 1) := by decide +kernel
theorem dL_unit_1 : decode cL_unit 1 = .ok (.iload_n 1, 1) := by decide +kernel
theorem dL_unit_2 : decode cL_unit 2 = .ok (.invokevirtual 36, 3) := by decide +kernel
theorem dL_unit_5 : decode cL_unit 5 = .ok (.ireturn, 1) := by decide +kernel
theorem dL_unit_6 : decode cL_unit 6 = .ok (.astore_n 2, 1) := by decide +kernel
theorem dL_unit_7 : decode cL_unit 7 = .ok (.bipush (-102), 2) := by decide +kernel
theorem dL_unit_9 : decode cL_unit 9 = .ok (.ireturn, 1) := by decide +kernel
theorem dL_unit_10 : decode cL_unit 10 = .ok (.astore_n 2, 1) := by decide +kernel
theorem dL_unit_11 : decode cL_unit 11 = .ok (.bipush (-103), 2) := by decide +kernel
theorem dL_unit_13 : decode cL_unit 13 = .ok (.ireturn, 1) := by decide +kernel
set_option maxRecDepth 20000 in
theorem ggL_well_X6_well : GoodIn wsL_well wsX6_well := goodIn_ca (goodIn_ca (goodIn_r _ [7, 8, 9, 10, 11, 12, 13, 14, 15, 16, 17, 18, 19, 6, 20, 21, 22, 23, 24, 25, 26, 27, 28, 29, 30, 31, 32, 33, 34, 35, 36, 37, 38, 39, 40, 41, 42, 43, 44, 45, 46, 47, 48, 49, 50, 51, 52, 53, 54, 55, 56] (by decide +kernel) (by decide +kernel)) (goodIn_sub (fun _ h => List.mem_cons_of_mem _ (List.mem_append_left _ (List.mem_append_right _ h))) (by decide +kernel))) (goodIn_sub (fun _ h => List.mem_cons_of_mem _ (List.mem_append_right _ h)) (by decide +kernel))
set_option maxRecDepth 20000 in
theorem gL_well_X6_well : GoodIn wsL_well (wsV RL 39 RX6 yX6_well wsX6_well) := goodIn_app (goodIn_of _ (by decide +kernel)) ggL_well_X6_well
theorem dL_well_0 : decode cL_well 0 = .ok (.aload_n 0, 1) := by decide +kernel
theorem dL_well_1 : decode cL_well 1 = .ok (.iload_n 1, 1) := by decide +kernel
theorem dL_well_2 : decode cL_well 2 = .ok (.invokevirtual 39, 3) := by decide +kernel
theorem dL_well_5 : decode cL_well 5 = .ok (.ireturn, 1) := by decide +kernel
theorem dL_well_6 : decode cL_well 6 = .ok (.astore_n 2, 1) := by decide +kernel
theorem dL_well_7 : decode cL_well 7 = .ok (.bipush (-101), 2) := by decide +kernel
theorem dL_well_9 : decode cL_well 9 = .ok (.ireturn, 1) := by decide +kernel
theorem dL_well_10 : decode cL_well 10 = .ok (.astore_n 2, 1) := by decide +kernel
theorem dL_well_11 : decode cL_well 11 = .ok (.bipush (-103), 2) := by decide +kernel
theorem dL_well_13 : decode cL_well 13 = .ok (.ireturn, 1) := by decide +kernel
set_option maxRecDepth 20000 in
theorem ggL_oil_X6_oil : GoodIn wsL_oil wsX6_oil := goodIn_ca (goodIn_ca (goodIn_ca (goodIn_r _ [8, 9, 10, 11, 12, 13, 14, 15, 16, 17, 18, 19, 20, 7, 21, 22, 23, 24, 25, 26, 27, 28, 29, 30, 31, 32, 33, 34, 35, 36, 37, 38, 39, 40, 41, 42, 43, 44, 45, 46, 47, 48, 49, 50, 51, 52, 53, 54, 55, 56, 57, 58, 59, 60, 61, 62, 63, 64, 65, 66, 67, 68, 69, 70, 71, 72, 73, 74, 75, 76, 77] (by decide +kernel) (by decide +kernel)) (goodIn_sub (fun _ h => List.mem_cons_of_mem _ (List.mem_append_left _ (List.mem_append_left _ (List.mem_append_right _ h)))) (by decide +kernel))) (goodIn_sub (fun _ h => List.mem_cons_of_mem _ (List.mem_append_left _ (List.mem_append_right _ h))) (by decide +kernel))) (goodIn_sub (fun _ h => List.mem_cons_of_mem _ (List.mem_append_right _ h)) (by decide +kernel))
set_option maxRecDepth 20000 in
theorem gL_oil_X6_oil : GoodIn wsL_oil (wsV RL 42 RX6 yX6_oil wsX6_oil) := goodIn_app (goodIn_of _ (by decide +kernel)) ggL_oil_X6_oil
theorem dL_oil_0 : decode cL_oil 0 = .ok (.aload_n 0, 1) := by decide +kernel
theorem dL_oil_1 : decode cL_oil 1 = .ok (.iload_n 1, 1) := by decide +kernel
theorem dL_oil_2 : decode cL_oil 2 = .ok (.iload_n 2, 1) := by decide +kernel
theorem dL_oil_3 : decode cL_oil 3 = .ok (.iload_n 3, 1) := by decide +kernel
theorem dL_oil_4 : decode cL_oil 4 = .ok (.iload 4, 2) := by decide +kernel
theorem dL_oil_6 : decode cL_oil 6 = .ok (.invokevirtual 42, 3) := by decide +kernel
theorem dL_oil_9 : decode cL_oil 9 = .ok (.ireturn, 1) := by decide +kernel
theorem dL_oil_10 : decode cL_oil 10 = .ok (.astore 5, 2) := by decide +kernel
theorem dL_oil_12 : decode cL_oil 12 = .ok (.bipush (-101), 2) := by decide +kernel
theorem dL_oil_14 : decode cL_oil 14 = .ok (.ireturn, 1) := by decide +kernel
theorem dL_oil_15 : decode cL_oil 15 = .ok (.astore 5, 2) := by decide +kernel
theorem dL_oil_17 : decode cL_oil 17 = .ok (.bipush (-102), 2) := by decide +kernel
theorem dL_oil_19 : decode cL_oil 19 = .ok (.ireturn, 1) := by decide +kernel
theorem dL_oil_20 : decode cL_oil 20 = .ok (.astore 5, 2) := by decide +kernel
theorem dL_oil_22 : decode cL_oil 22 = .ok (.bipush (-103), 2) := by decide +kernel
theorem dL_oil_24 : decode cL_oil 24 = .ok (.ireturn, 1) := by decide +kernel
set_option maxRecDepth 20000 in
theorem ggL_cost_X6_cost : GoodIn wsL_cost wsX6_cost := goodIn_ca (goodIn_ca (goodIn_ca (goodIn_r _ [8, 9, 10, 11, 12, 13, 14, 15, 16, 17, 18, 19, 20, 21, 22, 23, 7, 24, 25, 26, 27, 28, 29, 30, 31, 32, 33, 34, 35, 36, 37, 38, 39, 40, 41, 42, 43, 44, 45, 46, 47, 48, 49, 50, 51, 52, 53, 54, 55, 56, 57, 58, 59, 60, 61, 62, 63, 64, 65, 66, 67, 68, 69, 70] (by decide +kernel) (by decide +kernel)) (goodIn_sub (fun _ h => List.mem_cons_of_mem _ (List.mem_append_left _ (List.mem_append_left _ (List.mem_append_right _ h)))) (by decide +kernel))) (goodIn_sub (fun _ h => List.mem_cons_of_mem _ (List.mem_append_left _ (List.mem_append_right _ h))) (by decide +kernel))) (goodIn_sub (fun _ h => List.mem_cons_of_mem _ (List.mem_append_right _ h)) (by decide +kernel))
set_option maxRecDepth 20000 in
theorem gL_cost_X6_cost : GoodIn wsL_cost (wsV RL 46 RX6 yX6_cost wsX6_cost) := goodIn_app (goodIn_of _ (by decide +kernel)) ggL_cost_X6_cost
theorem dL_cost_0 : decode cL_cost 0 = .ok (.aload_n 0, 1) := by decide +kernel
theorem dL_cost_1 : decode cL_cost 1 = .ok (.iload_n 1, 1) := by decide +kernel
theorem dL_cost_2 : decode cL_cost 2 = .ok (.iload_n 2, 1) := by decide +kernel
theorem dL_cost_3 : decode cL_cost 3 = .ok (.iload_n 3, 1) := by decide +kernel
theorem dL_cost_4 : decode cL_cost 4 = .ok (.invokevirtual 46, 3) := by decide +kernel
theorem dL_cost_7 : decode cL_cost 7 = .ok (.ireturn, 1) := by decide +kernel
theorem dL_cost_8 : decode cL_cost 8 = .ok (.astore 4, 2) := by decide +kernel
theorem dL_cost_10 : decode cL_cost 10 = .ok (.bipush (-101), 2) := by decide +kernel
theorem dL_cost_12 : decode cL_cost 12 = .ok (.ireturn, 1) := by decide +kernel
theorem dL_cost_13 : decode cL_cost 13 = .ok (.astore 4, 2) := by decide +kernel
theorem dL_cost_15 : decode cL_cost 15 = .ok (.bipush (-102), 2) := by decide +kernel
theorem dL_cost_17 : decode cL_cost 17 = .ok (.ireturn, 1) := by decide +kernel
theorem dL_cost_18 : decode cL_cost 18 = .ok (.astore 4, 2) := by decide +kernel
theorem dL_cost_20 : decode cL_cost 20 = .ok (.bipush (-103), 2) := by decide +kernel
theorem dL_cost_22 : decode cL_cost 22 = .ok (.ireturn, 1) := by decide +kernel
set_option maxRecDepth 20000 in
theorem ggL_tax_X6_tax : GoodIn wsL_tax wsX6_tax := goodIn_ca (goodIn_ca (goodIn_r _ [7, 8, 9, 10, 11, 12, 13, 14, 15, 6, 16, 17, 18, 19, 20, 21, 22, 23, 24, 25, 26, 27, 28, 29, 30, 31, 32, 33, 34, 35, 36, 37, 38, 39, 40, 41, 42, 43, 44, 45, 46, 47, 48, 49, 50] (by decide +kernel) (by decide +kernel)) (goodIn_sub (fun _ h => List.mem_cons_of_mem _ (List.mem_append_left _ (List.mem_append_right _ h))) (by decide +kernel))) (goodIn_sub (fun _ h => List.mem_cons_of_mem _ (List.mem_append_right _ h)) (by decide +kernel))
set_option maxRecDepth 20000 in
theorem gL_tax_X6_tax : GoodIn wsL_tax (wsV RL 49 RX6 yX6_tax wsX6_tax) := goodIn_app (goodIn_of _ (by decide +kernel)) ggL_tax_X6_tax
theorem dL_tax_0 : decode cL_tax 0 = .ok (.aload_n 0, 1) := by decide +kernel
theorem dL_tax_1 : decode cL_tax 1 = .ok (.iload_n 1, 1) := by decide +kernel
theorem dL_tax_2 : decode cL_tax 2 = .ok (.iload_n 2, 1) := by decide +kernel
theorem dL_tax_3 : decode cL_tax 3 = .ok (.invokevirtual 49, 3) := by decide +kernel
theorem dL_tax_6 : decode cL_tax 6 = .ok (.ireturn, 1) := by decide +kernel
theorem dL_tax_7 : decode cL_tax 7 = .ok (.astore_n 3, 1) := by decide +kernel
theorem dL_tax_8 : decode cL_tax 8 = .ok (.bipush (-101), 2) := by decide +kernel
theorem dL_tax_10 : decode cL_tax 10 = .ok (.ireturn, 1) := by decide +kernel
theorem dL_tax_11 : decode cL_tax 11 = .ok (.astore_n 3, 1) := by decide +kernel
theorem dL_tax_12 : decode cL_tax 12 = .ok (.bipush (-102), 2) := by decide +kernel
theorem dL_tax_14 : decode cL_tax 14 = .ok (.ireturn, 1) := by decide +kernel
set_option maxRecDepth 20000 in
theorem ggL_consent_X6_consent : GoodIn wsL_consent wsX6_consent := goodIn_ca (goodIn_r _ [6, 7, 8, 9, 10, 11, 12, 13, 5, 14, 15, 16, 17, 18, 19, 20, 21, 22, 23, 24, 25, 26, 27, 28, 29, 30, 31, 32, 33, 34, 35, 36, 37, 38, 39, 40, 41, 42, 43, 44, 45, 46, 47, 48, 49, 50, 51, 52, 53, 54, 55, 56, 57, 58, 59, 60] (by decide +kernel) (by decide +kernel)) (goodIn_sub (fun _ h => List.mem_cons_of_mem _ (List.mem_append_right _ h)) (by decide +kernel))
set_option maxRecDepth 20000 in
theorem gL_consent_X6_consent : GoodIn wsL_consent (wsV RL 52 RX6 yX6_consent wsX6_consent) := goodIn_app (goodIn_of _ (by decide +kernel)) ggL_consent_X6_consent
theorem dL_consent_0 : decode cL_consent 0 = .ok (.aload_n 0, 1) := by decide +kernel
theorem dL_consent_1 : decode cL_consent 1 = .ok (.iload_n 1, 1) := by decide +kernel
theorem dL_consent_2 : decode cL_consent 2 = .ok (.iload_n 2, 1) := by decide +kernel
theorem dL_consent_3 : decode cL_consent 3 = .ok (.iload_n 3, 1) := by decide +kernel
theorem dL_consent_4 : decode cL_consent 4 = .ok (.invokevirtual 52, 3) := by decide +kernel
theorem dL_consent_7 : decode cL_consent 7 = .ok (.ifCond .eq 7, 3) := by decide +kernel
theorem dL_consent_10 : decode cL_consent 10 = .ok (.iconst 1, 1) := by decide +kernel
theorem dL_consent_11 : decode cL_consent 11 = .ok (.goto 4, 3) := by decide +kernel
theorem dL_consent_14 : decode cL_consent 14 = .ok (.iconst 0, 1) := by decide +kernel
theorem dL_consent_15 : decode cL_consent 15 = .ok (.ireturn, 1) := by decide +kernel
theorem dL_consent_16 : decode cL_consent 16 = .ok (.astore 4, 2) := by decide +kernel
theorem dL_consent_18 : decode cL_consent 18 = .ok (.bipush (-101), 2) := by decide +kernel
theorem dL_consent_20 : decode cL_consent 20 = .ok (.ireturn, 1) := by decide +kernel
set_option maxRecDepth 20000 in
theorem ggL_penalty_X6_penalty : GoodIn wsL_penalty wsX6_penalty := goodIn_ca (goodIn_r _ [6, 7, 8, 9, 10, 11, 12, 5, 13, 14, 15, 16, 17, 18, 19, 20, 21, 22, 23, 24, 25, 26, 27, 28, 29, 30, 31, 32, 33, 34, 35, 36, 37, 38] (by decide +kernel) (by decide +kernel)) (goodIn_sub (fun _ h => List.mem_cons_of_mem _ (List.mem_append_right _ h)) (by decide +kernel))
set_option maxRecDepth 20000 in
theorem gL_penalty_X6_penalty : GoodIn wsL_penalty (wsV RL 56 RX6 yX6_penalty wsX6_penalty) := goodIn_app (goodIn_of _ (by decide +kernel)) ggL_penalty_X6_penalty
theorem dL_penalty_0 : decode cL_penalty 0 = .ok (.aload_n 0, 1) := by decide +kernel
theorem dL_penalty_1 : decode cL_penalty 1 = .ok (.iload_n 1, 1) := by decide +kernel
theorem dL_penalty_2 : decode cL_penalty 2 = .ok (.invokevirtual 56, 3) := by decide +kernel
theorem dL_penalty_5 : decode cL_penalty 5 = .ok (.ireturn, 1) := by decide +kernel
theorem dL_penalty_6 : decode cL_penalty 6 = .ok (.astore_n 2, 1) := by decide +kernel
theorem dL_penalty_7 : decode cL_penalty 7 = .ok (.bipush (-102), 2) := by decide +kernel
theorem dL_penalty_9 : decode cL_penalty 9 = .ok (.ireturn, 1) := by decide +kernel
set_option maxRecDepth 20000 in
theorem ggL_interest_X6_interest : GoodIn wsL_interest wsX6_interest := goodIn_ca (goodIn_r _ [6, 7, 8, 9, 10, 11, 12, 13, 14, 5, 15, 16, 17, 18, 19, 20, 21, 22, 23, 24, 25, 26, 27, 28, 29, 30, 31, 32, 33, 34, 35, 36, 37, 38, 39, 40, 41, 42, 43, 44, 45, 46, 47, 48, 49, 50, 51, 52, 53, 54, 55, 56, 57, 58, 59, 60, 61, 62, 63, 64, 65, 66, 67, 68, 69, 70, 71, 72, 73, 74, 75, 76, 77, 78, 79, 80, 81, 82, 83, 84, 85, 86, 87, 88, 89, 90, 91, 92, 93, 94, 95, 96, 97, 98, 99, 100, 101, 102, 103, 104, 105, 106, 107, 108, 109, 110, 111, 112, 113, 114, 115, 116, 117, 118, 119, 120, 121, 122, 123, 124, 125, 126, 127, 128, 129, 130] (by decide +kernel) (by decide +kernel)) (goodIn_sub (fun _ h => List.mem_cons_of_mem _ (List.mem_append_right _ h)) (by decide +kernel))
set_option maxRecDepth 20000 in
theorem gL_interest_X6_interest : GoodIn wsL_interest (wsV RL 59 RX6 yX6_interest wsX6_interest) := goodIn_app (goodIn_of _ (by decide +kernel)) ggL_interest_X6_interest
theorem dL_interest_0 : decode cL_interest 0 = .ok (.aload_n 0, 1) := by decide +kernel
theorem dL_interest_1 : decode cL_interest 1 = .ok (.iload_n 1, 1) := by decide +kernel
theorem dL_interest_2 : decode cL_interest 2 = .ok (.iload_n 2, 1) := by decide +kernel
theorem dL_interest_3 : decode cL_interest 3 = .ok (.iload_n 3, 1) := by decide +kernel
theorem dL_interest_4 : decode cL_interest 4 = .ok (.iload 4, 2) := by decide +kernel
theorem dL_interest_6 : decode cL_interest 6 = .ok (.invokevirtual 59, 3) := by decide +kernel
theorem dL_interest_9 : decode cL_interest 9 = .ok (.ireturn, 1) := by decide +kernel
theorem dL_interest_10 : decode cL_interest 10 = .ok (.astore 5, 2) := by decide +kernel
theorem dL_interest_12 : decode cL_interest 12 = .ok (.bipush (-101), 2) := by decide +kernel
theorem dL_interest_14 : decode cL_interest 14 = .ok (.ireturn, 1) := by decide +kernel
set_option maxRecDepth 20000 in
theorem ggL_revenue_X6_revenue : GoodIn wsL_revenue wsX6_revenue := goodIn_ca (goodIn_r _ [6, 7, 8, 9, 10, 11, 5, 12, 13, 14, 15, 16, 17, 18, 19, 20, 21, 22, 23, 24, 25, 26, 27, 28, 29, 30, 31, 32, 33, 34, 35, 36, 37, 38, 39, 40, 41, 42, 43, 44, 45, 46, 47, 48, 49, 50, 51, 52, 53, 54, 55, 56, 57] (by decide +kernel) (by decide +kernel)) (goodIn_sub (fun _ h => List.mem_cons_of_mem _ (List.mem_append_right _ h)) (by decide +kernel))
set_option maxRecDepth 20000 in
theorem gL_revenue_X6_revenue : GoodIn wsL_revenue (wsV RL 63 RX6 yX6_revenue wsX6_revenue) := goodIn_app (goodIn_of _ (by decide +kernel)) ggL_revenue_X6_revenue
theorem dL_revenue_0 : decode cL_revenue 0 = .ok (.aload_n 0, 1) := by decide +kernel
theorem dL_revenue_1 : decode cL_revenue 1 = .ok (.iload_n 1, 1) := by decide +kernel
theorem dL_revenue_2 : decode cL_revenue 2 = .ok (.iload_n 2, 1) := by decide +kernel
theorem dL_revenue_3 : decode cL_revenue 3 = .ok (.invokevirtual 63, 3) := by decide +kernel
theorem dL_revenue_6 : decode cL_revenue 6 = .ok (.ireturn, 1) := by decide +kernel
theorem dL_revenue_7 : decode cL_revenue 7 = .ok (.astore_n 3, 1) := by decide +kernel
theorem dL_revenue_8 : decode cL_revenue 8 = .ok (.bipush (-101), 2) := by decide +kernel
theorem dL_revenue_10 : decode cL_revenue 10 = .ok (.ireturn, 1) := by decide +kernel
set_option maxRecDepth 20000 in
theorem ggL_due_X6_due : GoodIn wsL_due wsX6_due := goodIn_ca (goodIn_r _ [7, 8, 9, 10, 11, 12, 13, 6, 14, 15, 16, 17, 18, 19, 20, 21, 22, 23, 24, 25, 26, 27, 28, 29, 30, 31, 32, 33, 34, 35, 36, 37, 38, 39, 40, 41, 42, 43, 44, 45, 46, 47, 48, 49, 50, 51, 52, 53, 54, 55, 56, 57, 58, 59, 60, 61, 62, 63, 64, 65, 66, 67, 68, 69, 70, 71, 72, 73, 74, 75, 76, 77, 78, 79, 80, 81, 82, 83, 84, 85, 86, 87, 88, 89, 90, 91, 92, 93, 94, 95, 96, 97, 98, 99, 100, 101, 102, 103, 104, 105, 106, 107, 108, 109, 110, 111, 112, 113, 114, 115, 116, 117, 118, 119, 120, 121, 122, 123, 124, 125, 126, 127, 128, 129, 130, 131, 132, 133, 134, 135, 136, 137, 138, 139, 140, 141, 142, 143, 144, 145, 146, 147, 148, 149, 150, 151, 152, 153, 154, 155, 156, 157, 158, 159, 160, 161, 162, 163, 164, 165, 166, 167, 168, 169, 170, 171, 172, 173, 174, 175, 176, 177, 178, 179, 180, 181, 182, 183, 184, 185, 186, 187, 188, 189, 190] (by decide +kernel) (by decide +kernel)) (goodIn_sub (fun _ h => List.mem_cons_of_mem _ (List.mem_append_right _ h)) (by decide +kernel))
set_option maxRecDepth 20000 in
theorem gL_due_X6_due : GoodIn wsL_due (wsV RL 66 RX6 yX6_due wsX6_due) := goodIn_app (goodIn_of _ (by decide +kernel)) ggL_due_X6_due
theorem dL_due_0 : decode cL_due 0 = .ok (.aload_n 0, 1) := by decide +kernel
theorem dL_due_1 : decode cL_due 1 = .ok (.iload_n 1, 1) := by decide +kernel
theorem dL_due_2 : decode cL_due 2 = .ok (.iload_n 2, 1) := by decide +kernel
theorem dL_due_3 : decode cL_due 3 = .ok (.iload_n 3, 1) := by decide +kernel
theorem dL_due_4 : decode cL_due 4 = .ok (.invokevirtual 66, 3) := by decide +kernel
theorem dL_due_7 : decode cL_due 7 = .ok (.ireturn, 1) := by decide +kernel
theorem dL_due_8 : decode cL_due 8 = .ok (.astore 4, 2) := by decide +kernel
theorem dL_due_10 : decode cL_due 10 = .ok (.ldc 69, 2) := by decide +kernel
theorem dL_due_12 : decode cL_due 12 = .ok (.ireturn, 1) := by decide +kernel
set_option maxRecDepth 20000 in
theorem ggL_balance_X6_balance : GoodIn wsL_balance wsX6_balance := goodIn_ca (goodIn_r _ [7, 8, 9, 10, 11, 12, 13, 6, 14, 15, 16, 17, 18, 19, 20, 21, 22, 23, 24, 25, 26, 27, 28, 29, 30, 31, 32, 33, 34, 35, 36, 37, 38, 39, 40, 41, 42, 43, 44, 45, 46, 47, 48, 49, 50, 51, 52, 53, 54, 55, 56, 57, 58, 59, 60, 61, 62, 63, 64, 65, 66, 67, 68, 69, 70, 71, 72, 73, 74, 75, 76, 77, 78, 79, 80, 81, 82, 83, 84, 85, 86, 87, 88, 89, 90, 91, 92, 93, 94, 95, 96, 97, 98, 99, 100, 101, 102, 103, 104, 105, 106, 107, 108, 109, 110, 111, 112, 113, 114, 115, 116, 117, 118, 119, 120, 121, 122, 123, 124, 125, 126, 127, 128, 129, 130, 131, 132, 133, 134, 135, 136, 137, 138, 139, 140, 141, 142, 143, 144, 145, 146, 147, 148, 149, 150, 151, 152, 153, 154, 155, 156, 157, 158, 159, 160, 161, 162, 163, 164, 165, 166, 167, 168, 169, 170, 171, 172, 173, 174, 175, 176, 177, 178, 179, 180, 181, 182, 183, 184, 185, 186, 187, 188, 189, 190] (by decide +kernel) (by decide +kernel)) (goodIn_sub (fun _ h => List.mem_cons_of_mem _ (List.mem_append_right _ h)) (by decide +kernel))
set_option maxRecDepth 20000 in
theorem gL_balance_X6_balance : GoodIn wsL_balance (wsV RL 70 RX6 yX6_balance wsX6_balance) := goodIn_app (goodIn_of _ (by decide +kernel)) ggL_balance_X6_balance
theorem dL_balance_0 : decode cL_balance 0 = .ok (.aload_n 0, 1) := by decide +kernel
theorem dL_balance_1 : decode cL_balance 1 = .ok (.iload_n 1, 1) := by decide +kernel
theorem dL_balance_2 : decode cL_balance 2 = .ok (.iload_n 2, 1) := by decide +kernel
theorem dL_balance_3 : decode cL_balance 3 = .ok (.iload_n 3, 1) := by decide +kernel
theorem dL_balance_4 : decode cL_balance 4 = .ok (.invokevirtual 70, 3) := by decide +kernel
theorem dL_balance_7 : decode cL_balance 7 = .ok (.lreturn, 1) := by decide +kernel
theorem dL_balance_8 : decode cL_balance 8 = .ok (.astore 4, 2) := by decide +kernel
theorem dL_balance_10 : decode cL_balance 10 = .ok (.ldc2_w 74, 3) := by decide +kernel
theorem dL_balance_13 : decode cL_balance 13 = .ok (.lreturn, 1) := by decide +kernel
set_option maxRecDepth 20000 in
theorem ggL_agrees_X6_agrees : GoodIn wsL_agrees wsX6_agrees := goodIn_ca (goodIn_r _ [6, 7, 8, 9, 10, 11, 12, 13, 5, 14, 15, 16, 17, 18, 19, 20, 21, 22, 23, 24, 25, 26, 27, 28, 29, 30, 31, 32, 33, 34, 35, 36, 37, 38, 39, 40, 41, 42, 43, 44, 45, 46, 47, 48, 49, 50, 51, 52, 53, 54, 55, 56, 57, 58, 59, 60, 61, 62, 63, 64, 65, 66, 67, 68, 69, 70, 71, 72, 73, 74, 75, 76, 77, 78, 79, 80, 81, 82, 83, 84, 85, 86, 87, 88, 89, 90, 91, 92, 93, 94, 95, 96, 97, 98, 99, 100, 101, 102, 103, 104, 105, 106, 107, 108, 109, 110, 111, 112, 113, 114, 115, 116, 117, 118, 119, 120, 121, 122, 123, 124, 125, 126, 127, 128, 129, 130, 131, 132, 133, 134, 135, 136, 137, 138, 139, 140, 141, 142, 143, 144, 145, 146, 147, 148, 149, 150, 151, 152, 153, 154, 155, 156, 157, 158, 159, 160, 161, 162, 163, 164, 165, 166, 167, 168, 169, 170, 171, 172, 173, 174, 175, 176, 177, 178, 179, 180, 181, 182, 183, 184, 185, 186] (by decide +kernel) (by decide +kernel)) (goodIn_sub (fun _ h => List.mem_cons_of_mem _ (List.mem_append_right _ h)) (by decide +kernel))
set_option maxRecDepth 20000 in
theorem gL_agrees_X6_agrees : GoodIn wsL_agrees (wsV RL 76 RX6 yX6_agrees wsX6_agrees) := goodIn_app (goodIn_of _ (by decide +kernel)) ggL_agrees_X6_agrees
theorem dL_agrees_0 : decode cL_agrees 0 = .ok (.aload_n 0, 1) := by decide +kernel
theorem dL_agrees_1 : decode cL_agrees 1 = .ok (.iload_n 1, 1) := by decide +kernel
theorem dL_agrees_2 : decode cL_agrees 2 = .ok (.iload_n 2, 1) := by decide +kernel
theorem dL_agrees_3 : decode cL_agrees 3 = .ok (.invokevirtual 76, 3) := by decide +kernel
theorem dL_agrees_6 : decode cL_agrees 6 = .ok (.ifCond .eq 7, 3) := by decide +kernel
theorem dL_agrees_9 : decode cL_agrees 9 = .ok (.iconst 1, 1) := by decide +kernel
theorem dL_agrees_10 : decode cL_agrees 10 = .ok (.goto 4, 3) := by decide +kernel
theorem dL_agrees_13 : decode cL_agrees 13 = .ok (.iconst 0, 1) := by decide +kernel
theorem dL_agrees_14 : decode cL_agrees 14 = .ok (.ireturn, 1) := by decide +kernel
theorem dL_agrees_15 : decode cL_agrees 15 = .ok (.astore_n 3, 1) := by decide +kernel
theorem dL_agrees_16 : decode cL_agrees 16 = .ok (.bipush (-101), 2) := by decide +kernel
theorem dL_agrees_18 : decode cL_agrees 18 = .ok (.ireturn, 1) := by decide +kernel
set_option maxRecDepth 20000 in
theorem ggL_suspend_X6_suspend : GoodIn wsL_suspend wsX6_suspend := goodIn_ca (goodIn_r _ [6, 7, 8, 9, 10, 11, 5, 12, 13, 14, 15, 16, 17, 18, 19, 20, 21, 22, 23, 24, 25, 26, 27, 28, 29, 30, 31, 32, 33, 34, 35, 36, 37, 38] (by decide +kernel) (by decide +kernel)) (goodIn_sub (fun _ h => List.mem_cons_of_mem _ (List.mem_append_right _ h)) (by decide +kernel))
set_option maxRecDepth 20000 in
theorem gL_suspend_X6_suspend : GoodIn wsL_suspend (wsV RL 80 RX6 yX6_suspend wsX6_suspend) := goodIn_app (goodIn_of _ (by decide +kernel)) ggL_suspend_X6_suspend
theorem dL_suspend_0 : decode cL_suspend 0 = .ok (.aload_n 0, 1) := by decide +kernel
theorem dL_suspend_1 : decode cL_suspend 1 = .ok (.iload_n 1, 1) := by decide +kernel
theorem dL_suspend_2 : decode cL_suspend 2 = .ok (.iload_n 2, 1) := by decide +kernel
theorem dL_suspend_3 : decode cL_suspend 3 = .ok (.invokevirtual 80, 3) := by decide +kernel
theorem dL_suspend_6 : decode cL_suspend 6 = .ok (.ifCond .eq 7, 3) := by decide +kernel
theorem dL_suspend_9 : decode cL_suspend 9 = .ok (.iconst 1, 1) := by decide +kernel
theorem dL_suspend_10 : decode cL_suspend 10 = .ok (.goto 4, 3) := by decide +kernel
theorem dL_suspend_13 : decode cL_suspend 13 = .ok (.iconst 0, 1) := by decide +kernel
theorem dL_suspend_14 : decode cL_suspend 14 = .ok (.ireturn, 1) := by decide +kernel
theorem dL_suspend_15 : decode cL_suspend 15 = .ok (.astore_n 3, 1) := by decide +kernel
theorem dL_suspend_16 : decode cL_suspend 16 = .ok (.bipush (-101), 2) := by decide +kernel
theorem dL_suspend_18 : decode cL_suspend 18 = .ok (.ireturn, 1) := by decide +kernel
set_option maxRecDepth 20000 in
theorem ggL_least_X6_least : GoodIn wsL_least wsX6_least := goodIn_ca (goodIn_r _ [6, 7, 8, 9, 10, 11, 12, 13, 14, 15, 16, 17, 18, 19, 20, 21, 22, 23, 24, 25, 26, 27, 28, 29, 30] (by decide +kernel) (by decide +kernel)) (goodIn_sub (fun _ h => List.mem_cons_of_mem _ (List.mem_append_right _ h)) (by decide +kernel))
set_option maxRecDepth 20000 in
theorem gL_least_X6_least : GoodIn wsL_least (wsV RL 84 RX6 yX6_least wsX6_least) := goodIn_app (goodIn_of _ (by decide +kernel)) ggL_least_X6_least
theorem dL_least_0 : decode cL_least 0 = .ok (.aload_n 0, 1) := by decide +kernel
theorem dL_least_1 : decode cL_least 1 = .ok (.iload_n 1, 1) := by decide +kernel
theorem dL_least_2 : decode cL_least 2 = .ok (.invokevirtual 84, 3) := by decide +kernel
theorem dL_least_5 : decode cL_least 5 = .ok (.ireturn, 1) := by decide +kernel
theorem dL_least_6 : decode cL_least 6 = .ok (.astore_n 2, 1) := by decide +kernel
theorem dL_least_7 : decode cL_least 7 = .ok (.bipush (-102), 2) := by decide +kernel
theorem dL_least_9 : decode cL_least 9 = .ok (.ireturn, 1) := by decide +kernel
set_option maxRecDepth 20000 in
theorem ggL_owed_X6_owed : GoodIn wsL_owed wsX6_owed := goodIn_ca (goodIn_r _ [7, 8, 9, 10, 11, 6, 12, 13, 14, 15, 16, 17, 18, 19, 20, 21, 22, 23, 24, 25, 26, 27, 28, 29, 30, 31, 32, 33, 34, 35, 36, 37, 38, 39, 40, 41, 42, 43, 44, 45, 46, 47, 48, 49, 50, 51, 52, 53, 54, 55, 56, 57, 58, 59, 60, 61, 62, 63, 64, 65, 66, 67, 68, 69, 70, 71, 72, 73, 74, 75, 76, 77, 78, 79, 80, 81, 82, 83, 84, 85, 86, 87, 88, 89, 90, 91, 92, 93, 94, 95, 96, 97, 98, 99, 100, 101, 102, 103, 104, 105, 106, 107, 108, 109, 110, 111, 112, 113, 114, 115, 116, 117, 118, 119, 120, 121, 122, 123, 124, 125, 126, 127, 128, 129, 130, 131, 132, 133, 134, 135, 136, 137, 138, 139, 140, 141, 142, 143, 144, 145, 146, 147, 148, 149, 150, 151, 152, 153, 154, 155, 156, 157, 158, 159, 160, 161, 162, 163, 164, 165, 166, 167, 168, 169, 170, 171, 172, 173, 174, 175, 176, 177, 178, 179, 180, 181, 182, 183, 184, 185, 186, 187] (by decide +kernel) (by decide +kernel)) (goodIn_sub (fun _ h => List.mem_cons_of_mem _ (List.mem_append_right _ h)) (by decide +kernel))
set_option maxRecDepth 20000 in
theorem gL_owed_X6_owed : GoodIn wsL_owed (wsV RL 87 RX6 yX6_owed wsX6_owed) := goodIn_app (goodIn_of _ (by decide +kernel)) ggL_owed_X6_owed
theorem dL_owed_0 : decode cL_owed 0 = .ok (.aload_n 0, 1) := by decide +kernel
theorem dL_owed_1 : decode cL_owed 1 = .ok (.iload_n 1, 1) := by decide +kernel
theorem dL_owed_2 : decode cL_owed 2 = .ok (.invokevirtual 87, 3) := by decide +kernel
theorem dL_owed_5 : decode cL_owed 5 = .ok (.lreturn, 1) := by decide +kernel
theorem dL_owed_6 : decode cL_owed 6 = .ok (.astore_n 2, 1) := by decide +kernel
theorem dL_owed_7 : decode cL_owed 7 = .ok (.ldc2_w 91, 3) := by decide +kernel
theorem dL_owed_10 : decode cL_owed 10 = .ok (.lreturn, 1) := by decide +kernel
set_option maxRecDepth 20000 in
theorem ggL_paid_X6_paid : GoodIn wsL_paid wsX6_paid := goodIn_ca (goodIn_r _ [7, 8, 9, 10, 11, 12, 6, 13, 14, 15, 16, 17, 18, 19, 20, 21, 22, 23, 24, 25, 26, 27, 28, 29, 30, 31, 32, 33] (by decide +kernel) (by decide +kernel)) (goodIn_sub (fun _ h => List.mem_cons_of_mem _ (List.mem_append_right _ h)) (by decide +kernel))
set_option maxRecDepth 20000 in
theorem gL_paid_X6_paid : GoodIn wsL_paid (wsV RL 93 RX6 yX6_paid wsX6_paid) := goodIn_app (goodIn_of _ (by decide +kernel)) ggL_paid_X6_paid
theorem dL_paid_0 : decode cL_paid 0 = .ok (.aload_n 0, 1) := by decide +kernel
theorem dL_paid_1 : decode cL_paid 1 = .ok (.iload_n 1, 1) := by decide +kernel
theorem dL_paid_2 : decode cL_paid 2 = .ok (.invokevirtual 93, 3) := by decide +kernel
theorem dL_paid_5 : decode cL_paid 5 = .ok (.lreturn, 1) := by decide +kernel
theorem dL_paid_6 : decode cL_paid 6 = .ok (.astore_n 2, 1) := by decide +kernel
theorem dL_paid_7 : decode cL_paid 7 = .ok (.ldc2_w 74, 3) := by decide +kernel
theorem dL_paid_10 : decode cL_paid 10 = .ok (.lreturn, 1) := by decide +kernel
set_option maxRecDepth 20000 in
theorem ggL_fits_L_agrees : GoodIn wsL_fits wsL_agrees := goodIn_ca (goodIn_r _ [5, 6, 7, 8, 9, 10, 11, 12, 13, 14, 15, 16, 17, 18, 19, 20, 21, 22, 23, 24, 25, 26, 27, 28, 29, 30, 31, 32, 33, 34, 35, 36, 37, 38, 39, 40, 41, 42, 43, 44, 45, 46, 47, 48, 49, 50, 51, 52, 53, 54, 55, 56, 57, 58, 59, 60, 61, 62, 63, 64, 65, 66, 67, 68, 69, 70, 71, 72, 73, 74, 75, 76, 77, 78, 79, 80, 81, 82, 83, 84, 85, 86, 87, 88, 89, 90, 91, 92, 93, 94, 95, 96, 97, 98, 99, 100, 101, 102, 103, 104, 105, 106, 107, 108, 109, 110, 111, 112, 113, 114, 115, 116, 117, 118, 119, 120, 121, 122, 123, 124, 125, 126, 127, 128, 129, 130, 131, 132, 133, 134, 135, 136, 137, 138, 139, 140, 141, 142, 143, 144, 145, 146, 147, 174, 175, 176, 177, 178, 179, 180, 181, 182, 183, 184, 185, 186, 187, 188, 189, 190, 191, 192, 193, 194, 195, 196, 197, 198, 199, 200, 201, 202, 203, 204, 205, 206, 207, 208, 209, 210, 211, 212, 213, 214, 215, 216, 217] (by decide +kernel) (by decide +kernel)) (goodIn_sub (fun _ h => List.mem_cons_of_mem _ (List.mem_append_right _ h)) (by decide +kernel))
set_option maxRecDepth 20000 in
theorem gL_fits_L_agrees : GoodIn wsL_fits (va_wsS RL 96 yL_agrees wsL_agrees) := goodIn_app (goodIn_of _ (by decide +kernel)) ggL_fits_L_agrees
set_option maxRecDepth 20000 in
theorem ggL_fits_L_revenue : GoodIn wsL_fits wsL_revenue := goodIn_ca (goodIn_r _ [150, 6, 151, 152, 153, 10, 154, 12, 13, 16, 17, 18, 19, 20, 21, 22, 23, 24, 25, 26, 139, 140, 141, 142, 36, 115, 143, 144, 145, 146, 147, 174, 175, 176, 177, 178, 179, 180, 181, 182, 183, 184, 185, 186, 187, 188, 189, 190, 191, 192, 193, 194, 195, 196, 197, 198, 199, 200] (by decide +kernel) (by decide +kernel)) (goodIn_sub (fun _ h => List.mem_cons_of_mem _ (List.mem_append_right _ h)) (by decide +kernel))
set_option maxRecDepth 20000 in
theorem gL_fits_L_revenue : GoodIn wsL_fits (va_wsS RL 101 yL_revenue wsL_revenue) := goodIn_app (goodIn_of _ (by decide +kernel)) ggL_fits_L_revenue
set_option maxRecDepth 20000 in
theorem ggL_fits_L_interest : GoodIn wsL_fits wsL_interest := goodIn_ca (goodIn_r _ [157, 6, 158, 159, 160, 10, 161, 12, 13, 49, 162, 113, 16, 17, 18, 19, 20, 21, 22, 23, 24, 25, 26, 163, 164, 165, 45, 46, 47, 48, 50, 51, 52, 53, 54, 55, 56, 57, 58, 59, 60, 61, 62, 63, 64, 65, 66, 67, 68, 69, 70, 71, 72, 73, 74, 75, 76, 77, 78, 79, 80, 81, 82, 83, 84, 85, 86, 87, 88, 89, 90, 91, 92, 93, 94, 95, 120, 121, 122, 123, 124, 125, 126, 127, 128, 129, 130, 181, 182, 183, 184, 185, 186, 187, 188, 189, 190, 191, 192, 193, 194, 195, 196, 197, 198, 199, 200, 204, 205, 206, 174, 175, 176, 177, 178, 179, 180, 201, 202, 203, 207, 208, 209, 210, 211, 212, 213, 214, 215, 216, 217] (by decide +kernel) (by decide +kernel)) (goodIn_sub (fun _ h => List.mem_cons_of_mem _ (List.mem_append_right _ h)) (by decide +kernel))
set_option maxRecDepth 20000 in
theorem gL_fits_L_interest : GoodIn wsL_fits (va_wsS RL 103 yL_interest wsL_interest) := goodIn_app (goodIn_of _ (by decide +kernel)) ggL_fits_L_interest
set_option maxRecDepth 20000 in
theorem ggL_fits_L_balance : GoodIn wsL_fits wsL_balance := goodIn_ca (goodIn_r _ [168, 6, 169, 170, 171, 172, 10, 173, 12, 13, 101, 16, 17, 18, 19, 20, 21, 22, 23, 24, 25, 26, 163, 164, 165, 27, 28, 29, 30, 31, 32, 33, 34, 35, 36, 15, 37, 38, 39, 40, 41, 42, 43, 44, 45, 46, 47, 48, 49, 50, 51, 52, 53, 54, 55, 56, 57, 58, 59, 60, 61, 62, 63, 64, 65, 66, 67, 68, 69, 70, 71, 72, 73, 74, 75, 76, 77, 78, 79, 80, 81, 82, 83, 84, 85, 86, 87, 88, 89, 90, 91, 92, 93, 94, 95, 96, 97, 98, 99, 100, 102, 103, 104, 105, 106, 107, 108, 109, 110, 111, 112, 113, 114, 115, 14, 116, 117, 118, 119, 120, 121, 122, 123, 124, 125, 126, 127, 128, 129, 130, 131, 132, 133, 134, 135, 136, 137, 138, 139, 140, 141, 142, 143, 144, 145, 146, 147, 174, 175, 176, 177, 178, 179, 180, 181, 182, 183, 184, 185, 186, 187, 188, 189, 190, 191, 192, 193, 194, 195, 196, 197, 198, 199, 200, 201, 202, 203, 204, 205, 206, 207, 208, 209, 210, 211, 212, 213, 214, 215, 216, 217] (by decide +kernel) (by decide +kernel)) (goodIn_sub (fun _ h => List.mem_cons_of_mem _ (List.mem_append_right _ h)) (by decide +kernel))
set_option maxRecDepth 20000 in
theorem gL_fits_L_balance : GoodIn wsL_fits (va_wsS RL 106 yL_balance wsL_balance) := goodIn_app (goodIn_of _ (by decide +kernel)) ggL_fits_L_balance
end
section
theorem dL_fits_0 : decode cL_fits 0 = .ok (.iconst 0, 1) := by decide +kernel
theorem dL_fits_1 : decode cL_fits 1 = .ok (.istore_n 3, 1) := by decide +kernel
theorem dL_fits_2 : decode cL_fits 2 = .ok (.aload_n 0, 1) := by decide +kernel
theorem dL_fits_3 : decode cL_fits 3 = .ok (.iload_n 1, 1) := by decide +kernel
theorem dL_fits_4 : decode cL_fits 4 = .ok (.iload_n 2, 1) := by decide +kernel
theorem dL_fits_5 : decode cL_fits 5 = .ok (.invokestatic 96, 3) := by decide +kernel
theorem dL_fits_8 : decode cL_fits 8 = .ok (.iconst 1, 1) := by decide +kernel
theorem dL_fits_9 : decode cL_fits 9 = .ok (.if_icmp .ne 16, 3) := by decide +kernel
theorem dL_fits_12 : decode cL_fits 12 = .ok (.aload_n 0, 1) := by decide +kernel
theorem dL_fits_13 : decode cL_fits 13 = .ok (.iload_n 1, 1) := by decide +kernel
theorem dL_fits_14 : decode cL_fits 14 = .ok (.iload_n 2, 1) := by decide +kernel
theorem dL_fits_15 : decode cL_fits 15 = .ok (.invokestatic 101, 3) := by decide +kernel
theorem dL_fits_18 : decode cL_fits 18 = .ok (.ifCond .lt 7, 3) := by decide +kernel
theorem dL_fits_21 : decode cL_fits 21 = .ok (.iconst 1, 1) := by decide +kernel
theorem dL_fits_22 : decode cL_fits 22 = .ok (.goto 4, 3) := by decide +kernel
theorem dL_fits_25 : decode cL_fits 25 = .ok (.iconst 0, 1) := by decide +kernel
theorem dL_fits_26 : decode cL_fits 26 = .ok (.istore 4, 2) := by decide +kernel
theorem dL_fits_28 : decode cL_fits 28 = .ok (.iconst 0, 1) := by decide +kernel
theorem dL_fits_29 : decode cL_fits 29 = .ok (.istore 5, 2) := by decide +kernel
theorem dL_fits_31 : decode cL_fits 31 = .ok (.iload 5, 2) := by decide +kernel
theorem dL_fits_33 : decode cL_fits 33 = .ok (.bipush 10, 2) := by decide +kernel
theorem dL_fits_35 : decode cL_fits 35 = .ok (.if_icmp .ge 81, 3) := by decide +kernel
theorem dL_fits_38 : decode cL_fits 38 = .ok (.iload 4, 2) := by decide +kernel
theorem dL_fits_40 : decode cL_fits 40 = .ok (.ifCond .eq 76, 3) := by decide +kernel
theorem dL_fits_43 : decode cL_fits 43 = .ok (.aload_n 0, 1) := by decide +kernel
theorem dL_fits_44 : decode cL_fits 44 = .ok (.iload_n 1, 1) := by decide +kernel
theorem dL_fits_45 : decode cL_fits 45 = .ok (.iload_n 2, 1) := by decide +kernel
theorem dL_fits_46 : decode cL_fits 46 = .ok (.iload 5, 2) := by decide +kernel
theorem dL_fits_48 : decode cL_fits 48 = .ok (.iconst 1, 1) := by decide +kernel
theorem dL_fits_49 : decode cL_fits 49 = .ok (.invokestatic 103, 3) := by decide +kernel
theorem dL_fits_52 : decode cL_fits 52 = .ok (.istore 6, 2) := by decide +kernel
theorem dL_fits_54 : decode cL_fits 54 = .ok (.aload_n 0, 1) := by decide +kernel
theorem dL_fits_55 : decode cL_fits 55 = .ok (.iload_n 1, 1) := by decide +kernel
theorem dL_fits_56 : decode cL_fits 56 = .ok (.iload_n 2, 1) := by decide +kernel
theorem dL_fits_57 : decode cL_fits 57 = .ok (.iload 5, 2) := by decide +kernel
theorem dL_fits_59 : decode cL_fits 59 = .ok (.iconst 0, 1) := by decide +kernel
theorem dL_fits_60 : decode cL_fits 60 = .ok (.invokestatic 103, 3) := by decide +kernel
theorem dL_fits_63 : decode cL_fits 63 = .ok (.istore 7, 2) := by decide +kernel
theorem dL_fits_65 : decode cL_fits 65 = .ok (.iload_n 3, 1) := by decide +kernel
theorem dL_fits_66 : decode cL_fits 66 = .ok (.iload 6, 2) := by decide +kernel
theorem dL_fits_68 : decode cL_fits 68 = .ok (.iload 7, 2) := by decide +kernel
theorem dL_fits_70 : decode cL_fits 70 = .ok (.iadd, 1) := by decide +kernel
theorem dL_fits_71 : decode cL_fits 71 = .ok (.iadd, 1) := by decide +kernel
theorem dL_fits_72 : decode cL_fits 72 = .ok (.istore_n 3, 1) := by decide +kernel
theorem dL_fits_73 : decode cL_fits 73 = .ok (.iload 6, 2) := by decide +kernel
theorem dL_fits_75 : decode cL_fits 75 = .ok (.ifCond .lt 32, 3) := by decide +kernel
theorem dL_fits_78 : decode cL_fits 78 = .ok (.iload 7, 2) := by decide +kernel
theorem dL_fits_80 : decode cL_fits 80 = .ok (.ifCond .lt 27, 3) := by decide +kernel
theorem dL_fits_83 : decode cL_fits 83 = .ok (.iload 5, 2) := by decide +kernel
theorem dL_fits_85 : decode cL_fits 85 = .ok (.iconst 4, 1) := by decide +kernel
theorem dL_fits_86 : decode cL_fits 86 = .ok (.irem, 1) := by decide +kernel
theorem dL_fits_87 : decode cL_fits 87 = .ok (.ifCond .ne 16, 3) := by decide +kernel
theorem dL_fits_90 : decode cL_fits 90 = .ok (.aload_n 0, 1) := by decide +kernel
theorem dL_fits_91 : decode cL_fits 91 = .ok (.iload_n 1, 1) := by decide +kernel
theorem dL_fits_92 : decode cL_fits 92 = .ok (.iload_n 2, 1) := by decide +kernel
theorem dL_fits_93 : decode cL_fits 93 = .ok (.iload 5, 2) := by decide +kernel
theorem dL_fits_95 : decode cL_fits 95 = .ok (.invokestatic 106, 3) := by decide +kernel
theorem dL_fits_98 : decode cL_fits 98 = .ok (.lconst 0, 1) := by decide +kernel
theorem dL_fits_99 : decode cL_fits 99 = .ok (.lcmp, 1) := by decide +kernel
theorem dL_fits_100 : decode cL_fits 100 = .ok (.ifCond .lt 7, 3) := by decide +kernel
theorem dL_fits_103 : decode cL_fits 103 = .ok (.iconst 1, 1) := by decide +kernel
theorem dL_fits_104 : decode cL_fits 104 = .ok (.goto 4, 3) := by decide +kernel
theorem dL_fits_107 : decode cL_fits 107 = .ok (.iconst 0, 1) := by decide +kernel
theorem dL_fits_108 : decode cL_fits 108 = .ok (.istore 4, 2) := by decide +kernel
theorem dL_fits_110 : decode cL_fits 110 = .ok (.iinc 5 1, 3) := by decide +kernel
theorem dL_fits_113 : decode cL_fits 113 = .ok (.goto (-82), 3) := by decide +kernel
theorem dL_fits_116 : decode cL_fits 116 = .ok (.iload 4, 2) := by decide +kernel
theorem dL_fits_118 : decode cL_fits 118 = .ok (.ifCond .eq 13, 3) := by decide +kernel
theorem dL_fits_121 : decode cL_fits 121 = .ok (.iload_n 3, 1) := by decide +kernel
theorem dL_fits_122 : decode cL_fits 122 = .ok (.ldc 109, 2) := by decide +kernel
theorem dL_fits_124 : decode cL_fits 124 = .ok (.if_icmp .ne 7, 3) := by decide +kernel
theorem dL_fits_127 : decode cL_fits 127 = .ok (.iconst 1, 1) := by decide +kernel
theorem dL_fits_128 : decode cL_fits 128 = .ok (.goto 4, 3) := by decide +kernel
theorem dL_fits_131 : decode cL_fits 131 = .ok (.iconst 0, 1) := by decide +kernel
theorem dL_fits_132 : decode cL_fits 132 = .ok (.ireturn, 1) := by decide +kernel
set_option maxRecDepth 20000 in
theorem ggL_law_X6_init : GoodIn wsL_law wsX6_init := goodIn_r _ [7, 8, 9, 10, 11, 12, 13, 14, 15, 16, 17, 18, 19, 20, 21, 22, 23, 24, 25, 26, 27, 28, 29, 30, 31, 32, 33, 34, 35, 36, 37, 38, 39, 40, 41, 42, 43, 44, 45, 46, 47, 440, 441, 442, 443, 444, 445, 446, 447, 448, 449, 450, 451, 452, 453, 454, 455, 456, 457, 458, 459, 460, 461, 462] (by decide +kernel) (by decide +kernel)
set_option maxRecDepth 20000 in
theorem gL_law_X6_init : GoodIn wsL_law (wsX6_init) := ggL_law_X6_init
set_option maxRecDepth 20000 in
theorem ggL_law_L_drawn : GoodIn wsL_law wsL_drawn := goodIn_r _ [51, 52, 53] (by decide +kernel) (by decide +kernel)
set_option maxRecDepth 20000 in
theorem gL_law_L_drawn : GoodIn wsL_law (va_wsS RL 111 yL_drawn wsL_drawn) := goodIn_app (goodIn_of _ (by decide +kernel)) ggL_law_L_drawn
set_option maxRecDepth 20000 in
theorem ggL_law_L_tract : GoodIn wsL_law wsL_tract := goodIn_ca (goodIn_ca (goodIn_ca (goodIn_r _ [56, 57, 58, 59, 60, 61, 62, 2, 63, 64, 65, 66, 67, 68, 69, 14, 13, 12, 70, 71, 72, 73, 74, 75, 76, 77, 78, 9, 10, 79, 80, 81, 440, 441, 442, 443, 444, 445, 446, 447, 448, 449, 450, 451, 452, 453, 454, 455, 456, 457, 458, 459, 463, 464, 465] (by decide +kernel) (by decide +kernel)) (goodIn_sub (fun _ h => List.mem_append_left _ (List.mem_append_left _ (List.mem_append_right _ h))) (by decide +kernel))) (goodIn_sub (fun _ h => List.mem_append_left _ (List.mem_append_right _ h)) (by decide +kernel))) (goodIn_sub (fun _ h => List.mem_append_right _ h) (by decide +kernel))
set_option maxRecDepth 20000 in
theorem gL_law_L_tract : GoodIn wsL_law (va_wsS RL 115 yL_tract wsL_tract) := goodIn_app (goodIn_of _ (by decide +kernel)) ggL_law_L_tract
set_option maxRecDepth 20000 in
theorem ggL_law_L_deed : GoodIn wsL_law wsL_deed := goodIn_ca (goodIn_ca (goodIn_ca (goodIn_r _ [84, 57, 58, 59, 85, 86, 87, 2, 88, 64, 65, 66, 67, 68, 69, 17, 16, 15, 89, 90, 11, 91, 92, 93, 94, 13, 72, 73, 74, 95, 96, 97, 98, 99, 100, 101, 102, 103, 104, 105, 106, 107, 108, 109, 110, 111, 112, 113, 114, 115, 116, 117, 118, 119, 120, 9, 10, 121, 122, 123, 124, 125, 126, 127, 128, 129, 34, 440, 441, 442, 443, 444, 445, 446, 447, 448, 449, 450, 451, 452, 453, 454, 455, 456, 457, 458, 459, 466, 467, 468, 469, 470, 463, 464, 465] (by decide +kernel) (by decide +kernel)) (goodIn_sub (fun _ h => List.mem_append_left _ (List.mem_append_left _ (List.mem_append_right _ h))) (by decide +kernel))) (goodIn_sub (fun _ h => List.mem_append_left _ (List.mem_append_right _ h)) (by decide +kernel))) (goodIn_sub (fun _ h => List.mem_append_right _ h) (by decide +kernel))
set_option maxRecDepth 20000 in
theorem gL_law_L_deed : GoodIn wsL_law (va_wsS RL 117 yL_deed wsL_deed) := goodIn_app (goodIn_of _ (by decide +kernel)) ggL_law_L_deed
set_option maxRecDepth 20000 in
theorem ggL_law_L_unit : GoodIn wsL_law wsL_unit := goodIn_ca (goodIn_ca (goodIn_r _ [132, 58, 59, 133, 134, 135, 2, 136, 66, 67, 68, 69, 14, 23, 21, 137, 138, 11, 13, 139, 22, 140, 141, 142, 143, 144, 145, 146, 147, 148, 149, 150, 9, 10, 27, 151, 152, 153, 154, 32, 155, 156, 157, 126, 127, 128, 129, 34, 103, 104, 105, 106, 440, 441, 442, 443, 444, 445, 446, 447, 448, 449, 450, 451, 452, 453, 454, 455, 456, 457, 458, 459, 471, 472, 473, 474, 475, 476, 477, 463, 464, 465] (by decide +kernel) (by decide +kernel)) (goodIn_sub (fun _ h => List.mem_append_left _ (List.mem_append_right _ h)) (by decide +kernel))) (goodIn_sub (fun _ h => List.mem_append_right _ h) (by decide +kernel))
set_option maxRecDepth 20000 in
theorem gL_law_L_unit : GoodIn wsL_law (va_wsS RL 120 yL_unit wsL_unit) := goodIn_app (goodIn_of _ (by decide +kernel)) ggL_law_L_unit
set_option maxRecDepth 20000 in
theorem ggL_law_L_well : GoodIn wsL_law wsL_well := goodIn_ca (goodIn_ca (goodIn_r _ [160, 57, 59, 161, 162, 163, 2, 164, 64, 65, 68, 69, 26, 25, 24, 165, 166, 167, 168, 169, 170, 22, 171, 172, 173, 174, 9, 10, 27, 175, 176, 177, 178, 440, 441, 442, 443, 444, 445, 446, 447, 448, 449, 450, 451, 452, 453, 454, 455, 456, 457, 458, 459, 478, 479, 480, 481] (by decide +kernel) (by decide +kernel)) (goodIn_sub (fun _ h => List.mem_append_left _ (List.mem_append_left _ (List.mem_append_right _ h))) (by decide +kernel))) (goodIn_sub (fun _ h => List.mem_append_right _ h) (by decide +kernel))
set_option maxRecDepth 20000 in
theorem gL_law_L_well : GoodIn wsL_law (va_wsS RL 123 yL_well wsL_well) := goodIn_app (goodIn_of _ (by decide +kernel)) ggL_law_L_well
set_option maxRecDepth 20000 in
theorem ggL_law_L_lease : GoodIn wsL_law wsL_lease := goodIn_ca (goodIn_ca (goodIn_ca (goodIn_r _ [181, 57, 58, 59, 182, 183, 184, 2, 185, 64, 65, 66, 67, 68, 69, 20, 18, 186, 187, 11, 188, 189, 19, 91, 92, 93, 94, 13, 72, 73, 74, 190, 191, 192, 193, 9, 10, 194, 195, 196, 197, 198, 199, 126, 127, 128, 129, 34, 103, 104, 105, 106, 440, 441, 442, 443, 444, 445, 446, 447, 448, 449, 450, 451, 452, 453, 454, 455, 456, 457, 458, 459, 482, 483, 484, 485, 486, 487] (by decide +kernel) (by decide +kernel)) (goodIn_sub (fun _ h => List.mem_append_left _ (List.mem_append_left _ (List.mem_append_right _ h))) (by decide +kernel))) (goodIn_sub (fun _ h => List.mem_append_left _ (List.mem_append_right _ h)) (by decide +kernel))) (goodIn_sub (fun _ h => List.mem_append_right _ h) (by decide +kernel))
set_option maxRecDepth 20000 in
theorem gL_law_L_lease : GoodIn wsL_law (va_wsS RL 125 yL_lease wsL_lease) := goodIn_app (goodIn_of _ (by decide +kernel)) ggL_law_L_lease
set_option maxRecDepth 20000 in
theorem ggL_law_L_oil : GoodIn wsL_law wsL_oil := goodIn_ca (goodIn_ca (goodIn_ca (goodIn_r _ [202, 57, 58, 59, 203, 204, 205, 2, 206, 64, 65, 66, 67, 68, 69, 207, 208, 209, 210, 211, 212, 213, 25, 95, 96, 97, 98, 11, 214, 215, 216, 166, 217, 178, 218, 175, 219, 176, 126, 127, 128, 129, 34, 103, 104, 105, 106, 478, 479, 480, 481, 471, 472, 473, 474, 475, 476, 477, 440, 441, 442, 443, 444, 445, 446, 447, 448, 449, 450, 451, 452, 453, 454, 455, 456, 457, 458, 459] (by decide +kernel) (by decide +kernel)) (goodIn_sub (fun _ h => List.mem_append_left _ (List.mem_append_left _ (List.mem_append_right _ h))) (by decide +kernel))) (goodIn_sub (fun _ h => List.mem_append_left _ (List.mem_append_right _ h)) (by decide +kernel))) (goodIn_sub (fun _ h => List.mem_append_right _ h) (by decide +kernel))
set_option maxRecDepth 20000 in
theorem gL_law_L_oil : GoodIn wsL_law (va_wsS RL 127 yL_oil wsL_oil) := goodIn_app (goodIn_of _ (by decide +kernel)) ggL_law_L_oil
set_option maxRecDepth 20000 in
theorem ggL_law_L_cost : GoodIn wsL_law wsL_cost := goodIn_ca (goodIn_ca (goodIn_ca (goodIn_r _ [222, 57, 58, 59, 223, 224, 225, 2, 226, 64, 65, 66, 67, 68, 69, 227, 207, 208, 228, 229, 230, 210, 211, 212, 213, 25, 95, 96, 97, 98, 11, 126, 127, 128, 129, 34, 103, 104, 105, 106, 478, 479, 480, 481, 471, 472, 473, 474, 475, 476, 477, 440, 441, 442, 443, 444, 445, 446, 447, 448, 449, 450, 451, 452, 453, 454, 455, 456, 457, 458, 459] (by decide +kernel) (by decide +kernel)) (goodIn_sub (fun _ h => List.mem_append_left _ (List.mem_append_left _ (List.mem_append_right _ h))) (by decide +kernel))) (goodIn_sub (fun _ h => List.mem_append_left _ (List.mem_append_right _ h)) (by decide +kernel))) (goodIn_sub (fun _ h => List.mem_append_right _ h) (by decide +kernel))
set_option maxRecDepth 20000 in
theorem gL_law_L_cost : GoodIn wsL_law (va_wsS RL 131 yL_cost wsL_cost) := goodIn_app (goodIn_of _ (by decide +kernel)) ggL_law_L_cost
set_option maxRecDepth 20000 in
theorem ggL_law_L_consent : GoodIn wsL_law wsL_consent := goodIn_ca (goodIn_r _ [233, 57, 234, 235, 236, 2, 237, 64, 65, 238, 11, 167, 168, 169, 170, 22, 72, 73, 74, 144, 145, 146, 239, 240, 241, 126, 127, 128, 129, 34, 103, 104, 105, 106, 471, 472, 473, 474, 475, 476, 477, 440, 441, 442, 443, 444, 445, 446, 447, 448, 449, 450, 451, 452, 453, 454, 455, 456, 457, 458, 459] (by decide +kernel) (by decide +kernel)) (goodIn_sub (fun _ h => List.mem_append_left _ (List.mem_append_left _ (List.mem_append_right _ h))) (by decide +kernel))
set_option maxRecDepth 20000 in
theorem gL_law_L_consent : GoodIn wsL_law (va_wsS RL 134 yL_consent wsL_consent) := goodIn_app (goodIn_of _ (by decide +kernel)) ggL_law_L_consent
set_option maxRecDepth 20000 in
theorem ggL_law_L_penalty : GoodIn wsL_law wsL_penalty := goodIn_ca (goodIn_r _ [244, 58, 245, 246, 247, 2, 248, 66, 67, 29, 126, 127, 128, 129, 34, 103, 104, 105, 106, 440, 441, 442, 443, 444, 445, 446, 447, 448, 449, 450, 451, 452, 453, 454, 455, 456, 457, 458, 459] (by decide +kernel) (by decide +kernel)) (goodIn_sub (fun _ h => List.mem_append_left _ (List.mem_append_right _ h)) (by decide +kernel))
set_option maxRecDepth 20000 in
theorem gL_law_L_penalty : GoodIn wsL_law (va_wsS RL 137 yL_penalty wsL_penalty) := goodIn_app (goodIn_of _ (by decide +kernel)) ggL_law_L_penalty
set_option maxRecDepth 20000 in
theorem ggL_law_L_tax : GoodIn wsL_law wsL_tax := goodIn_ca (goodIn_ca (goodIn_r _ [251, 57, 58, 252, 253, 254, 2, 255, 64, 65, 66, 67, 28, 95, 96, 97, 98, 11, 256, 257, 258, 259, 126, 127, 128, 129, 34, 103, 104, 105, 106, 440, 441, 442, 443, 444, 445, 446, 447, 448, 449, 450, 451, 452, 453, 454, 455, 456, 457, 458, 459] (by decide +kernel) (by decide +kernel)) (goodIn_sub (fun _ h => List.mem_append_left _ (List.mem_append_left _ (List.mem_append_right _ h))) (by decide +kernel))) (goodIn_sub (fun _ h => List.mem_append_left _ (List.mem_append_right _ h)) (by decide +kernel))
set_option maxRecDepth 20000 in
theorem gL_law_L_tax : GoodIn wsL_law (va_wsS RL 139 yL_tax wsL_tax) := goodIn_app (goodIn_of _ (by decide +kernel)) ggL_law_L_tax
set_option maxRecDepth 20000 in
theorem ggL_law_L_least : GoodIn wsL_law wsL_least := goodIn_ca (goodIn_r _ [262, 58, 263, 264, 265, 2, 266, 66, 67, 267, 31, 440, 441, 442, 443, 444, 445, 446, 447, 448, 449, 450, 451, 452, 453, 454, 455, 456, 457, 458, 459] (by decide +kernel) (by decide +kernel)) (goodIn_sub (fun _ h => List.mem_append_left _ (List.mem_append_right _ h)) (by decide +kernel))
set_option maxRecDepth 20000 in
theorem gL_law_L_least : GoodIn wsL_law (va_wsS RL 141 yL_least wsL_least) := goodIn_app (goodIn_of _ (by decide +kernel)) ggL_law_L_least
set_option maxRecDepth 20000 in
theorem ggL_law_L_suspend : GoodIn wsL_law wsL_suspend := goodIn_ca (goodIn_r _ [270, 57, 271, 272, 273, 2, 274, 64, 65, 30, 72, 73, 74, 144, 145, 146, 239, 240, 241, 440, 441, 442, 443, 444, 445, 446, 447, 448, 449, 450, 451, 452, 453, 454, 455, 456, 457, 458, 459] (by decide +kernel) (by decide +kernel)) (goodIn_sub (fun _ h => List.mem_append_left _ (List.mem_append_left _ (List.mem_append_right _ h))) (by decide +kernel))
set_option maxRecDepth 20000 in
theorem gL_law_L_suspend : GoodIn wsL_law (va_wsS RL 143 yL_suspend wsL_suspend) := goodIn_app (goodIn_of _ (by decide +kernel)) ggL_law_L_suspend
set_option maxRecDepth 20000 in
theorem ggL_law_L_paid : GoodIn wsL_law wsL_paid := goodIn_ca (goodIn_r _ [277, 57, 278, 279, 280, 281, 2, 282, 64, 65, 33, 72, 73, 74, 440, 441, 442, 443, 444, 445, 446, 447, 448, 449, 450, 451, 452, 453, 454, 455, 456, 457, 458, 459] (by decide +kernel) (by decide +kernel)) (goodIn_sub (fun _ h => List.mem_append_left _ (List.mem_append_left _ (List.mem_append_right _ h))) (by decide +kernel))
set_option maxRecDepth 20000 in
theorem gL_law_L_paid : GoodIn wsL_law (va_wsS RL 146 yL_paid wsL_paid) := goodIn_app (goodIn_of _ (by decide +kernel)) ggL_law_L_paid
set_option maxRecDepth 20000 in
theorem ggL_law_X6_payDay : GoodIn wsL_law wsX6_payDay := goodIn_r _ [286, 30, 31, 33, 287, 288, 289, 2, 290, 34, 11, 22, 208, 291, 292, 293, 294, 295, 230, 296, 297, 298, 138, 299, 155, 156, 157, 300, 301, 302, 303, 39, 13, 139, 304, 305, 306, 38, 307, 45, 308, 309, 310, 311, 35, 312, 313, 314, 315, 316, 317, 318, 319, 320, 111, 16, 112, 113, 116, 115, 114, 321, 322, 323, 324, 19, 325, 326, 327, 328, 329, 187, 330, 194, 196, 331, 195, 332, 333, 334, 335, 336, 238, 337, 144, 145, 146, 239, 240, 241, 338, 339, 340, 341, 40, 342, 29, 343, 344, 345, 346, 347, 348, 349, 350, 351, 352, 46, 47, 353, 354, 355, 356, 357, 358, 359, 360, 361, 362, 363, 105, 364, 365, 366, 367, 368, 256, 257, 258, 259, 28, 369, 370, 371, 372, 440, 441, 442, 443, 444, 445, 446, 447, 448, 449, 450, 451, 452, 453, 454, 455, 456, 457, 458, 459, 471, 472, 473, 474, 475, 476, 477, 463, 464, 465, 460, 461, 462, 482, 483, 484, 485, 486, 487, 466, 467, 468, 469, 470] (by decide +kernel) (by decide +kernel)
set_option maxRecDepth 20000 in
theorem gL_law_X6_payDay : GoodIn wsL_law (wsV RL 149 RX6 yX6_payDay wsX6_payDay) := goodIn_app (goodIn_of _ (by decide +kernel)) ggL_law_X6_payDay
set_option maxRecDepth 20000 in
theorem ggL_law_L_pass : GoodIn wsL_law wsL_pass := goodIn_ca (goodIn_ca (goodIn_r _ [375, 58, 59, 376, 377, 378, 2, 379, 66, 67, 68, 69, 11, 440, 441, 442, 443, 444, 445, 446, 447, 448, 449, 450, 451, 452, 453, 454, 455, 456, 457, 458, 459] (by decide +kernel) (by decide +kernel)) (goodIn_sub (fun _ h => List.mem_append_left _ (List.mem_append_right _ h)) (by decide +kernel))) (goodIn_sub (fun _ h => List.mem_append_right _ h) (by decide +kernel))
set_option maxRecDepth 20000 in
theorem gL_law_L_pass : GoodIn wsL_law (va_wsS RL 153 yL_pass wsL_pass) := goodIn_app (goodIn_of _ (by decide +kernel)) ggL_law_L_pass
set_option maxRecDepth 20000 in
theorem ggL_law_L_title : GoodIn wsL_law wsL_title := goodIn_ca (goodIn_r _ [382, 57, 383, 384, 385, 2, 386, 64, 65, 91, 92, 93, 94, 13, 72, 73, 74, 95, 96, 97, 98, 11, 107, 108, 109, 110, 111, 16, 112, 113, 114, 115, 116, 440, 441, 442, 443, 444, 445, 446, 447, 448, 449, 450, 451, 452, 453, 454, 455, 456, 457, 458, 459, 463, 464, 465, 466, 467, 468, 469, 470] (by decide +kernel) (by decide +kernel)) (goodIn_sub (fun _ h => List.mem_append_left _ (List.mem_append_left _ (List.mem_append_right _ h))) (by decide +kernel))
set_option maxRecDepth 20000 in
theorem gL_law_L_title : GoodIn wsL_law (va_wsS RL 155 yL_title wsL_title) := goodIn_app (goodIn_of _ (by decide +kernel)) ggL_law_L_title
set_option maxRecDepth 20000 in
theorem ggL_law_L_revenue : GoodIn wsL_law wsL_revenue := goodIn_ca (goodIn_r _ [389, 57, 390, 391, 392, 2, 393, 64, 65, 394, 395, 396, 397, 208, 11, 167, 168, 169, 170, 22, 365, 366, 367, 368, 295, 343, 256, 257, 258, 259, 28, 471, 472, 473, 474, 475, 476, 477, 440, 441, 442, 443, 444, 445, 446, 447, 448, 449, 450, 451, 452, 453, 454, 455, 456, 457, 458, 459] (by decide +kernel) (by decide +kernel)) (goodIn_sub (fun _ h => List.mem_append_left _ (List.mem_append_left _ (List.mem_append_right _ h))) (by decide +kernel))
set_option maxRecDepth 20000 in
theorem gL_law_L_revenue : GoodIn wsL_law (va_wsS RL 101 yL_revenue wsL_revenue) := goodIn_app (goodIn_of _ (by decide +kernel)) ggL_law_L_revenue
set_option maxRecDepth 20000 in
theorem ggL_law_L_fits : GoodIn wsL_law wsL_fits := goodIn_ca (goodIn_r _ [400, 401, 402, 403, 50, 404, 57, 405, 406, 407, 2, 408, 64, 65, 344, 230, 394, 395, 396, 397, 208, 11, 167, 168, 169, 170, 22, 287, 288, 289, 290, 34, 291, 292, 293, 294, 295, 296, 297, 298, 138, 299, 155, 156, 157, 300, 301, 302, 303, 39, 13, 139, 304, 305, 306, 38, 307, 45, 308, 309, 310, 311, 35, 312, 313, 314, 315, 316, 317, 318, 319, 320, 111, 16, 112, 113, 116, 115, 114, 321, 322, 323, 324, 19, 325, 326, 327, 328, 329, 187, 330, 194, 196, 331, 195, 332, 333, 334, 335, 336, 238, 337, 144, 145, 146, 239, 240, 241, 338, 339, 340, 341, 40, 342, 29, 343, 345, 346, 347, 348, 349, 350, 351, 352, 46, 47, 353, 354, 355, 356, 357, 358, 359, 360, 361, 362, 363, 105, 364, 365, 366, 367, 368, 256, 257, 258, 259, 28, 387, 388, 389, 390, 391, 392, 393, 409, 410, 411, 412, 413, 414, 415, 416, 72, 73, 74, 417, 418, 419, 278, 420, 421, 422, 423, 471, 472, 473, 474, 475, 476, 477, 440, 441, 442, 443, 444, 445, 446, 447, 448, 449, 450, 451, 452, 453, 454, 455, 456, 457, 458, 459, 463, 464, 465, 460, 461, 462, 482, 483, 484, 485, 486, 487, 466, 467, 468, 469, 470] (by decide +kernel) (by decide +kernel)) (goodIn_sub (fun _ h => List.mem_append_left _ (List.mem_append_left _ (List.mem_append_right _ h))) (by decide +kernel))
set_option maxRecDepth 20000 in
theorem gL_law_L_fits : GoodIn wsL_law (va_wsS RL 157 yL_fits wsL_fits) := goodIn_app (goodIn_of _ (by decide +kernel)) ggL_law_L_fits
set_option maxRecDepth 20000 in
theorem ggL_law_L_due : GoodIn wsL_law wsL_due := goodIn_ca (goodIn_r _ [426, 57, 427, 428, 429, 430, 2, 431, 64, 65, 344, 394, 395, 396, 397, 208, 11, 167, 168, 169, 170, 22, 72, 73, 74, 287, 288, 289, 290, 34, 291, 292, 293, 294, 295, 230, 296, 297, 298, 138, 299, 155, 156, 157, 300, 301, 302, 303, 39, 13, 139, 304, 305, 306, 38, 307, 45, 308, 309, 310, 311, 35, 312, 313, 314, 315, 316, 317, 318, 319, 320, 111, 16, 112, 113, 116, 115, 114, 321, 322, 323, 324, 19, 325, 326, 327, 328, 329, 187, 330, 194, 196, 331, 195, 332, 333, 334, 335, 336, 238, 337, 144, 145, 146, 239, 240, 241, 338, 339, 340, 341, 40, 342, 29, 343, 345, 346, 347, 348, 349, 350, 351, 352, 46, 47, 353, 354, 355, 356, 357, 358, 359, 360, 361, 362, 363, 105, 364, 365, 366, 367, 368, 256, 257, 258, 259, 28, 471, 472, 473, 474, 475, 476, 477, 440, 441, 442, 443, 444, 445, 446, 447, 448, 449, 450, 451, 452, 453, 454, 455, 456, 457, 458, 459, 463, 464, 465, 460, 461, 462, 482, 483, 484, 485, 486, 487, 466, 467, 468, 469, 470] (by decide +kernel) (by decide +kernel)) (goodIn_sub (fun _ h => List.mem_append_left _ (List.mem_append_left _ (List.mem_append_right _ h))) (by decide +kernel))
set_option maxRecDepth 20000 in
theorem gL_law_L_due : GoodIn wsL_law (va_wsS RL 161 yL_due wsL_due) := goodIn_app (goodIn_of _ (by decide +kernel)) ggL_law_L_due
set_option maxRecDepth 20000 in
theorem ggL_law_L_owed : GoodIn wsL_law wsL_owed := goodIn_ca (goodIn_r _ [434, 57, 435, 436, 437, 438, 2, 439, 64, 65, 72, 73, 74, 287, 288, 289, 290, 34, 11, 22, 208, 291, 292, 293, 294, 295, 230, 296, 297, 298, 138, 299, 155, 156, 157, 300, 301, 302, 303, 39, 13, 139, 304, 305, 306, 38, 307, 45, 308, 309, 310, 311, 35, 312, 313, 314, 315, 316, 317, 318, 319, 320, 111, 16, 112, 113, 116, 115, 114, 321, 322, 323, 324, 19, 325, 326, 327, 328, 329, 187, 330, 194, 196, 331, 195, 332, 333, 334, 335, 336, 238, 337, 144, 145, 146, 239, 240, 241, 338, 339, 340, 341, 40, 342, 29, 343, 344, 345, 346, 347, 348, 349, 350, 351, 352, 46, 47, 353, 354, 355, 356, 357, 358, 359, 360, 361, 362, 363, 105, 364, 365, 366, 367, 368, 256, 257, 258, 259, 28, 369, 370, 371, 372, 33, 440, 441, 442, 443, 444, 445, 446, 447, 448, 449, 450, 451, 452, 453, 454, 455, 456, 457, 458, 459, 471, 472, 473, 474, 475, 476, 477, 463, 464, 465, 460, 461, 462, 482, 483, 484, 485, 486, 487, 466, 467, 468, 469, 470] (by decide +kernel) (by decide +kernel)) (goodIn_sub (fun _ h => List.mem_append_left _ (List.mem_append_left _ (List.mem_append_right _ h))) (by decide +kernel))
set_option maxRecDepth 20000 in
theorem gL_law_L_owed : GoodIn wsL_law (va_wsS RL 164 yL_owed wsL_owed) := goodIn_app (goodIn_of _ (by decide +kernel)) ggL_law_L_owed
theorem dL_law_0 : decode cL_law 0 = .ok (.new 10, 3) := by decide +kernel
theorem dL_law_3 : decode cL_law 3 = .ok (.dup, 1) := by decide +kernel
theorem dL_law_4 : decode cL_law 4 = .ok (.invokespecial 110, 3) := by decide +kernel
theorem dL_law_7 : decode cL_law 7 = .ok (.astore_n 1, 1) := by decide +kernel
theorem dL_law_8 : decode cL_law 8 = .ok (.iconst 0, 1) := by decide +kernel
theorem dL_law_9 : decode cL_law 9 = .ok (.istore_n 2, 1) := by decide +kernel
theorem dL_law_10 : decode cL_law 10 = .ok (.iconst 0, 1) := by decide +kernel
theorem dL_law_11 : decode cL_law 11 = .ok (.istore_n 3, 1) := by decide +kernel
theorem dL_law_12 : decode cL_law 12 = .ok (.iconst 0, 1) := by decide +kernel
theorem dL_law_13 : decode cL_law 13 = .ok (.istore 4, 2) := by decide +kernel
theorem dL_law_15 : decode cL_law 15 = .ok (.iconst 0, 1) := by decide +kernel
theorem dL_law_16 : decode cL_law 16 = .ok (.istore 5, 2) := by decide +kernel
theorem dL_law_18 : decode cL_law 18 = .ok (.lconst 0, 1) := by decide +kernel
theorem dL_law_19 : decode cL_law 19 = .ok (.lstore 6, 2) := by decide +kernel
theorem dL_law_21 : decode cL_law 21 = .ok (.iconst 1, 1) := by decide +kernel
theorem dL_law_22 : decode cL_law 22 = .ok (.istore 8, 2) := by decide +kernel
theorem dL_law_24 : decode cL_law 24 = .ok (.iconst 0, 1) := by decide +kernel
theorem dL_law_25 : decode cL_law 25 = .ok (.istore 9, 2) := by decide +kernel
theorem dL_law_27 : decode cL_law 27 = .ok (.iload 9, 2) := by decide +kernel
theorem dL_law_29 : decode cL_law 29 = .ok (.bipush 28, 2) := by decide +kernel
theorem dL_law_31 : decode cL_law 31 = .ok (.if_icmp .ge 924, 3) := by decide +kernel
theorem dL_law_34 : decode cL_law 34 = .ok (.iload 8, 2) := by decide +kernel
theorem dL_law_36 : decode cL_law 36 = .ok (.ifCond .eq 919, 3) := by decide +kernel
theorem dL_law_39 : decode cL_law 39 = .ok (.aload_n 0, 1) := by decide +kernel
theorem dL_law_40 : decode cL_law 40 = .ok (.iload 9, 2) := by decide +kernel
theorem dL_law_42 : decode cL_law 42 = .ok (.invokestatic 111, 3) := by decide +kernel
theorem dL_law_45 : decode cL_law 45 = .ok (.istore 10, 2) := by decide +kernel
end
section
theorem dL_law_47 : decode cL_law 47 = .ok (.iload 10, 2) := by decide +kernel
theorem dL_law_49 : decode cL_law 49 = .ok (.bipush 16, 2) := by decide +kernel
theorem dL_law_51 : decode cL_law 51 = .ok (.idiv, 1) := by decide +kernel
theorem dL_law_52 : decode cL_law 52 = .ok (.istore 11, 2) := by decide +kernel
theorem dL_law_54 : decode cL_law 54 = .ok (.iload 9, 2) := by decide +kernel
theorem dL_law_56 : decode cL_law 56 = .ok (.iconst 3, 1) := by decide +kernel
theorem dL_law_57 : decode cL_law 57 = .ok (.if_icmp .ge 7, 3) := by decide +kernel
theorem dL_law_60 : decode cL_law 60 = .ok (.iconst 0, 1) := by decide +kernel
theorem dL_law_61 : decode cL_law 61 = .ok (.goto 28, 3) := by decide +kernel
theorem dL_law_64 : decode cL_law 64 = .ok (.iload 9, 2) := by decide +kernel
theorem dL_law_66 : decode cL_law 66 = .ok (.iconst 3, 1) := by decide +kernel
theorem dL_law_67 : decode cL_law 67 = .ok (.if_icmp .ne 7, 3) := by decide +kernel
theorem dL_law_70 : decode cL_law 70 = .ok (.iconst 2, 1) := by decide +kernel
theorem dL_law_71 : decode cL_law 71 = .ok (.goto 18, 3) := by decide +kernel
theorem dL_law_74 : decode cL_law 74 = .ok (.iload 9, 2) := by decide +kernel
theorem dL_law_76 : decode cL_law 76 = .ok (.iconst 4, 1) := by decide +kernel
theorem dL_law_77 : decode cL_law 77 = .ok (.if_icmp .ne 7, 3) := by decide +kernel
theorem dL_law_80 : decode cL_law 80 = .ok (.iconst 3, 1) := by decide +kernel
theorem dL_law_81 : decode cL_law 81 = .ok (.goto 8, 3) := by decide +kernel
theorem dL_law_84 : decode cL_law 84 = .ok (.iload 10, 2) := by decide +kernel
theorem dL_law_86 : decode cL_law 86 = .ok (.bipush 16, 2) := by decide +kernel
theorem dL_law_88 : decode cL_law 88 = .ok (.irem, 1) := by decide +kernel
theorem dL_law_89 : decode cL_law 89 = .ok (.istore 12, 2) := by decide +kernel
theorem dL_law_91 : decode cL_law 91 = .ok (.iload 11, 2) := by decide +kernel
theorem dL_law_93 : decode cL_law 93 = .ok (.iload 5, 2) := by decide +kernel
theorem dL_law_95 : decode cL_law 95 = .ok (.iconst 1, 1) := by decide +kernel
theorem dL_law_96 : decode cL_law 96 = .ok (.iadd, 1) := by decide +kernel
theorem dL_law_97 : decode cL_law 97 = .ok (.irem, 1) := by decide +kernel
theorem dL_law_98 : decode cL_law 98 = .ok (.istore 13, 2) := by decide +kernel
theorem dL_law_100 : decode cL_law 100 = .ok (.iload 12, 2) := by decide +kernel
theorem dL_law_102 : decode cL_law 102 = .ok (.ifCond .ne 46, 3) := by decide +kernel
theorem dL_law_105 : decode cL_law 105 = .ok (.iload_n 2, 1) := by decide +kernel
theorem dL_law_106 : decode cL_law 106 = .ok (.iconst 5, 1) := by decide +kernel
theorem dL_law_107 : decode cL_law 107 = .ok (.if_icmp .ge 41, 3) := by decide +kernel
theorem dL_law_110 : decode cL_law 110 = .ok (.aload_n 1, 1) := by decide +kernel
theorem dL_law_111 : decode cL_law 111 = .ok (.iconst 1, 1) := by decide +kernel
theorem dL_law_112 : decode cL_law 112 = .ok (.iload 11, 2) := by decide +kernel
theorem dL_law_114 : decode cL_law 114 = .ok (.sipush 1000, 3) := by decide +kernel
theorem dL_law_117 : decode cL_law 117 = .ok (.irem, 1) := by decide +kernel
theorem dL_law_118 : decode cL_law 118 = .ok (.iadd, 1) := by decide +kernel
theorem dL_law_119 : decode cL_law 119 = .ok (.iload 11, 2) := by decide +kernel
theorem dL_law_121 : decode cL_law 121 = .ok (.sipush 1000, 3) := by decide +kernel
theorem dL_law_124 : decode cL_law 124 = .ok (.idiv, 1) := by decide +kernel
theorem dL_law_125 : decode cL_law 125 = .ok (.bipush 10, 2) := by decide +kernel
theorem dL_law_127 : decode cL_law 127 = .ok (.irem, 1) := by decide +kernel
theorem dL_law_128 : decode cL_law 128 = .ok (.invokestatic 115, 3) := by decide +kernel
theorem dL_law_131 : decode cL_law 131 = .ok (.iload_n 2, 1) := by decide +kernel
theorem dL_law_132 : decode cL_law 132 = .ok (.if_icmp .ne 7, 3) := by decide +kernel
theorem dL_law_135 : decode cL_law 135 = .ok (.iconst 1, 1) := by decide +kernel
theorem dL_law_136 : decode cL_law 136 = .ok (.goto 4, 3) := by decide +kernel
theorem dL_law_139 : decode cL_law 139 = .ok (.iconst 0, 1) := by decide +kernel
theorem dL_law_140 : decode cL_law 140 = .ok (.istore 8, 2) := by decide +kernel
theorem dL_law_142 : decode cL_law 142 = .ok (.iinc 2 1, 3) := by decide +kernel
theorem dL_law_145 : decode cL_law 145 = .ok (.goto 664, 3) := by decide +kernel
theorem dL_law_148 : decode cL_law 148 = .ok (.iload 12, 2) := by decide +kernel
theorem dL_law_150 : decode cL_law 150 = .ok (.iconst 2, 1) := by decide +kernel
theorem dL_law_151 : decode cL_law 151 = .ok (.if_icmp .ge 59, 3) := by decide +kernel
theorem dL_law_154 : decode cL_law 154 = .ok (.aload_n 1, 1) := by decide +kernel
theorem dL_law_155 : decode cL_law 155 = .ok (.iload 11, 2) := by decide +kernel
theorem dL_law_157 : decode cL_law 157 = .ok (.iload_n 2, 1) := by decide +kernel
theorem dL_law_158 : decode cL_law 158 = .ok (.irem, 1) := by decide +kernel
theorem dL_law_159 : decode cL_law 159 = .ok (.iload 11, 2) := by decide +kernel
theorem dL_law_161 : decode cL_law 161 = .ok (.iconst 5, 1) := by decide +kernel
theorem dL_law_162 : decode cL_law 162 = .ok (.idiv, 1) := by decide +kernel
theorem dL_law_163 : decode cL_law 163 = .ok (.bipush 10, 2) := by decide +kernel
theorem dL_law_165 : decode cL_law 165 = .ok (.irem, 1) := by decide +kernel
theorem dL_law_166 : decode cL_law 166 = .ok (.iload 11, 2) := by decide +kernel
theorem dL_law_168 : decode cL_law 168 = .ok (.bipush 50, 2) := by decide +kernel
theorem dL_law_170 : decode cL_law 170 = .ok (.idiv, 1) := by decide +kernel
theorem dL_law_171 : decode cL_law 171 = .ok (.bipush 10, 2) := by decide +kernel
theorem dL_law_173 : decode cL_law 173 = .ok (.irem, 1) := by decide +kernel
theorem dL_law_174 : decode cL_law 174 = .ok (.iconst 1, 1) := by decide +kernel
theorem dL_law_175 : decode cL_law 175 = .ok (.iload 11, 2) := by decide +kernel
theorem dL_law_177 : decode cL_law 177 = .ok (.sipush 500, 3) := by decide +kernel
theorem dL_law_180 : decode cL_law 180 = .ok (.idiv, 1) := by decide +kernel
theorem dL_law_181 : decode cL_law 181 = .ok (.sipush 9000, 3) := by decide +kernel
theorem dL_law_184 : decode cL_law 184 = .ok (.irem, 1) := by decide +kernel
theorem dL_law_185 : decode cL_law 185 = .ok (.iadd, 1) := by decide +kernel
theorem dL_law_186 : decode cL_law 186 = .ok (.iload 13, 2) := by decide +kernel
theorem dL_law_188 : decode cL_law 188 = .ok (.invokestatic 117, 3) := by decide +kernel
theorem dL_law_191 : decode cL_law 191 = .ok (.istore 14, 2) := by decide +kernel
theorem dL_law_193 : decode cL_law 193 = .ok (.iload 14, 2) := by decide +kernel
theorem dL_law_195 : decode cL_law 195 = .ok (.bipush (-101), 2) := by decide +kernel
theorem dL_law_197 : decode cL_law 197 = .ok (.if_icmp .eq 7, 3) := by decide +kernel
theorem dL_law_200 : decode cL_law 200 = .ok (.iconst 1, 1) := by decide +kernel
theorem dL_law_201 : decode cL_law 201 = .ok (.goto 4, 3) := by decide +kernel
theorem dL_law_204 : decode cL_law 204 = .ok (.iconst 0, 1) := by decide +kernel
theorem dL_law_205 : decode cL_law 205 = .ok (.istore 8, 2) := by decide +kernel
theorem dL_law_207 : decode cL_law 207 = .ok (.goto 602, 3) := by decide +kernel
theorem dL_law_210 : decode cL_law 210 = .ok (.iload 12, 2) := by decide +kernel
theorem dL_law_212 : decode cL_law 212 = .ok (.iconst 2, 1) := by decide +kernel
theorem dL_law_213 : decode cL_law 213 = .ok (.if_icmp .ne 51, 3) := by decide +kernel
theorem dL_law_216 : decode cL_law 216 = .ok (.aload_n 1, 1) := by decide +kernel
theorem dL_law_217 : decode cL_law 217 = .ok (.iconst 1, 1) := by decide +kernel
theorem dL_law_218 : decode cL_law 218 = .ok (.iload 11, 2) := by decide +kernel
theorem dL_law_220 : decode cL_law 220 = .ok (.bipush 31, 2) := by decide +kernel
theorem dL_law_222 : decode cL_law 222 = .ok (.irem, 1) := by decide +kernel
theorem dL_law_223 : decode cL_law 223 = .ok (.iadd, 1) := by decide +kernel
theorem dL_law_224 : decode cL_law 224 = .ok (.invokestatic 120, 3) := by decide +kernel
theorem dL_law_227 : decode cL_law 227 = .ok (.istore 14, 2) := by decide +kernel
theorem dL_law_229 : decode cL_law 229 = .ok (.iload 14, 2) := by decide +kernel
theorem dL_law_231 : decode cL_law 231 = .ok (.iload_n 3, 1) := by decide +kernel
theorem dL_law_232 : decode cL_law 232 = .ok (.if_icmp .eq 8, 3) := by decide +kernel
theorem dL_law_235 : decode cL_law 235 = .ok (.iload 14, 2) := by decide +kernel
theorem dL_law_237 : decode cL_law 237 = .ok (.ifCond .ge 7, 3) := by decide +kernel
theorem dL_law_240 : decode cL_law 240 = .ok (.iconst 1, 1) := by decide +kernel
theorem dL_law_241 : decode cL_law 241 = .ok (.goto 4, 3) := by decide +kernel
theorem dL_law_244 : decode cL_law 244 = .ok (.iconst 0, 1) := by decide +kernel
theorem dL_law_245 : decode cL_law 245 = .ok (.istore 8, 2) := by decide +kernel
theorem dL_law_247 : decode cL_law 247 = .ok (.iload_n 3, 1) := by decide +kernel
theorem dL_law_248 : decode cL_law 248 = .ok (.iload 14, 2) := by decide +kernel
theorem dL_law_250 : decode cL_law 250 = .ok (.iload_n 3, 1) := by decide +kernel
theorem dL_law_251 : decode cL_law 251 = .ok (.if_icmp .ne 7, 3) := by decide +kernel
theorem dL_law_254 : decode cL_law 254 = .ok (.iconst 1, 1) := by decide +kernel
theorem dL_law_255 : decode cL_law 255 = .ok (.goto 4, 3) := by decide +kernel
theorem dL_law_258 : decode cL_law 258 = .ok (.iconst 0, 1) := by decide +kernel
theorem dL_law_259 : decode cL_law 259 = .ok (.iadd, 1) := by decide +kernel
theorem dL_law_260 : decode cL_law 260 = .ok (.istore_n 3, 1) := by decide +kernel
theorem dL_law_261 : decode cL_law 261 = .ok (.goto 548, 3) := by decide +kernel
theorem dL_law_264 : decode cL_law 264 = .ok (.iload 12, 2) := by decide +kernel
theorem dL_law_266 : decode cL_law 266 = .ok (.iconst 3, 1) := by decide +kernel
theorem dL_law_267 : decode cL_law 267 = .ok (.if_icmp .ne 40, 3) := by decide +kernel
theorem dL_law_270 : decode cL_law 270 = .ok (.iload_n 3, 1) := by decide +kernel
theorem dL_law_271 : decode cL_law 271 = .ok (.ifCond .le 36, 3) := by decide +kernel
theorem dL_law_274 : decode cL_law 274 = .ok (.iload 4, 2) := by decide +kernel
theorem dL_law_276 : decode cL_law 276 = .ok (.bipush 6, 2) := by decide +kernel
theorem dL_law_278 : decode cL_law 278 = .ok (.if_icmp .ge 29, 3) := by decide +kernel
theorem dL_law_281 : decode cL_law 281 = .ok (.aload_n 1, 1) := by decide +kernel
theorem dL_law_282 : decode cL_law 282 = .ok (.iload 11, 2) := by decide +kernel
theorem dL_law_284 : decode cL_law 284 = .ok (.iload_n 3, 1) := by decide +kernel
theorem dL_law_285 : decode cL_law 285 = .ok (.irem, 1) := by decide +kernel
theorem dL_law_286 : decode cL_law 286 = .ok (.invokestatic 123, 3) := by decide +kernel
theorem dL_law_289 : decode cL_law 289 = .ok (.iload 4, 2) := by decide +kernel
theorem dL_law_291 : decode cL_law 291 = .ok (.if_icmp .ne 7, 3) := by decide +kernel
theorem dL_law_294 : decode cL_law 294 = .ok (.iconst 1, 1) := by decide +kernel
theorem dL_law_295 : decode cL_law 295 = .ok (.goto 4, 3) := by decide +kernel
theorem dL_law_298 : decode cL_law 298 = .ok (.iconst 0, 1) := by decide +kernel
theorem dL_law_299 : decode cL_law 299 = .ok (.istore 8, 2) := by decide +kernel
theorem dL_law_301 : decode cL_law 301 = .ok (.iinc 4 1, 3) := by decide +kernel
theorem dL_law_304 : decode cL_law 304 = .ok (.goto 505, 3) := by decide +kernel
theorem dL_law_307 : decode cL_law 307 = .ok (.iload 12, 2) := by decide +kernel
theorem dL_law_309 : decode cL_law 309 = .ok (.bipush 6, 2) := by decide +kernel
theorem dL_law_311 : decode cL_law 311 = .ok (.if_icmp .ge 61, 3) := by decide +kernel
theorem dL_law_314 : decode cL_law 314 = .ok (.aload_n 1, 1) := by decide +kernel
theorem dL_law_315 : decode cL_law 315 = .ok (.iload 11, 2) := by decide +kernel
theorem dL_law_317 : decode cL_law 317 = .ok (.iload_n 2, 1) := by decide +kernel
theorem dL_law_318 : decode cL_law 318 = .ok (.irem, 1) := by decide +kernel
theorem dL_law_319 : decode cL_law 319 = .ok (.iload 11, 2) := by decide +kernel
theorem dL_law_321 : decode cL_law 321 = .ok (.iconst 5, 1) := by decide +kernel
theorem dL_law_322 : decode cL_law 322 = .ok (.idiv, 1) := by decide +kernel
theorem dL_law_323 : decode cL_law 323 = .ok (.bipush 10, 2) := by decide +kernel
theorem dL_law_325 : decode cL_law 325 = .ok (.irem, 1) := by decide +kernel
theorem dL_law_326 : decode cL_law 326 = .ok (.iload 11, 2) := by decide +kernel
theorem dL_law_328 : decode cL_law 328 = .ok (.bipush 50, 2) := by decide +kernel
theorem dL_law_330 : decode cL_law 330 = .ok (.idiv, 1) := by decide +kernel
theorem dL_law_331 : decode cL_law 331 = .ok (.bipush 10, 2) := by decide +kernel
theorem dL_law_333 : decode cL_law 333 = .ok (.irem, 1) := by decide +kernel
theorem dL_law_334 : decode cL_law 334 = .ok (.iload 11, 2) := by decide +kernel
theorem dL_law_336 : decode cL_law 336 = .ok (.sipush 500, 3) := by decide +kernel
theorem dL_law_339 : decode cL_law 339 = .ok (.idiv, 1) := by decide +kernel
theorem dL_law_340 : decode cL_law 340 = .ok (.sipush 501, 3) := by decide +kernel
theorem dL_law_343 : decode cL_law 343 = .ok (.irem, 1) := by decide +kernel
theorem dL_law_344 : decode cL_law 344 = .ok (.iconst 1, 1) := by decide +kernel
theorem dL_law_345 : decode cL_law 345 = .ok (.iload 11, 2) := by decide +kernel
theorem dL_law_347 : decode cL_law 347 = .ok (.bipush 7, 2) := by decide +kernel
theorem dL_law_349 : decode cL_law 349 = .ok (.idiv, 1) := by decide +kernel
theorem dL_law_350 : decode cL_law 350 = .ok (.bipush 6, 2) := by decide +kernel
theorem dL_law_352 : decode cL_law 352 = .ok (.irem, 1) := by decide +kernel
theorem dL_law_353 : decode cL_law 353 = .ok (.iadd, 1) := by decide +kernel
theorem dL_law_354 : decode cL_law 354 = .ok (.invokestatic 125, 3) := by decide +kernel
theorem dL_law_357 : decode cL_law 357 = .ok (.bipush (-101), 2) := by decide +kernel
theorem dL_law_359 : decode cL_law 359 = .ok (.if_icmp .eq 7, 3) := by decide +kernel
theorem dL_law_362 : decode cL_law 362 = .ok (.iconst 1, 1) := by decide +kernel
theorem dL_law_363 : decode cL_law 363 = .ok (.goto 4, 3) := by decide +kernel
theorem dL_law_366 : decode cL_law 366 = .ok (.iconst 0, 1) := by decide +kernel
theorem dL_law_367 : decode cL_law 367 = .ok (.istore 8, 2) := by decide +kernel
theorem dL_law_369 : decode cL_law 369 = .ok (.goto 440, 3) := by decide +kernel
theorem dL_law_372 : decode cL_law 372 = .ok (.iload 12, 2) := by decide +kernel
theorem dL_law_374 : decode cL_law 374 = .ok (.bipush 9, 2) := by decide +kernel
theorem dL_law_376 : decode cL_law 376 = .ok (.if_icmp .ge 53, 3) := by decide +kernel
theorem dL_law_379 : decode cL_law 379 = .ok (.iload 4, 2) := by decide +kernel
theorem dL_law_381 : decode cL_law 381 = .ok (.ifCond .le 48, 3) := by decide +kernel
theorem dL_law_384 : decode cL_law 384 = .ok (.aload_n 1, 1) := by decide +kernel
theorem dL_law_385 : decode cL_law 385 = .ok (.iload 11, 2) := by decide +kernel
theorem dL_law_387 : decode cL_law 387 = .ok (.iload 4, 2) := by decide +kernel
theorem dL_law_389 : decode cL_law 389 = .ok (.irem, 1) := by decide +kernel
theorem dL_law_390 : decode cL_law 390 = .ok (.iload 13, 2) := by decide +kernel
theorem dL_law_392 : decode cL_law 392 = .ok (.iload 11, 2) := by decide +kernel
theorem dL_law_394 : decode cL_law 394 = .ok (.bipush 6, 2) := by decide +kernel
theorem dL_law_396 : decode cL_law 396 = .ok (.idiv, 1) := by decide +kernel
end
section
theorem dL_law_397 : decode cL_law 397 = .ok (.sipush 1001, 3) := by decide +kernel
theorem dL_law_400 : decode cL_law 400 = .ok (.irem, 1) := by decide +kernel
theorem dL_law_401 : decode cL_law 401 = .ok (.iload 11, 2) := by decide +kernel
theorem dL_law_403 : decode cL_law 403 = .ok (.sipush 6006, 3) := by decide +kernel
theorem dL_law_406 : decode cL_law 406 = .ok (.idiv, 1) := by decide +kernel
theorem dL_law_407 : decode cL_law 407 = .ok (.sipush 10001, 3) := by decide +kernel
theorem dL_law_410 : decode cL_law 410 = .ok (.irem, 1) := by decide +kernel
theorem dL_law_411 : decode cL_law 411 = .ok (.invokestatic 127, 3) := by decide +kernel
theorem dL_law_414 : decode cL_law 414 = .ok (.bipush (-101), 2) := by decide +kernel
theorem dL_law_416 : decode cL_law 416 = .ok (.if_icmp .eq 7, 3) := by decide +kernel
theorem dL_law_419 : decode cL_law 419 = .ok (.iconst 1, 1) := by decide +kernel
theorem dL_law_420 : decode cL_law 420 = .ok (.goto 4, 3) := by decide +kernel
theorem dL_law_423 : decode cL_law 423 = .ok (.iconst 0, 1) := by decide +kernel
theorem dL_law_424 : decode cL_law 424 = .ok (.istore 8, 2) := by decide +kernel
theorem dL_law_426 : decode cL_law 426 = .ok (.goto 383, 3) := by decide +kernel
theorem dL_law_429 : decode cL_law 429 = .ok (.iload 12, 2) := by decide +kernel
theorem dL_law_431 : decode cL_law 431 = .ok (.bipush 11, 2) := by decide +kernel
theorem dL_law_433 : decode cL_law 433 = .ok (.if_icmp .ge 76, 3) := by decide +kernel
theorem dL_law_436 : decode cL_law 436 = .ok (.iload 4, 2) := by decide +kernel
theorem dL_law_438 : decode cL_law 438 = .ok (.ifCond .le 71, 3) := by decide +kernel
theorem dL_law_441 : decode cL_law 441 = .ok (.iconst 1, 1) := by decide +kernel
theorem dL_law_442 : decode cL_law 442 = .ok (.iload 11, 2) := by decide +kernel
theorem dL_law_444 : decode cL_law 444 = .ok (.bipush 6, 2) := by decide +kernel
theorem dL_law_446 : decode cL_law 446 = .ok (.idiv, 1) := by decide +kernel
theorem dL_law_447 : decode cL_law 447 = .ok (.ldc 130, 2) := by decide +kernel
theorem dL_law_449 : decode cL_law 449 = .ok (.irem, 1) := by decide +kernel
theorem dL_law_450 : decode cL_law 450 = .ok (.iadd, 1) := by decide +kernel
theorem dL_law_451 : decode cL_law 451 = .ok (.istore 14, 2) := by decide +kernel
theorem dL_law_453 : decode cL_law 453 = .ok (.aload_n 1, 1) := by decide +kernel
theorem dL_law_454 : decode cL_law 454 = .ok (.iload 11, 2) := by decide +kernel
theorem dL_law_456 : decode cL_law 456 = .ok (.iload 4, 2) := by decide +kernel
theorem dL_law_458 : decode cL_law 458 = .ok (.irem, 1) := by decide +kernel
theorem dL_law_459 : decode cL_law 459 = .ok (.iload 13, 2) := by decide +kernel
theorem dL_law_461 : decode cL_law 461 = .ok (.iload 14, 2) := by decide +kernel
theorem dL_law_463 : decode cL_law 463 = .ok (.invokestatic 131, 3) := by decide +kernel
theorem dL_law_466 : decode cL_law 466 = .ok (.istore 15, 2) := by decide +kernel
theorem dL_law_468 : decode cL_law 468 = .ok (.iload 15, 2) := by decide +kernel
theorem dL_law_470 : decode cL_law 470 = .ok (.bipush (-103), 2) := by decide +kernel
theorem dL_law_472 : decode cL_law 472 = .ok (.if_icmp .eq 10, 3) := by decide +kernel
theorem dL_law_475 : decode cL_law 475 = .ok (.iload 15, 2) := by decide +kernel
theorem dL_law_477 : decode cL_law 477 = .ok (.iload 14, 2) := by decide +kernel
theorem dL_law_479 : decode cL_law 479 = .ok (.if_icmp .lt 7, 3) := by decide +kernel
theorem dL_law_482 : decode cL_law 482 = .ok (.iconst 1, 1) := by decide +kernel
theorem dL_law_483 : decode cL_law 483 = .ok (.goto 4, 3) := by decide +kernel
theorem dL_law_486 : decode cL_law 486 = .ok (.iconst 0, 1) := by decide +kernel
theorem dL_law_487 : decode cL_law 487 = .ok (.istore 8, 2) := by decide +kernel
theorem dL_law_489 : decode cL_law 489 = .ok (.lload 6, 2) := by decide +kernel
theorem dL_law_491 : decode cL_law 491 = .ok (.iload 15, 2) := by decide +kernel
theorem dL_law_493 : decode cL_law 493 = .ok (.ifCond .le 9, 3) := by decide +kernel
theorem dL_law_496 : decode cL_law 496 = .ok (.iload 14, 2) := by decide +kernel
theorem dL_law_498 : decode cL_law 498 = .ok (.i2l, 1) := by decide +kernel
theorem dL_law_499 : decode cL_law 499 = .ok (.goto 4, 3) := by decide +kernel
theorem dL_law_502 : decode cL_law 502 = .ok (.lconst 0, 1) := by decide +kernel
theorem dL_law_503 : decode cL_law 503 = .ok (.ladd, 1) := by decide +kernel
theorem dL_law_504 : decode cL_law 504 = .ok (.lstore 6, 2) := by decide +kernel
theorem dL_law_506 : decode cL_law 506 = .ok (.goto 303, 3) := by decide +kernel
theorem dL_law_509 : decode cL_law 509 = .ok (.iload 12, 2) := by decide +kernel
theorem dL_law_511 : decode cL_law 511 = .ok (.bipush 11, 2) := by decide +kernel
theorem dL_law_513 : decode cL_law 513 = .ok (.if_icmp .ne 71, 3) := by decide +kernel
theorem dL_law_516 : decode cL_law 516 = .ok (.iload_n 3, 1) := by decide +kernel
theorem dL_law_517 : decode cL_law 517 = .ok (.ifCond .le 67, 3) := by decide +kernel
theorem dL_law_520 : decode cL_law 520 = .ok (.aload_n 1, 1) := by decide +kernel
theorem dL_law_521 : decode cL_law 521 = .ok (.iload 11, 2) := by decide +kernel
theorem dL_law_523 : decode cL_law 523 = .ok (.iload_n 3, 1) := by decide +kernel
theorem dL_law_524 : decode cL_law 524 = .ok (.irem, 1) := by decide +kernel
theorem dL_law_525 : decode cL_law 525 = .ok (.iload 11, 2) := by decide +kernel
theorem dL_law_527 : decode cL_law 527 = .ok (.iconst 3, 1) := by decide +kernel
theorem dL_law_528 : decode cL_law 528 = .ok (.idiv, 1) := by decide +kernel
theorem dL_law_529 : decode cL_law 529 = .ok (.bipush 10, 2) := by decide +kernel
theorem dL_law_531 : decode cL_law 531 = .ok (.irem, 1) := by decide +kernel
theorem dL_law_532 : decode cL_law 532 = .ok (.iload 11, 2) := by decide +kernel
theorem dL_law_534 : decode cL_law 534 = .ok (.bipush 30, 2) := by decide +kernel
theorem dL_law_536 : decode cL_law 536 = .ok (.idiv, 1) := by decide +kernel
theorem dL_law_537 : decode cL_law 537 = .ok (.iconst 3, 1) := by decide +kernel
theorem dL_law_538 : decode cL_law 538 = .ok (.irem, 1) := by decide +kernel
theorem dL_law_539 : decode cL_law 539 = .ok (.ifCond .ne 7, 3) := by decide +kernel
theorem dL_law_542 : decode cL_law 542 = .ok (.iconst 1, 1) := by decide +kernel
theorem dL_law_543 : decode cL_law 543 = .ok (.goto 4, 3) := by decide +kernel
theorem dL_law_546 : decode cL_law 546 = .ok (.iconst 0, 1) := by decide +kernel
theorem dL_law_547 : decode cL_law 547 = .ok (.invokestatic 134, 3) := by decide +kernel
theorem dL_law_550 : decode cL_law 550 = .ok (.ifCond .lt 28, 3) := by decide +kernel
theorem dL_law_553 : decode cL_law 553 = .ok (.aload_n 1, 1) := by decide +kernel
theorem dL_law_554 : decode cL_law 554 = .ok (.bipush 100, 2) := by decide +kernel
theorem dL_law_556 : decode cL_law 556 = .ok (.iload 11, 2) := by decide +kernel
theorem dL_law_558 : decode cL_law 558 = .ok (.bipush 90, 2) := by decide +kernel
theorem dL_law_560 : decode cL_law 560 = .ok (.idiv, 1) := by decide +kernel
theorem dL_law_561 : decode cL_law 561 = .ok (.sipush 401, 3) := by decide +kernel
theorem dL_law_564 : decode cL_law 564 = .ok (.irem, 1) := by decide +kernel
theorem dL_law_565 : decode cL_law 565 = .ok (.iadd, 1) := by decide +kernel
theorem dL_law_566 : decode cL_law 566 = .ok (.invokestatic 137, 3) := by decide +kernel
theorem dL_law_569 : decode cL_law 569 = .ok (.bipush 100, 2) := by decide +kernel
theorem dL_law_571 : decode cL_law 571 = .ok (.if_icmp .lt 7, 3) := by decide +kernel
theorem dL_law_574 : decode cL_law 574 = .ok (.iconst 1, 1) := by decide +kernel
theorem dL_law_575 : decode cL_law 575 = .ok (.goto 4, 3) := by decide +kernel
theorem dL_law_578 : decode cL_law 578 = .ok (.iconst 0, 1) := by decide +kernel
theorem dL_law_579 : decode cL_law 579 = .ok (.istore 8, 2) := by decide +kernel
theorem dL_law_581 : decode cL_law 581 = .ok (.goto 228, 3) := by decide +kernel
theorem dL_law_584 : decode cL_law 584 = .ok (.iload 12, 2) := by decide +kernel
theorem dL_law_586 : decode cL_law 586 = .ok (.bipush 12, 2) := by decide +kernel
theorem dL_law_588 : decode cL_law 588 = .ok (.if_icmp .ne 72, 3) := by decide +kernel
theorem dL_law_591 : decode cL_law 591 = .ok (.aload_n 1, 1) := by decide +kernel
theorem dL_law_592 : decode cL_law 592 = .ok (.iload 11, 2) := by decide +kernel
theorem dL_law_594 : decode cL_law 594 = .ok (.bipush 51, 2) := by decide +kernel
theorem dL_law_596 : decode cL_law 596 = .ok (.irem, 1) := by decide +kernel
theorem dL_law_597 : decode cL_law 597 = .ok (.iload 13, 2) := by decide +kernel
theorem dL_law_599 : decode cL_law 599 = .ok (.invokestatic 139, 3) := by decide +kernel
theorem dL_law_602 : decode cL_law 602 = .ok (.ifCond .lt 52, 3) := by decide +kernel
theorem dL_law_605 : decode cL_law 605 = .ok (.aload_n 1, 1) := by decide +kernel
theorem dL_law_606 : decode cL_law 606 = .ok (.iconst 1, 1) := by decide +kernel
theorem dL_law_607 : decode cL_law 607 = .ok (.iload 11, 2) := by decide +kernel
theorem dL_law_609 : decode cL_law 609 = .ok (.bipush 51, 2) := by decide +kernel
theorem dL_law_611 : decode cL_law 611 = .ok (.idiv, 1) := by decide +kernel
theorem dL_law_612 : decode cL_law 612 = .ok (.sipush 5000, 3) := by decide +kernel
theorem dL_law_615 : decode cL_law 615 = .ok (.irem, 1) := by decide +kernel
theorem dL_law_616 : decode cL_law 616 = .ok (.iadd, 1) := by decide +kernel
theorem dL_law_617 : decode cL_law 617 = .ok (.invokestatic 141, 3) := by decide +kernel
theorem dL_law_620 : decode cL_law 620 = .ok (.iconst 1, 1) := by decide +kernel
theorem dL_law_621 : decode cL_law 621 = .ok (.if_icmp .lt 33, 3) := by decide +kernel
theorem dL_law_624 : decode cL_law 624 = .ok (.aload_n 1, 1) := by decide +kernel
theorem dL_law_625 : decode cL_law 625 = .ok (.iload 11, 2) := by decide +kernel
theorem dL_law_627 : decode cL_law 627 = .ok (.iconst 3, 1) := by decide +kernel
theorem dL_law_628 : decode cL_law 628 = .ok (.idiv, 1) := by decide +kernel
theorem dL_law_629 : decode cL_law 629 = .ok (.bipush 10, 2) := by decide +kernel
theorem dL_law_631 : decode cL_law 631 = .ok (.irem, 1) := by decide +kernel
theorem dL_law_632 : decode cL_law 632 = .ok (.iload 11, 2) := by decide +kernel
theorem dL_law_634 : decode cL_law 634 = .ok (.iconst 2, 1) := by decide +kernel
theorem dL_law_635 : decode cL_law 635 = .ok (.irem, 1) := by decide +kernel
theorem dL_law_636 : decode cL_law 636 = .ok (.ifCond .ne 7, 3) := by decide +kernel
theorem dL_law_639 : decode cL_law 639 = .ok (.iconst 1, 1) := by decide +kernel
theorem dL_law_640 : decode cL_law 640 = .ok (.goto 4, 3) := by decide +kernel
theorem dL_law_643 : decode cL_law 643 = .ok (.iconst 0, 1) := by decide +kernel
theorem dL_law_644 : decode cL_law 644 = .ok (.invokestatic 143, 3) := by decide +kernel
theorem dL_law_647 : decode cL_law 647 = .ok (.ifCond .lt 7, 3) := by decide +kernel
theorem dL_law_650 : decode cL_law 650 = .ok (.iconst 1, 1) := by decide +kernel
theorem dL_law_651 : decode cL_law 651 = .ok (.goto 4, 3) := by decide +kernel
theorem dL_law_654 : decode cL_law 654 = .ok (.iconst 0, 1) := by decide +kernel
theorem dL_law_655 : decode cL_law 655 = .ok (.istore 8, 2) := by decide +kernel
theorem dL_law_657 : decode cL_law 657 = .ok (.goto 152, 3) := by decide +kernel
theorem dL_law_660 : decode cL_law 660 = .ok (.iload 12, 2) := by decide +kernel
theorem dL_law_662 : decode cL_law 662 = .ok (.bipush 13, 2) := by decide +kernel
theorem dL_law_664 : decode cL_law 664 = .ok (.if_icmp .ne 106, 3) := by decide +kernel
theorem dL_law_667 : decode cL_law 667 = .ok (.lconst 0, 1) := by decide +kernel
theorem dL_law_668 : decode cL_law 668 = .ok (.lstore 14, 2) := by decide +kernel
theorem dL_law_670 : decode cL_law 670 = .ok (.lconst 0, 1) := by decide +kernel
theorem dL_law_671 : decode cL_law 671 = .ok (.lstore 16, 2) := by decide +kernel
theorem dL_law_673 : decode cL_law 673 = .ok (.iconst 0, 1) := by decide +kernel
theorem dL_law_674 : decode cL_law 674 = .ok (.istore 18, 2) := by decide +kernel
theorem dL_law_676 : decode cL_law 676 = .ok (.iload 18, 2) := by decide +kernel
theorem dL_law_678 : decode cL_law 678 = .ok (.bipush 10, 2) := by decide +kernel
theorem dL_law_680 : decode cL_law 680 = .ok (.if_icmp .ge 20, 3) := by decide +kernel
theorem dL_law_683 : decode cL_law 683 = .ok (.lload 14, 2) := by decide +kernel
theorem dL_law_685 : decode cL_law 685 = .ok (.aload_n 1, 1) := by decide +kernel
theorem dL_law_686 : decode cL_law 686 = .ok (.iload 18, 2) := by decide +kernel
theorem dL_law_688 : decode cL_law 688 = .ok (.invokestatic 146, 3) := by decide +kernel
theorem dL_law_691 : decode cL_law 691 = .ok (.ladd, 1) := by decide +kernel
theorem dL_law_692 : decode cL_law 692 = .ok (.lstore 14, 2) := by decide +kernel
theorem dL_law_694 : decode cL_law 694 = .ok (.iinc 18 1, 3) := by decide +kernel
theorem dL_law_697 : decode cL_law 697 = .ok (.goto (-21), 3) := by decide +kernel
theorem dL_law_700 : decode cL_law 700 = .ok (.aload_n 1, 1) := by decide +kernel
theorem dL_law_701 : decode cL_law 701 = .ok (.invokevirtual 149, 3) := by decide +kernel
theorem dL_law_704 : decode cL_law 704 = .ok (.lstore 18, 2) := by decide +kernel
theorem dL_law_706 : decode cL_law 706 = .ok (.iconst 0, 1) := by decide +kernel
theorem dL_law_707 : decode cL_law 707 = .ok (.istore 20, 2) := by decide +kernel
theorem dL_law_709 : decode cL_law 709 = .ok (.iload 20, 2) := by decide +kernel
theorem dL_law_711 : decode cL_law 711 = .ok (.bipush 10, 2) := by decide +kernel
theorem dL_law_713 : decode cL_law 713 = .ok (.if_icmp .ge 20, 3) := by decide +kernel
theorem dL_law_716 : decode cL_law 716 = .ok (.lload 16, 2) := by decide +kernel
theorem dL_law_718 : decode cL_law 718 = .ok (.aload_n 1, 1) := by decide +kernel
theorem dL_law_719 : decode cL_law 719 = .ok (.iload 20, 2) := by decide +kernel
theorem dL_law_721 : decode cL_law 721 = .ok (.invokestatic 146, 3) := by decide +kernel
theorem dL_law_724 : decode cL_law 724 = .ok (.ladd, 1) := by decide +kernel
theorem dL_law_725 : decode cL_law 725 = .ok (.lstore 16, 2) := by decide +kernel
theorem dL_law_727 : decode cL_law 727 = .ok (.iinc 20 1, 3) := by decide +kernel
theorem dL_law_730 : decode cL_law 730 = .ok (.goto (-21), 3) := by decide +kernel
theorem dL_law_733 : decode cL_law 733 = .ok (.lload 18, 2) := by decide +kernel
theorem dL_law_735 : decode cL_law 735 = .ok (.lconst 0, 1) := by decide +kernel
theorem dL_law_736 : decode cL_law 736 = .ok (.lcmp, 1) := by decide +kernel
theorem dL_law_737 : decode cL_law 737 = .ok (.ifCond .lt 27, 3) := by decide +kernel
theorem dL_law_740 : decode cL_law 740 = .ok (.lload 16, 2) := by decide +kernel
theorem dL_law_742 : decode cL_law 742 = .ok (.lload 14, 2) := by decide +kernel
theorem dL_law_744 : decode cL_law 744 = .ok (.lload 18, 2) := by decide +kernel
theorem dL_law_746 : decode cL_law 746 = .ok (.ladd, 1) := by decide +kernel
theorem dL_law_747 : decode cL_law 747 = .ok (.lcmp, 1) := by decide +kernel
theorem dL_law_748 : decode cL_law 748 = .ok (.ifCond .ne 16, 3) := by decide +kernel
theorem dL_law_751 : decode cL_law 751 = .ok (.aload_n 1, 1) := by decide +kernel
theorem dL_law_752 : decode cL_law 752 = .ok (.invokevirtual 149, 3) := by decide +kernel
theorem dL_law_755 : decode cL_law 755 = .ok (.lconst 0, 1) := by decide +kernel
theorem dL_law_756 : decode cL_law 756 = .ok (.lcmp, 1) := by decide +kernel
theorem dL_law_757 : decode cL_law 757 = .ok (.ifCond .ne 7, 3) := by decide +kernel
theorem dL_law_760 : decode cL_law 760 = .ok (.iconst 1, 1) := by decide +kernel
end
section
theorem dL_law_761 : decode cL_law 761 = .ok (.goto 4, 3) := by decide +kernel
theorem dL_law_764 : decode cL_law 764 = .ok (.iconst 0, 1) := by decide +kernel
theorem dL_law_765 : decode cL_law 765 = .ok (.istore 8, 2) := by decide +kernel
theorem dL_law_767 : decode cL_law 767 = .ok (.goto 42, 3) := by decide +kernel
theorem dL_law_770 : decode cL_law 770 = .ok (.iload 5, 2) := by decide +kernel
theorem dL_law_772 : decode cL_law 772 = .ok (.iconst 5, 1) := by decide +kernel
theorem dL_law_773 : decode cL_law 773 = .ok (.if_icmp .ge 36, 3) := by decide +kernel
theorem dL_law_776 : decode cL_law 776 = .ok (.iconst 1, 1) := by decide +kernel
theorem dL_law_777 : decode cL_law 777 = .ok (.iload 11, 2) := by decide +kernel
theorem dL_law_779 : decode cL_law 779 = .ok (.iconst 2, 1) := by decide +kernel
theorem dL_law_780 : decode cL_law 780 = .ok (.irem, 1) := by decide +kernel
theorem dL_law_781 : decode cL_law 781 = .ok (.iadd, 1) := by decide +kernel
theorem dL_law_782 : decode cL_law 782 = .ok (.istore 14, 2) := by decide +kernel
theorem dL_law_784 : decode cL_law 784 = .ok (.iload 5, 2) := by decide +kernel
theorem dL_law_786 : decode cL_law 786 = .ok (.iload 14, 2) := by decide +kernel
theorem dL_law_788 : decode cL_law 788 = .ok (.iadd, 1) := by decide +kernel
theorem dL_law_789 : decode cL_law 789 = .ok (.istore 5, 2) := by decide +kernel
theorem dL_law_791 : decode cL_law 791 = .ok (.aload_n 1, 1) := by decide +kernel
theorem dL_law_792 : decode cL_law 792 = .ok (.iload 14, 2) := by decide +kernel
theorem dL_law_794 : decode cL_law 794 = .ok (.invokestatic 153, 3) := by decide +kernel
theorem dL_law_797 : decode cL_law 797 = .ok (.iload 5, 2) := by decide +kernel
theorem dL_law_799 : decode cL_law 799 = .ok (.if_icmp .ne 7, 3) := by decide +kernel
theorem dL_law_802 : decode cL_law 802 = .ok (.iconst 1, 1) := by decide +kernel
theorem dL_law_803 : decode cL_law 803 = .ok (.goto 4, 3) := by decide +kernel
theorem dL_law_806 : decode cL_law 806 = .ok (.iconst 0, 1) := by decide +kernel
theorem dL_law_807 : decode cL_law 807 = .ok (.istore 8, 2) := by decide +kernel
theorem dL_law_809 : decode cL_law 809 = .ok (.iload 11, 2) := by decide +kernel
theorem dL_law_811 : decode cL_law 811 = .ok (.bipush 10, 2) := by decide +kernel
theorem dL_law_813 : decode cL_law 813 = .ok (.irem, 1) := by decide +kernel
theorem dL_law_814 : decode cL_law 814 = .ok (.istore 14, 2) := by decide +kernel
theorem dL_law_816 : decode cL_law 816 = .ok (.iconst 0, 1) := by decide +kernel
theorem dL_law_817 : decode cL_law 817 = .ok (.istore 15, 2) := by decide +kernel
theorem dL_law_819 : decode cL_law 819 = .ok (.iconst 0, 1) := by decide +kernel
theorem dL_law_820 : decode cL_law 820 = .ok (.istore 16, 2) := by decide +kernel
theorem dL_law_822 : decode cL_law 822 = .ok (.iload 16, 2) := by decide +kernel
theorem dL_law_824 : decode cL_law 824 = .ok (.bipush 10, 2) := by decide +kernel
theorem dL_law_826 : decode cL_law 826 = .ok (.if_icmp .ge 31, 3) := by decide +kernel
theorem dL_law_829 : decode cL_law 829 = .ok (.iload 8, 2) := by decide +kernel
theorem dL_law_831 : decode cL_law 831 = .ok (.ifCond .eq 26, 3) := by decide +kernel
theorem dL_law_834 : decode cL_law 834 = .ok (.iload 15, 2) := by decide +kernel
theorem dL_law_836 : decode cL_law 836 = .ok (.aload_n 1, 1) := by decide +kernel
theorem dL_law_837 : decode cL_law 837 = .ok (.iload 11, 2) := by decide +kernel
theorem dL_law_839 : decode cL_law 839 = .ok (.iload_n 2, 1) := by decide +kernel
theorem dL_law_840 : decode cL_law 840 = .ok (.irem, 1) := by decide +kernel
theorem dL_law_841 : decode cL_law 841 = .ok (.iload 16, 2) := by decide +kernel
theorem dL_law_843 : decode cL_law 843 = .ok (.iload 13, 2) := by decide +kernel
theorem dL_law_845 : decode cL_law 845 = .ok (.invokestatic 155, 3) := by decide +kernel
theorem dL_law_848 : decode cL_law 848 = .ok (.iadd, 1) := by decide +kernel
theorem dL_law_849 : decode cL_law 849 = .ok (.istore 15, 2) := by decide +kernel
theorem dL_law_851 : decode cL_law 851 = .ok (.iinc 16 1, 3) := by decide +kernel
theorem dL_law_854 : decode cL_law 854 = .ok (.goto (-32), 3) := by decide +kernel
theorem dL_law_857 : decode cL_law 857 = .ok (.iload 8, 2) := by decide +kernel
theorem dL_law_859 : decode cL_law 859 = .ok (.ifCond .eq 21, 3) := by decide +kernel
theorem dL_law_862 : decode cL_law 862 = .ok (.iload 9, 2) := by decide +kernel
theorem dL_law_864 : decode cL_law 864 = .ok (.iconst 1, 1) := by decide +kernel
theorem dL_law_865 : decode cL_law 865 = .ok (.if_icmp .lt 11, 3) := by decide +kernel
theorem dL_law_868 : decode cL_law 868 = .ok (.iload 15, 2) := by decide +kernel
theorem dL_law_870 : decode cL_law 870 = .ok (.sipush 10000, 3) := by decide +kernel
theorem dL_law_873 : decode cL_law 873 = .ok (.if_icmp .ne 7, 3) := by decide +kernel
theorem dL_law_876 : decode cL_law 876 = .ok (.iconst 1, 1) := by decide +kernel
theorem dL_law_877 : decode cL_law 877 = .ok (.goto 4, 3) := by decide +kernel
theorem dL_law_880 : decode cL_law 880 = .ok (.iconst 0, 1) := by decide +kernel
theorem dL_law_881 : decode cL_law 881 = .ok (.istore 8, 2) := by decide +kernel
theorem dL_law_883 : decode cL_law 883 = .ok (.iload 8, 2) := by decide +kernel
theorem dL_law_885 : decode cL_law 885 = .ok (.ifCond .eq 61, 3) := by decide +kernel
theorem dL_law_888 : decode cL_law 888 = .ok (.iload_n 3, 1) := by decide +kernel
theorem dL_law_889 : decode cL_law 889 = .ok (.ifCond .eq 53, 3) := by decide +kernel
theorem dL_law_892 : decode cL_law 892 = .ok (.aload_n 1, 1) := by decide +kernel
theorem dL_law_893 : decode cL_law 893 = .ok (.iload 11, 2) := by decide +kernel
theorem dL_law_895 : decode cL_law 895 = .ok (.iload_n 3, 1) := by decide +kernel
theorem dL_law_896 : decode cL_law 896 = .ok (.irem, 1) := by decide +kernel
theorem dL_law_897 : decode cL_law 897 = .ok (.iload 5, 2) := by decide +kernel
theorem dL_law_899 : decode cL_law 899 = .ok (.invokestatic 101, 3) := by decide +kernel
theorem dL_law_902 : decode cL_law 902 = .ok (.ifCond .lt 44, 3) := by decide +kernel
theorem dL_law_905 : decode cL_law 905 = .ok (.iload 9, 2) := by decide +kernel
theorem dL_law_907 : decode cL_law 907 = .ok (.iconst 2, 1) := by decide +kernel
theorem dL_law_908 : decode cL_law 908 = .ok (.irem, 1) := by decide +kernel
theorem dL_law_909 : decode cL_law 909 = .ok (.ifCond .eq 16, 3) := by decide +kernel
theorem dL_law_912 : decode cL_law 912 = .ok (.aload_n 1, 1) := by decide +kernel
theorem dL_law_913 : decode cL_law 913 = .ok (.iload 11, 2) := by decide +kernel
theorem dL_law_915 : decode cL_law 915 = .ok (.iload_n 3, 1) := by decide +kernel
theorem dL_law_916 : decode cL_law 916 = .ok (.irem, 1) := by decide +kernel
theorem dL_law_917 : decode cL_law 917 = .ok (.iload 5, 2) := by decide +kernel
theorem dL_law_919 : decode cL_law 919 = .ok (.invokestatic 157, 3) := by decide +kernel
theorem dL_law_922 : decode cL_law 922 = .ok (.ifCond .eq 24, 3) := by decide +kernel
theorem dL_law_925 : decode cL_law 925 = .ok (.aload_n 1, 1) := by decide +kernel
theorem dL_law_926 : decode cL_law 926 = .ok (.iload 11, 2) := by decide +kernel
theorem dL_law_928 : decode cL_law 928 = .ok (.iload_n 3, 1) := by decide +kernel
theorem dL_law_929 : decode cL_law 929 = .ok (.irem, 1) := by decide +kernel
theorem dL_law_930 : decode cL_law 930 = .ok (.iload 5, 2) := by decide +kernel
theorem dL_law_932 : decode cL_law 932 = .ok (.iload 14, 2) := by decide +kernel
theorem dL_law_934 : decode cL_law 934 = .ok (.invokestatic 161, 3) := by decide +kernel
theorem dL_law_937 : decode cL_law 937 = .ok (.ldc 163, 2) := by decide +kernel
theorem dL_law_939 : decode cL_law 939 = .ok (.if_icmp .le 7, 3) := by decide +kernel
theorem dL_law_942 : decode cL_law 942 = .ok (.iconst 1, 1) := by decide +kernel
theorem dL_law_943 : decode cL_law 943 = .ok (.goto 4, 3) := by decide +kernel
theorem dL_law_946 : decode cL_law 946 = .ok (.iconst 0, 1) := by decide +kernel
theorem dL_law_947 : decode cL_law 947 = .ok (.istore 8, 2) := by decide +kernel
theorem dL_law_949 : decode cL_law 949 = .ok (.iinc 9 1, 3) := by decide +kernel
theorem dL_law_952 : decode cL_law 952 = .ok (.goto (-925), 3) := by decide +kernel
theorem dL_law_955 : decode cL_law 955 = .ok (.lconst 0, 1) := by decide +kernel
theorem dL_law_956 : decode cL_law 956 = .ok (.lstore 9, 2) := by decide +kernel
theorem dL_law_958 : decode cL_law 958 = .ok (.iconst 0, 1) := by decide +kernel
theorem dL_law_959 : decode cL_law 959 = .ok (.istore 11, 2) := by decide +kernel
theorem dL_law_961 : decode cL_law 961 = .ok (.iload 11, 2) := by decide +kernel
theorem dL_law_963 : decode cL_law 963 = .ok (.bipush 10, 2) := by decide +kernel
theorem dL_law_965 : decode cL_law 965 = .ok (.if_icmp .ge 32, 3) := by decide +kernel
theorem dL_law_968 : decode cL_law 968 = .ok (.iload 8, 2) := by decide +kernel
theorem dL_law_970 : decode cL_law 970 = .ok (.ifCond .eq 27, 3) := by decide +kernel
theorem dL_law_973 : decode cL_law 973 = .ok (.lload 9, 2) := by decide +kernel
theorem dL_law_975 : decode cL_law 975 = .ok (.aload_n 1, 1) := by decide +kernel
theorem dL_law_976 : decode cL_law 976 = .ok (.iload 11, 2) := by decide +kernel
theorem dL_law_978 : decode cL_law 978 = .ok (.invokestatic 164, 3) := by decide +kernel
theorem dL_law_981 : decode cL_law 981 = .ok (.aload_n 1, 1) := by decide +kernel
theorem dL_law_982 : decode cL_law 982 = .ok (.iload 11, 2) := by decide +kernel
theorem dL_law_984 : decode cL_law 984 = .ok (.invokestatic 146, 3) := by decide +kernel
theorem dL_law_987 : decode cL_law 987 = .ok (.ladd, 1) := by decide +kernel
theorem dL_law_988 : decode cL_law 988 = .ok (.ladd, 1) := by decide +kernel
theorem dL_law_989 : decode cL_law 989 = .ok (.lstore 9, 2) := by decide +kernel
theorem dL_law_991 : decode cL_law 991 = .ok (.iinc 11 1, 3) := by decide +kernel
theorem dL_law_994 : decode cL_law 994 = .ok (.goto (-33), 3) := by decide +kernel
theorem dL_law_997 : decode cL_law 997 = .ok (.lconst 0, 1) := by decide +kernel
theorem dL_law_998 : decode cL_law 998 = .ok (.lstore 11, 2) := by decide +kernel
theorem dL_law_1000 : decode cL_law 1000 = .ok (.iconst 0, 1) := by decide +kernel
theorem dL_law_1001 : decode cL_law 1001 = .ok (.istore 13, 2) := by decide +kernel
theorem dL_law_1003 : decode cL_law 1003 = .ok (.iload 13, 2) := by decide +kernel
theorem dL_law_1005 : decode cL_law 1005 = .ok (.iload_n 3, 1) := by decide +kernel
theorem dL_law_1006 : decode cL_law 1006 = .ok (.if_icmp .ge 57, 3) := by decide +kernel
theorem dL_law_1009 : decode cL_law 1009 = .ok (.iload 8, 2) := by decide +kernel
theorem dL_law_1011 : decode cL_law 1011 = .ok (.ifCond .eq 52, 3) := by decide +kernel
theorem dL_law_1014 : decode cL_law 1014 = .ok (.iconst 0, 1) := by decide +kernel
theorem dL_law_1015 : decode cL_law 1015 = .ok (.istore 14, 2) := by decide +kernel
theorem dL_law_1017 : decode cL_law 1017 = .ok (.iload 14, 2) := by decide +kernel
theorem dL_law_1019 : decode cL_law 1019 = .ok (.iload 5, 2) := by decide +kernel
theorem dL_law_1021 : decode cL_law 1021 = .ok (.if_icmp .gt 36, 3) := by decide +kernel
theorem dL_law_1024 : decode cL_law 1024 = .ok (.aload_n 1, 1) := by decide +kernel
theorem dL_law_1025 : decode cL_law 1025 = .ok (.iload 13, 2) := by decide +kernel
theorem dL_law_1027 : decode cL_law 1027 = .ok (.iload 14, 2) := by decide +kernel
theorem dL_law_1029 : decode cL_law 1029 = .ok (.invokestatic 101, 3) := by decide +kernel
theorem dL_law_1032 : decode cL_law 1032 = .ok (.istore 15, 2) := by decide +kernel
theorem dL_law_1034 : decode cL_law 1034 = .ok (.lload 11, 2) := by decide +kernel
theorem dL_law_1036 : decode cL_law 1036 = .ok (.iload 15, 2) := by decide +kernel
theorem dL_law_1038 : decode cL_law 1038 = .ok (.ifCond .ge 7, 3) := by decide +kernel
theorem dL_law_1041 : decode cL_law 1041 = .ok (.lconst 0, 1) := by decide +kernel
theorem dL_law_1042 : decode cL_law 1042 = .ok (.goto 6, 3) := by decide +kernel
theorem dL_law_1045 : decode cL_law 1045 = .ok (.iload 15, 2) := by decide +kernel
theorem dL_law_1047 : decode cL_law 1047 = .ok (.i2l, 1) := by decide +kernel
theorem dL_law_1048 : decode cL_law 1048 = .ok (.ladd, 1) := by decide +kernel
theorem dL_law_1049 : decode cL_law 1049 = .ok (.lstore 11, 2) := by decide +kernel
theorem dL_law_1051 : decode cL_law 1051 = .ok (.iinc 14 1, 3) := by decide +kernel
theorem dL_law_1054 : decode cL_law 1054 = .ok (.goto (-37), 3) := by decide +kernel
theorem dL_law_1057 : decode cL_law 1057 = .ok (.iinc 13 1, 3) := by decide +kernel
theorem dL_law_1060 : decode cL_law 1060 = .ok (.goto (-57), 3) := by decide +kernel
theorem dL_law_1063 : decode cL_law 1063 = .ok (.iload 8, 2) := by decide +kernel
theorem dL_law_1065 : decode cL_law 1065 = .ok (.ifCond .eq 18, 3) := by decide +kernel
theorem dL_law_1068 : decode cL_law 1068 = .ok (.lload 9, 2) := by decide +kernel
theorem dL_law_1070 : decode cL_law 1070 = .ok (.lload 11, 2) := by decide +kernel
theorem dL_law_1072 : decode cL_law 1072 = .ok (.lload 6, 2) := by decide +kernel
theorem dL_law_1074 : decode cL_law 1074 = .ok (.lsub, 1) := by decide +kernel
theorem dL_law_1075 : decode cL_law 1075 = .ok (.lcmp, 1) := by decide +kernel
theorem dL_law_1076 : decode cL_law 1076 = .ok (.ifCond .ne 7, 3) := by decide +kernel
theorem dL_law_1079 : decode cL_law 1079 = .ok (.iconst 1, 1) := by decide +kernel
theorem dL_law_1080 : decode cL_law 1080 = .ok (.goto 4, 3) := by decide +kernel
theorem dL_law_1083 : decode cL_law 1083 = .ok (.iconst 0, 1) := by decide +kernel
theorem dL_law_1084 : decode cL_law 1084 = .ok (.ireturn, 1) := by decide +kernel
abbrev vwCl : List vw_C := [(RX0, TX0, 5), (RX1, TX1, 6), (RX2, TX2, 3), (RX3, TX3, 3), (RX4, TX4, 7), (RX5, TX5, 4), (RX6, TX6, 20)]
end
