/-! fits: its contract -/
def wp_L_fits (L : List Nat) (σ : Mm) (a1 a2 : Int32) (Qm : Int32 → Mm → List Nat → Prop) : Prop := ∀ ρ : Rh, ρ = (σ, L, 0) → ρ.2.2 + 1 ≤ 30 ∧ wp_L_agrees ρ.2.1 ρ.1 a1 a2 (fun (x1 : Int32) (σ2 : Mm) (L3 : List Nat) => ∀ ρ5 : Rh, ρ5 = (σ2, L3, ρ.2.2 + 1) → (∃ J8 : Rh → Int32 → Prop, (∀ (σ6 : Rh) (x7 : Int32), J8 σ6 x7 → (∃ n : Nat, lpw (S := Rh × Int32 × Int32 × Int32) (fun (R13 : Rh × Int32 × Int32 × Int32 → Prop) (s14 : Rh × Int32 × Int32 × Int32) => match s14 with | (σ9, x10, x11, x12) => (∃ J16 : Rh → Prop, (∀ (σ15 : Rh), J16 σ15 → (∃ J19 : Rh → Int32 → Prop, (∀ (σ17 : Rh) (x18 : Int32), J19 σ17 x18 → zb x18 ∧ σ17.2.2 ≤ 30 ∧ Qm x18 σ17.1 σ17.2.1) ∧ (∃ J21 : Rh → Prop, (∀ (σ20 : Rh), J21 σ20 → J19 σ20 0) ∧ ((x11 = 0 → J21 σ15) ∧ (¬ (x11 = 0) → ((¬ x10 = 100000000 → J21 σ15) ∧ (¬ (¬ x10 = 100000000) → J19 σ15 1))))))) ∧ ((10 ≤ x12 → J16 σ9) ∧ (¬ (10 ≤ x12) → ((x11 = 0 → J16 σ9) ∧ (¬ (x11 = 0) → σ9.2.2 + 1 ≤ 30 ∧ wp_L_interest σ9.2.1 σ9.1 a1 a2 x12 1 (fun (x22 : Int32) (σ23 : Mm) (L24 : List Nat) => ∀ ρ26 : Rh, ρ26 = (σ23, L24, σ9.2.2 + 1) → ρ26.2.2 + 1 ≤ 30 ∧ wp_L_interest ρ26.2.1 ρ26.1 a1 a2 x12 0 (fun (x27 : Int32) (σ28 : Mm) (L29 : List Nat) => ∀ ρ31 : Rh, ρ31 = (σ28, L29, ρ26.2.2 + 1) → ∀ x32 : Int32, x32 = x10 + (x22 + x27) → (∃ J35 : Rh → Int32 → Prop, (∀ (σ33 : Rh) (x34 : Int32), J35 σ33 x34 → ∀ x36 : Int32, x36 = x12 + 1 → R13 (σ33, x32, x34, x36)) ∧ (∃ J38 : Rh → Prop, (∀ (σ37 : Rh), J38 σ37 → J35 σ37 0) ∧ ((x22 < 0 → J38 ρ31) ∧ (¬ (x22 < 0) → ((x27 < 0 → J38 ρ31) ∧ (¬ (x27 < 0) → (∃ J40 : Rh → Prop, (∀ (σ39 : Rh), J40 σ39 → J35 σ39 1) ∧ ((¬ (jr x12 4) = 0 → J40 ρ31) ∧ (¬ (¬ (jr x12 4) = 0) → ρ31.2.2 + 1 ≤ 30 ∧ wp_L_balance ρ31.2.1 ρ31.1 a1 a2 x12 (fun (y41 : Int64) (σ42 : Mm) (L43 : List Nat) => ∀ ρ45 : Rh, ρ45 = (σ42, L43, ρ31.2.2 + 1) → ((y41 < 0 → J38 ρ45) ∧ (¬ (y41 < 0) → J40 ρ45)))))))))))))))))))) n (σ6, 0, x7, 0))) ∧ (∃ J47 : Rh → Prop, (∀ (σ46 : Rh), J47 σ46 → J8 σ46 0) ∧ ((¬ x1 = 1 → J47 ρ5) ∧ (¬ (¬ x1 = 1) → ρ5.2.2 + 1 ≤ 30 ∧ wp_L_revenue ρ5.2.1 ρ5.1 a1 a2 (fun (x48 : Int32) (σ49 : Mm) (L50 : List Nat) => ∀ ρ52 : Rh, ρ52 = (σ49, L50, ρ5.2.2 + 1) → ((x48 < 0 → J47 ρ52) ∧ (¬ (x48 < 0) → J8 ρ52 1))))))))
def rmF : Room := ({ frames := 8, cells := 480, slots := 60000, locals := 203 } : Room)
theorem kL_fits_0 : (Cond.constant RL 109 (100000000)) ∈ wsL_fits := by decide +kernel
section FEND
variable {p : Program} {l : Launch} {e : Env} {R : Room} {s : State} {m : MethodId} {args : Array Value} {below : List Frame} {meth : Method} {c : Code} {c0 s0 : Nat} {Q : State → Prop} {dC : Nat → ClassId} {dI : Nat → Nat → Nat} {dA : Nat → ClassId} {A : Nat → Prop} {xa nL : Nat} {cc : ByteArray} {own : String} {Ts : List Cond} {Wd : Rh → Heap → List Loc → Prop} {ρ : Rh} {pc : Nat} {lv lv' : List (Nat × Value)} {st : List Value}
theorem f_end (hC : mC p s m args c cc own nL Ts dC dI dA A) {w0 : va_W} {sz : Nat} (hA : A = va_A w0 sz) {Qm : Int32 → Mm → List Nat → Prop} (hr : meth.sig.returnType = some .boolean) (hlk : meth.locks = false) (hQ : MQ below (va_Qi (fun r (u : Mm × List Nat) => Qm r u.1 u.2) (cY dC dI dA xa w0 sz) A) args s 480 60000 A = Q) {x : Int32} (hz : zb x) (hw : ρ.2.2 ≤ 30) (hq : Qm x ρ.1 ρ.2.1) (d : decode cc pc = .ok (.ireturn, 1)) : GL p l e R s m args below meth c 0 0 Q (LW s dC dI dA A xa) nL ρ pc lv [.int x] := by
  subst hQ
  intro H locs ls hW hl
  obtain ⟨α, h0, hP, hD, hS⟩ := hW
  refine W.widen (k := 480) (n := 60000) (by omega) (by omega) ?_
  exact W.zret (v := x) hC.1 hC.2.1 hr hz (fun t ht hWd => ⟨⟨x, (ρ.1, ρ.2.1), rfl, hq, α, h0, by rw [ht]; exact hP, va_K.moved hWd.alike hC.2.2.2.2.2.1, by rw [← hA]; exact hD⟩, hS.F ht⟩) hS.2.2 d hlk
end FEND
set_option maxHeartbeats 8000000 in
set_option maxRecDepth 100000 in
theorem cm_L_fits (l : Launch) (hlf : l.stackTraces = false) (dC : Nat → ClassId) (dI : Nat → Nat → Nat) (dA : Nat → ClassId) (L : List Nat) (α : Nat → Nat) (σ : Mm) (a1 a2 : Int32) (Qm : Int32 → Mm → List Nat → Prop) (h : wp_L_fits L σ a1 a2 Qm) (sz : Nat) : Met l yL_fits wsL_fits rmF (xP dC dI dA L α σ sz [fO α (some 0), .int a1, .int a2]) (va_Qi (fun r (u : Mm × List Nat) => Qm r u.1 u.2) (cY dC dI dA (α 0) (wl dA (Fc ++ L) α σ) sz) (va_A (wl dA (Fc ++ L) α σ) sz)) 480 60000 (va_A (wl dA (Fc ++ L) α σ) sz) := by
  refine Met.ofW (cc := cL_fits) (maxL := 8) (ret := some .boolean) (by decide) rfl ?_
  intro p e s m args below meth c s₁ B hml hv
  obtain ⟨rfl, hsz, hP, hK, hD0, hX⟩ := hv
  subst hsz
  have hts := atoms_spec (ws := wsL_fits) B.pre
  have hr := B.returns
  have hlk := B.notSynchronized
  have hown : s.vm.findClass RL = some m.cls := by rw [show RL = yL_fits.cls from rfl]; exact findClass_of_methodNamed B.named
  have hD := hD0.self (sz := s.heap.size)
  have hl := lv_entry ([fO α (some 0), .int a1, .int a2]) (n := 8) (Nat.le_of_ble_eq_true rfl)
  rw [lg_entry_eq]
  have hA0 : ∀ q : Nat, s.heap.size ≤ q → va_A (wl dA (Fc ++ L) α σ) s.heap.size q := fun q h => Or.inr h
  have hC : mC p s m ([fO α (some 0), .int a1, .int a2] : List Value).toArray c cL_fits RL 8 wsL_fits dC dI dA (va_A (wl dA (Fc ++ L) α σ) s.heap.size) := ⟨B.exec, B.bytes, hml, hown, hts, hK, hA0⟩
  have hw0 : LW s dC dI dA (va_A (wl dA (Fc ++ L) α σ) s.heap.size) (α 0) (σ, L, 0) s.heap [] := ⟨α, rfl, hP, hD, va_S.rf⟩
  have hl : lv_has (lg_sl ([fO α (some 0), .int a1, .int a2]) ++ List.replicate (8 - (lg_sl ([fO α (some 0), .int a1, .int a2])).length) Slot.unset).toArray 8 [(0, .ref (α 0)), (1, .int a1), (2, .int a2)] := hl
  obtain ⟨xa, hxa⟩ : ∃ z : Nat, z = α 0 := ⟨_, rfl⟩
  rw [← hxa] at hw0 hl ⊢
  obtain ⟨w0, hw0e⟩ : ∃ z : va_W, z = (wl dA (Fc ++ L) α σ) := ⟨_, rfl⟩
  rw [← hw0e] at hC hw0 hX ⊢
  generalize hA : va_A w0 s.heap.size = A at hC hX hw0 ⊢
  have hA := hA.symm
  generalize hargs : ([fO α (some 0), .int a1, .int a2] : List Value).toArray = args at hC ⊢
  generalize hQ : MQ below (va_Qi (fun r (u : Mm × List Nat) => Qm r u.1 u.2) (cY dC dI dA xa w0 s.heap.size) A) args s 480 60000 A = Q
  have key : ∀ ρ : Rh, ρ = (σ, L, 0) → GL p l e rmF s m args below meth c 0 0 Q (LW s dC dI dA A xa) 8 ρ 0 [(0, .ref xa), (1, .int a1), (2, .int a2)] [] := by
    intro ρ hρ
    replace h := h ρ hρ
    clear hw0 hl hargs hρ
    refine l_iconst (v := 0) hC dL_fits_0 (by decide) ?_
    refine l_istore_n (lv' := [(3, .int 0), (0, .ref xa), (1, .int a1), (2, .int a2)]) hC dL_fits_1 rfl (by decide) rfl ?_
    refine l_aload_n hC dL_fits_2 rfl 1 rfl ?_
    refine l_iload_n hC dL_fits_3 rfl 2 rfl ?_
    refine l_iload_n hC dL_fits_4 rfl 3 rfl ?_
    obtain ⟨w4, h⟩ := h
    refine l_wcalli (n := 3) hC hX [.ref xa, .int a1, .int a2] [] (fun α sz => cm_L_agrees l hlf dC dI dA _ α _ a1 a2 _ h sz) (fun α h0 => by rw [← h0]; rfl) gL_fits_L_agrees rfl ⟨rfl, rfl⟩ (by decide +kernel) ⟨Nat.le_of_ble_eq_true rfl, Nat.le_of_ble_eq_true rfl⟩ rfl rfl (Nat.le_of_ble_eq_true rfl) ⟨by show 0 + 16 * ρ.2.2 + 16 ≤ 480; omega, by show 0 + 2000 * ρ.2.2 + 2000 ≤ 60000; omega⟩ dL_fits_5 (fun x1 σ2 L3 hn => ?_)
    clear h
    revert hn
    intro h
    refine l_topm (fun ρ5 qρ5 => ?_)
    replace h := h ρ5 qρ5
    refine l_iconst (v := 1) hC dL_fits_8 (by decide) ?_
    obtain ⟨J8, hJ8, h⟩ := h
    have KJ8 : ∀ (σ6 : Rh) (x7 : Int32), J8 σ6 x7 → GL p l e rmF s m args below meth c 0 0 Q (LW s dC dI dA A xa) 8 σ6 26 [(0, .ref xa), (1, .int a1), (2, .int a2), (3, .int 0)] [.int x7] := by
      clear h
      intro σ6 x7 h
      replace h := hJ8 σ6 x7 h
      refine l_istore (lv' := [(4, .int x7), (0, .ref xa), (1, .int a1), (2, .int a2), (3, .int 0)]) hC dL_fits_26 (by decide) rfl ?_
      refine l_iconst (v := 0) hC dL_fits_28 (by decide) ?_
      refine l_istore (lv' := [(5, .int 0), (4, .int x7), (0, .ref xa), (1, .int a1), (2, .int a2), (3, .int 0)]) hC dL_fits_29 (by decide) rfl ?_
      refine l_lvs [2, 3, 4, 5, 1, 0] rfl ?_
      obtain ⟨n, h⟩ := h
      refine lpw_ind (S := Rh × Int32 × Int32 × Int32) (fun s14 => GL p l e rmF s m args below meth c 0 0 Q (LW s dC dI dA A xa) 8 s14.1 31 [(0, .ref xa), (1, .int a1), (2, .int a2), (3, .int s14.2.1), (4, .int s14.2.2.1), (5, .int s14.2.2.2)] []) ?_ n (σ6, 0, x7, 0) h
      clear h
      intro R13 hR13 s14 h
      obtain ⟨σ9, x10, x11, x12⟩ := s14
      refine l_iload hC dL_fits_31 5 rfl ?_
      refine l_bipush (v := 10) hC dL_fits_33 (by decide) ?_
      obtain ⟨J16, hJ16, h⟩ := h
      have KJ16 : ∀ (σ15 : Rh), J16 σ15 → GL p l e rmF s m args below meth c 0 0 Q (LW s dC dI dA A xa) 8 σ15 116 [(3, .int x10), (4, .int x11)] [] := by
        clear h
        intro σ15 h
        replace h := hJ16 σ15 h
        refine l_iload hC dL_fits_116 1 rfl ?_
        obtain ⟨J19, hJ19, h⟩ := h
        have KJ19 : ∀ (σ17 : Rh) (x18 : Int32), J19 σ17 x18 → GL p l e rmF s m args below meth c 0 0 Q (LW s dC dI dA A xa) 8 σ17 132 [] [.int x18] := by
          clear h
          intro σ17 x18 h
          replace h := hJ19 σ17 x18 h
          exact f_end hC hA hr hlk hQ h.1 h.2.1 h.2.2 dL_fits_132
        obtain ⟨J21, hJ21, h⟩ := h
        have KJ21 : ∀ (σ20 : Rh), J21 σ20 → GL p l e rmF s m args below meth c 0 0 Q (LW s dC dI dA A xa) 8 σ20 131 [] [] := by
          clear h
          intro σ20 h
          replace h := hJ21 σ20 h
          refine l_iconst (v := 0) hC dL_fits_131 (by decide) ?_
          exact KJ19 σ20 0 h
        refine l_if_eq (tgt := 131) hC dL_fits_118 (by decide) (fun q => ?_) (fun q => ?_)
        · replace h := h.1 q
          refine l_lvs [] rfl ?_
          exact KJ21 σ15 h
        · replace h := h.2 q
          refine l_iload_n hC dL_fits_121 rfl 0 rfl ?_
          refine l_ldc (v := 100000000) hC kL_fits_0 dL_fits_122 ?_
          refine l_icmp_ne (tgt := 131) hC dL_fits_124 (by decide) (fun q => ?_) (fun q => ?_)
          · replace h := h.1 q
            refine l_lvs [] rfl ?_
            exact KJ21 σ15 h
          · replace h := h.2 q
            refine l_iconst (v := 1) hC dL_fits_127 (by decide) ?_
            refine l_goto (tgt := 132) hC dL_fits_128 (by decide) ?_
            refine l_lvs [] rfl ?_
            exact KJ19 σ15 1 h
      refine l_icmp_ge (tgt := 116) hC dL_fits_35 (by decide) (fun q => ?_) (fun q => ?_)
      · replace h := h.1 q
        refine l_lvs [3, 4] rfl ?_
        exact KJ16 σ9 h
      · replace h := h.2 q
        refine l_iload hC dL_fits_38 4 rfl ?_
        refine l_if_eq (tgt := 116) hC dL_fits_40 (by decide) (fun q => ?_) (fun q => ?_)
        · replace h := h.1 q
          refine l_lvs [3, 4] rfl ?_
          exact KJ16 σ9 h
        · replace h := h.2 q
          refine l_aload_n hC dL_fits_43 rfl 0 rfl ?_
          refine l_iload_n hC dL_fits_44 rfl 1 rfl ?_
          refine l_iload_n hC dL_fits_45 rfl 2 rfl ?_
          refine l_iload hC dL_fits_46 5 rfl ?_
          refine l_iconst (v := 1) hC dL_fits_48 (by decide) ?_
          obtain ⟨w25, h⟩ := h
          refine l_wcalli (n := 5) hC hX [.ref xa, .int a1, .int a2, .int x12, .int 1] [] (fun α sz => cm_L_interest l hlf dC dI dA _ α _ a1 a2 x12 1 _ h sz) (fun α h0 => by rw [← h0]; rfl) gL_fits_L_interest rfl ⟨rfl, rfl⟩ (by decide +kernel) ⟨Nat.le_of_ble_eq_true rfl, Nat.le_of_ble_eq_true rfl⟩ rfl rfl (Nat.le_of_ble_eq_true rfl) ⟨by show 0 + 16 * σ9.2.2 + 16 ≤ 480; omega, by show 0 + 2000 * σ9.2.2 + 2000 ≤ 60000; omega⟩ dL_fits_49 (fun x22 σ23 L24 hn => ?_)
          clear h
          revert hn
          intro h
          refine l_topm (fun ρ26 qρ26 => ?_)
          replace h := h ρ26 qρ26
          refine l_istore (lv' := [(6, .int x22), (0, .ref xa), (1, .int a1), (2, .int a2), (3, .int x10), (4, .int x11), (5, .int x12)]) hC dL_fits_52 (by decide) rfl ?_
          refine l_aload_n hC dL_fits_54 rfl 1 rfl ?_
          refine l_iload_n hC dL_fits_55 rfl 2 rfl ?_
          refine l_iload_n hC dL_fits_56 rfl 3 rfl ?_
          refine l_iload hC dL_fits_57 6 rfl ?_
          refine l_iconst (v := 0) hC dL_fits_59 (by decide) ?_
          obtain ⟨w30, h⟩ := h
          refine l_wcalli (n := 5) hC hX [.ref xa, .int a1, .int a2, .int x12, .int 0] [] (fun α sz => cm_L_interest l hlf dC dI dA _ α _ a1 a2 x12 0 _ h sz) (fun α h0 => by rw [← h0]; rfl) gL_fits_L_interest rfl ⟨rfl, rfl⟩ (by decide +kernel) ⟨Nat.le_of_ble_eq_true rfl, Nat.le_of_ble_eq_true rfl⟩ rfl rfl (Nat.le_of_ble_eq_true rfl) ⟨by show 0 + 16 * ρ26.2.2 + 16 ≤ 480; omega, by show 0 + 2000 * ρ26.2.2 + 2000 ≤ 60000; omega⟩ dL_fits_60 (fun x27 σ28 L29 hn => ?_)
          clear h
          revert hn
          intro h
          refine l_topm (fun ρ31 qρ31 => ?_)
          replace h := h ρ31 qρ31
          refine l_istore (lv' := [(7, .int x27), (6, .int x22), (0, .ref xa), (1, .int a1), (2, .int a2), (3, .int x10), (4, .int x11), (5, .int x12)]) hC dL_fits_63 (by decide) rfl ?_
          refine l_iload_n hC dL_fits_65 rfl 5 rfl ?_
          refine l_iload hC dL_fits_66 1 rfl ?_
          refine l_iload hC dL_fits_68 0 rfl ?_
          refine l_iadd hC dL_fits_70 ?_
          refine l_iadd hC dL_fits_71 ?_
          refine l_topi (fun x32 qx32 => ?_)
          replace h := h x32 qx32
          refine l_istore_n (lv' := [(3, .int x32), (7, .int x27), (6, .int x22), (0, .ref xa), (1, .int a1), (2, .int a2), (4, .int x11), (5, .int x12)]) hC dL_fits_72 rfl (by decide) rfl ?_
          refine l_iload hC dL_fits_73 2 rfl ?_
          obtain ⟨J35, hJ35, h⟩ := h
          have KJ35 : ∀ (σ33 : Rh) (x34 : Int32), J35 σ33 x34 → GL p l e rmF s m args below meth c 0 0 Q (LW s dC dI dA A xa) 8 σ33 108 [(0, .ref xa), (1, .int a1), (2, .int a2), (3, .int x32), (5, .int x12)] [.int x34] := by
            clear h
            intro σ33 x34 h
            replace h := hJ35 σ33 x34 h
            refine l_istore (lv' := [(4, .int x34), (0, .ref xa), (1, .int a1), (2, .int a2), (3, .int x32), (5, .int x12)]) hC dL_fits_108 (by decide) rfl ?_
            obtain ⟨x36, qx36⟩ : ∃ z : Int32, z = x12 + 1 := ⟨_, rfl⟩
            replace h := h x36 qx36
            refine l_iinc (v := x36) (lv' := [(5, .int x36), (4, .int x34), (0, .ref xa), (1, .int a1), (2, .int a2), (3, .int x32)]) hC dL_fits_110 (k := 5) rfl (by rw [qx36]; rfl) (by decide) rfl ?_
            refine l_goto (tgt := 31) hC dL_fits_113 (by decide) ?_
            refine l_lvs [2, 3, 4, 5, 1, 0] rfl ?_
            exact hR13 _ h
          obtain ⟨J38, hJ38, h⟩ := h
          have KJ38 : ∀ (σ37 : Rh), J38 σ37 → GL p l e rmF s m args below meth c 0 0 Q (LW s dC dI dA A xa) 8 σ37 107 [(0, .ref xa), (1, .int a1), (2, .int a2), (3, .int x32), (5, .int x12)] [] := by
            clear h
            intro σ37 h
            replace h := hJ38 σ37 h
            refine l_iconst (v := 0) hC dL_fits_107 (by decide) ?_
            exact KJ35 σ37 0 h
          refine l_if_lt (tgt := 107) hC dL_fits_75 (by decide) (fun q => ?_) (fun q => ?_)
          · replace h := h.1 q
            refine l_lvs [3, 4, 5, 0, 7] rfl ?_
            exact KJ38 ρ31 h
          · replace h := h.2 q
            refine l_iload hC dL_fits_78 1 rfl ?_
            refine l_if_lt (tgt := 107) hC dL_fits_80 (by decide) (fun q => ?_) (fun q => ?_)
            · replace h := h.1 q
              refine l_lvs [3, 4, 5, 0, 7] rfl ?_
              exact KJ38 ρ31 h
            · replace h := h.2 q
              refine l_iload hC dL_fits_83 7 rfl ?_
              refine l_iconst (v := 4) hC dL_fits_85 (by decide) ?_
              refine l_irem hC (by decide) dL_fits_86 ?_
              obtain ⟨J40, hJ40, h⟩ := h
              have KJ40 : ∀ (σ39 : Rh), J40 σ39 → GL p l e rmF s m args below meth c 0 0 Q (LW s dC dI dA A xa) 8 σ39 103 [(0, .ref xa), (1, .int a1), (2, .int a2), (3, .int x32), (5, .int x12)] [] := by
                clear h
                intro σ39 h
                replace h := hJ40 σ39 h
                refine l_iconst (v := 1) hC dL_fits_103 (by decide) ?_
                refine l_goto (tgt := 108) hC dL_fits_104 (by decide) ?_
                exact KJ35 σ39 1 h
              refine l_if_ne (tgt := 103) hC dL_fits_87 (by decide) (fun q => ?_) (fun q => ?_)
              · replace h := h.1 q
                refine l_lvs [3, 4, 5, 0, 7] rfl ?_
                exact KJ40 ρ31 h
              · replace h := h.2 q
                refine l_aload_n hC dL_fits_90 rfl 3 rfl ?_
                refine l_iload_n hC dL_fits_91 rfl 4 rfl ?_
                refine l_iload_n hC dL_fits_92 rfl 5 rfl ?_
                refine l_iload hC dL_fits_93 7 rfl ?_
                obtain ⟨w44, h⟩ := h
                refine l_wcalll (n := 4) hC hX [.ref xa, .int a1, .int a2, .int x12] [] (fun α sz => cm_L_balance l hlf dC dI dA _ α _ a1 a2 x12 _ h sz) (fun α h0 => by rw [← h0]; rfl) gL_fits_L_balance rfl ⟨rfl, rfl⟩ (by decide +kernel) ⟨Nat.le_of_ble_eq_true rfl, Nat.le_of_ble_eq_true rfl⟩ rfl rfl (Nat.le_of_ble_eq_true rfl) ⟨by show 0 + 16 * ρ31.2.2 + 16 ≤ 480; omega, by show 0 + 2000 * ρ31.2.2 + 2000 ≤ 60000; omega⟩ dL_fits_95 (fun y41 σ42 L43 hn => ?_)
                clear h
                revert hn
                intro h
                refine l_topm (fun ρ45 qρ45 => ?_)
                replace h := h ρ45 qρ45
                refine l_lconst (v := 0) hC dL_fits_98 (by decide) ?_
                refine l_lcmp_lt (tgt := 107) hC dL_fits_99 dL_fits_100 (by decide) (fun q => ?_) (fun q => ?_)
                · replace h := h.1 q
                  refine l_lvs [3, 4, 5, 0, 7] rfl ?_
                  exact KJ38 ρ45 h
                · replace h := h.2 q
                  refine l_lvs [3, 4, 5, 0, 7] rfl ?_
                  exact KJ40 ρ45 h
    obtain ⟨J47, hJ47, h⟩ := h
    have KJ47 : ∀ (σ46 : Rh), J47 σ46 → GL p l e rmF s m args below meth c 0 0 Q (LW s dC dI dA A xa) 8 σ46 25 [(0, .ref xa), (1, .int a1), (2, .int a2), (3, .int 0)] [] := by
      clear h
      intro σ46 h
      replace h := hJ47 σ46 h
      refine l_iconst (v := 0) hC dL_fits_25 (by decide) ?_
      exact KJ8 σ46 0 h
    refine l_icmp_ne (tgt := 25) hC dL_fits_9 (by decide) (fun q => ?_) (fun q => ?_)
    · replace h := h.1 q
      refine l_lvs [1, 2, 3, 0] rfl ?_
      exact KJ47 ρ5 h
    · replace h := h.2 q
      refine l_aload_n hC dL_fits_12 rfl 1 rfl ?_
      refine l_iload_n hC dL_fits_13 rfl 2 rfl ?_
      refine l_iload_n hC dL_fits_14 rfl 3 rfl ?_
      obtain ⟨w51, h⟩ := h
      refine l_wcalli (n := 3) hC hX [.ref xa, .int a1, .int a2] [] (fun α sz => cm_L_revenue l hlf dC dI dA _ α _ a1 a2 _ h sz) (fun α h0 => by rw [← h0]; rfl) gL_fits_L_revenue rfl ⟨rfl, rfl⟩ (by decide +kernel) ⟨Nat.le_of_ble_eq_true rfl, Nat.le_of_ble_eq_true rfl⟩ rfl rfl (Nat.le_of_ble_eq_true rfl) ⟨by show 0 + 16 * ρ5.2.2 + 16 ≤ 480; omega, by show 0 + 2000 * ρ5.2.2 + 2000 ≤ 60000; omega⟩ dL_fits_15 (fun x48 σ49 L50 hn => ?_)
      clear h
      revert hn
      intro h
      refine l_topm (fun ρ52 qρ52 => ?_)
      replace h := h ρ52 qρ52
      refine l_if_lt (tgt := 25) hC dL_fits_18 (by decide) (fun q => ?_) (fun q => ?_)
      · replace h := h.1 q
        refine l_lvs [1, 2, 3, 0] rfl ?_
        exact KJ47 ρ52 h
      · replace h := h.2 q
        refine l_iconst (v := 1) hC dL_fits_21 (by decide) ?_
        refine l_goto (tgt := 26) hC dL_fits_22 (by decide) ?_
        refine l_lvs [1, 2, 3, 0] rfl ?_
        exact KJ8 ρ52 1 h
  exact key _ rfl s.heap [] _ hw0 hl
