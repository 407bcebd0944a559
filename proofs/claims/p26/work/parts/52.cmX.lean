theorem kX6_pass_0 : (Cond.classLink RX6 93 "java/lang/IllegalArgumentException") ∈ wsX6_pass := by decide +kernel
theorem kX6_pass_1 : (Cond.initialized "java/lang/IllegalArgumentException") ∈ wsX6_pass := by decide +kernel
theorem kX6_pass_2 : ∀ w ∈ (vx_atS RX6 97 (xN 2) xUp).filter goodWord, w ∈ wsX6_pass := by decide +kernel
theorem kX6_pass_3 : ∀ w ∈ u_ws RX6 TX6 20, w ∈ wsX6_pass := by decide +kernel
theorem kX6_pass_4 : (Cond.fieldLink RX6 9 "Divisionorder" "now" "I") ∈ wsX6_pass := by decide +kernel
theorem kX6_pass_5 : (Cond.classLink RX6 100 "java/lang/IllegalStateException") ∈ wsX6_pass := by decide +kernel
theorem kX6_pass_6 : (Cond.initialized "java/lang/IllegalStateException") ∈ wsX6_pass := by decide +kernel
theorem kX6_pass_7 : ∀ w ∈ (vx_atS RX6 104 (xN 3) xUp).filter goodWord, w ∈ wsX6_pass := by decide +kernel
set_option maxHeartbeats 4000000 in
set_option maxRecDepth 100000 in
theorem cm_X6_pass (l : Launch) (hlf : l.stackTraces = false) (dC : Nat → ClassId) (dI : Nat → Nat → Nat) (dA : Nat → ClassId) (L : List Nat) (α : Nat → Nat) (σ : Mm) (a1 : Int32) (Qm : Int32 → Mm → List Nat → Prop) (Xm : Nat → Mm → List Nat → Prop) (h : wp_X6_pass L σ a1 Qm Xm) (sz : Nat) : vx_Met l yX6_pass wsX6_pass ({ frames := 6, cells := 16, slots := 2000, locals := 90 } : Room) (xP dC dI dA L α σ sz [fO α (some 0), .int a1]) (va_Qi (fun r u => Qm r u.1 u.2) (cX dC dI dA L α (wl dA (Fc ++ L) α σ) sz) (va_A (wl dA (Fc ++ L) α σ) sz)) (xXC dC dI dA L α (wl dA (Fc ++ L) α σ) sz Xm) 16 2000 (va_A (wl dA (Fc ++ L) α σ) sz) := by
  refine m_xstart (own := RX6) (lv := [(0, fO α (some 0)), (1, .int a1)]) (by decide) rfl rfl (by simp only [lgl_O, lgl_I, lgl_J, lgl_N]; decide) (by simp only [lva_O, lva_I, lva_J, lva_N]) ?_
  intro p e s m below meth c hsz hC hr hlk htab hX
  generalize hA : va_A (wl dA (Fc ++ L) α σ) sz = A at hC hX ⊢
  have hA := hA.symm
  generalize hargs : ([fO α (some 0), .int a1] : List Value).toArray = args at hC ⊢
  generalize hQ : vx_MQ below _ _ args s 16 2000 A = Q
  unfold wp_X6_pass at h
  refine r_iload_n hC dX6_pass_0 rfl 1 rfl ?_
  refine r_iconst (v := 1) hC dX6_pass_1 (by decide) ?_
  obtain ⟨J1, hJ1, h⟩ := h
  have KJ1 : J1 → G p l e ({ frames := 6, cells := 16, slots := 2000, locals := 90 } : Room) s m args below meth c 0 0 Q dC dI dA (Fc ++ L) α A 2 σ 11 [] [] := by
    clear h
    intro h
    replace h := hJ1 h
    subst hQ
    exact r_throw (ik := 93) (is := 95) (ic := 97) (en := 2) (tx := "months out of range") hC hlf hX hA (by decide +kernel) kX6_pass_0 kX6_pass_1 (by decide +kernel) kX6_pass_2 xh_97_2 xgd_97_2 dX6_pass_11 dX6_pass_14 dX6_pass_15 dX6_pass_17 dX6_pass_20 htab (by decide) hlk (by decide) h
  refine r_icmp_lt (tgt := 11) hC dX6_pass_2 (by decide) (fun q => ?_) (fun q => ?_)
  · replace h := h.1 q
    refine r_lvs [] rfl ?_
    exact KJ1 h
  · replace h := h.2 q
    refine r_iload_n hC dX6_pass_5 rfl 1 rfl ?_
    refine r_bipush (v := 12) hC dX6_pass_6 (by decide) ?_
    refine r_icmp_le (tgt := 21) hC dX6_pass_8 (by decide) (fun q => ?_) (fun q => ?_)
    · replace h := h.1 q
      refine r_aload_n hC dX6_pass_21 rfl 0 rfl ?_
      refine r_get (ci := 6) (f := 0) (v := .int (gI σ 0 0)) hC kX6_pass_3 rfl (by decide) rfl kX6_pass_4 fx_0 (ct_6 rfl) rfl dX6_pass_22 ?_
      refine r_iload_n hC dX6_pass_25 rfl 1 rfl ?_
      refine r_iadd hC dX6_pass_26 ?_
      refine r_bipush (v := 60) hC dX6_pass_27 (by decide) ?_
      refine r_icmp_le (tgt := 42) hC dX6_pass_29 (by decide) (fun q => ?_) (fun q => ?_)
      · replace h := h.1 q
        refine r_aload_n hC dX6_pass_42 rfl 0 rfl ?_
        refine r_dup hC fO_cat dX6_pass_43 ?_
        refine r_get (ci := 6) (f := 0) (v := .int (gI σ 0 0)) hC kX6_pass_3 rfl (by decide) rfl kX6_pass_4 fx_0 (ct_6 rfl) rfl dX6_pass_44 ?_
        refine r_iload_n hC dX6_pass_47 rfl 1 rfl ?_
        refine r_iadd hC dX6_pass_48 ?_
        refine r_put (ci := 6) (f := 0) (v := .int ((gI σ 0 0) + a1)) (σ' := sI σ 0 0 ((gI σ 0 0) + a1)) hC kX6_pass_3 tyX6 tyX6_ok nmX6 rfl (by decide) rfl kX6_pass_4 fx_0 (ct_6 rfl) rfl rfl (Nat.le_of_ble_eq_true rfl) (pt_6_0 rfl) ct_sI dX6_pass_49 ?_
        refine r_topm (fun σ2 qσ2 => ?_)
        replace h := h σ2 qσ2
        refine r_aload_n hC dX6_pass_52 rfl 0 rfl ?_
        refine r_get (ci := 6) (f := 0) (v := .int (gI σ2 0 0)) hC kX6_pass_3 rfl (by decide) rfl kX6_pass_4 fx_0 (ct_6 rfl) rfl dX6_pass_53 ?_
        subst hQ
        exact r_xiret hC hA hr hlk (fun _ _ => rfl) (by decide) dX6_pass_56 h
      · replace h := h.2 q
        subst hQ
        exact r_throw (ik := 100) (is := 102) (ic := 104) (en := 3) (tx := "behind the last month") hC hlf hX hA (by decide +kernel) kX6_pass_5 kX6_pass_6 (by decide +kernel) kX6_pass_7 xh_104_3 xgd_104_3 dX6_pass_32 dX6_pass_35 dX6_pass_36 dX6_pass_38 dX6_pass_41 htab (by decide) hlk (by decide) h
    · replace h := h.2 q
      refine r_lvs [] rfl ?_
      exact KJ1 h
theorem kX6_tract_0 : (Cond.classLink RX6 93 "java/lang/IllegalArgumentException") ∈ wsX6_tract := by decide +kernel
theorem kX6_tract_1 : (Cond.initialized "java/lang/IllegalArgumentException") ∈ wsX6_tract := by decide +kernel
theorem kX6_tract_2 : ∀ w ∈ (vx_atS RX6 97 (xN 2) xUp).filter goodWord, w ∈ wsX6_tract := by decide +kernel
theorem kX6_tract_3 : ∀ w ∈ u_ws RX6 TX6 20, w ∈ wsX6_tract := by decide +kernel
theorem kX6_tract_4 : (Cond.fieldLink RX6 19 "Divisionorder" "tractCount" "I") ∈ wsX6_tract := by decide +kernel
theorem kX6_tract_5 : (Cond.fieldLink RX6 15 "Divisionorder" "tracts" "[LDivisionorder$Tract;") ∈ wsX6_tract := by decide +kernel
theorem kX6_tract_6 : ∀ w ∈ u_ws RX3 TX3 3, w ∈ wsX6_tract := by decide +kernel
theorem kX6_tract_7 : (Cond.classLink RX6 13 RX3) ∈ wsX6_tract := by decide +kernel
theorem kX6_tract_8 : (Cond.instantiable RX3 3) ∈ wsX6_tract := by decide +kernel
theorem kX6_tract_9 : (Cond.initialized RX3) ∈ wsX6_tract := by decide +kernel
theorem kX6_tract_10 : (Cond.methodLink RX6 118 yX3_init) ∈ wsX6_tract := by decide +kernel
theorem kX6_tract_11 : (Cond.instanceMethod yX3_init) ∈ wsX6_tract := by decide +kernel
theorem kX6_tract_12 : (Cond.classLink RX6 100 "java/lang/IllegalStateException") ∈ wsX6_tract := by decide +kernel
theorem kX6_tract_13 : (Cond.initialized "java/lang/IllegalStateException") ∈ wsX6_tract := by decide +kernel
theorem kX6_tract_14 : ∀ w ∈ (vx_atS RX6 104 (xN 3) xUp).filter goodWord, w ∈ wsX6_tract := by decide +kernel
theorem kX6_tract_15 : (Cond.classLink RX6 109 "java/lang/IndexOutOfBoundsException") ∈ wsX6_tract := by decide +kernel
theorem kX6_tract_16 : (Cond.initialized "java/lang/IndexOutOfBoundsException") ∈ wsX6_tract := by decide +kernel
theorem kX6_tract_17 : ∀ w ∈ (vx_atS RX6 113 (xN 1) xUp).filter goodWord, w ∈ wsX6_tract := by decide +kernel
set_option maxHeartbeats 4000000 in
set_option maxRecDepth 100000 in
theorem cm_X6_tract (l : Launch) (hlf : l.stackTraces = false) (dC : Nat → ClassId) (dI : Nat → Nat → Nat) (dA : Nat → ClassId) (L : List Nat) (α : Nat → Nat) (σ : Mm) (a1 : Int32) (a2 : Int32) (Qm : Int32 → Mm → List Nat → Prop) (Xm : Nat → Mm → List Nat → Prop) (h : wp_X6_tract L σ a1 a2 Qm Xm) (sz : Nat) : vx_Met l yX6_tract wsX6_tract ({ frames := 6, cells := 16, slots := 2000, locals := 90 } : Room) (xP dC dI dA L α σ sz [fO α (some 0), .int a1, .int a2]) (va_Qi (fun r u => Qm r u.1 u.2) (cX dC dI dA L α (wl dA (Fc ++ L) α σ) sz) (va_A (wl dA (Fc ++ L) α σ) sz)) (xXC dC dI dA L α (wl dA (Fc ++ L) α σ) sz Xm) 16 2000 (va_A (wl dA (Fc ++ L) α σ) sz) := by
  refine m_xstart (own := RX6) (lv := [(0, fO α (some 0)), (1, .int a1), (2, .int a2)]) (by decide) rfl rfl (by simp only [lgl_O, lgl_I, lgl_J, lgl_N]; decide) (by simp only [lva_O, lva_I, lva_J, lva_N]) ?_
  intro p e s m below meth c hsz hC hr hlk htab hX
  generalize hA : va_A (wl dA (Fc ++ L) α σ) sz = A at hC hX ⊢
  have hA := hA.symm
  generalize hargs : ([fO α (some 0), .int a1, .int a2] : List Value).toArray = args at hC ⊢
  generalize hQ : vx_MQ below _ _ args s 16 2000 A = Q
  unfold wp_X6_tract at h
  refine r_iload_n hC dX6_tract_0 rfl 2 rfl ?_
  refine r_calli hC [] (m_runS (n := 1) hC [.int a2] [] (fun sz => cm_X6_isOwner l dC dI dA L α σ a2 _ h sz) gX6_tract_X6_isOwner rfl ⟨rfl, rfl⟩ (by decide +kernel) ⟨Nat.le_of_ble_eq_true rfl, Nat.le_of_ble_eq_true rfl⟩ rfl (Nat.le_of_ble_eq_true rfl) (by decide) dX6_tract_1) (fun x2 σ1 hn => ?_)
  clear h
  revert hn
  intro h
  refine r_if_ne (tgt := 17) hC dX6_tract_4 (by decide) (fun q => ?_) (fun q => ?_)
  · replace h := h.1 q
    refine r_iload_n hC dX6_tract_17 rfl 1 rfl ?_
    refine r_iconst (v := 1) hC dX6_tract_18 (by decide) ?_
    obtain ⟨J3, hJ3, h⟩ := h
    have KJ3 : J3 → G p l e ({ frames := 6, cells := 16, slots := 2000, locals := 90 } : Room) s m args below meth c 0 0 Q dC dI dA (Fc ++ L) α A 3 σ1 29 [] [] := by
      clear h
      intro h
      replace h := hJ3 h
      subst hQ
      exact r_throw (ik := 93) (is := 114) (ic := 97) (en := 2) (tx := "acres out of range") hC hlf hX hA (by decide +kernel) kX6_tract_0 kX6_tract_1 (by decide +kernel) kX6_tract_2 xh_97_2 xgd_97_2 dX6_tract_29 dX6_tract_32 dX6_tract_33 dX6_tract_35 dX6_tract_38 htab (by decide) hlk (by decide) h
    refine r_icmp_lt (tgt := 29) hC dX6_tract_19 (by decide) (fun q => ?_) (fun q => ?_)
    · replace h := h.1 q
      refine r_lvs [] rfl ?_
      exact KJ3 h
    · replace h := h.2 q
      refine r_iload_n hC dX6_tract_22 rfl 1 rfl ?_
      refine r_sipush (v := 1000) hC dX6_tract_23 (by decide) ?_
      refine r_icmp_le (tgt := 39) hC dX6_tract_26 (by decide) (fun q => ?_) (fun q => ?_)
      · replace h := h.1 q
        refine r_aload_n hC dX6_tract_39 rfl 0 rfl ?_
        refine r_get (ci := 6) (f := 2) (v := .int (gI σ1 0 2)) hC kX6_tract_3 rfl (by decide) rfl kX6_tract_4 fx_0 (ct_6 rfl) rfl dX6_tract_40 ?_
        refine r_bipush (v := 8) hC dX6_tract_43 (by decide) ?_
        refine r_icmp_lt (tgt := 58) hC dX6_tract_45 (by decide) (fun q => ?_) (fun q => ?_)
        · replace h := h.1 q
          refine r_aload_n hC dX6_tract_58 rfl 0 rfl ?_
          refine r_get (ci := 6) (f := 1) (v := fO α (some 1)) hC kX6_tract_3 rfl (by decide) rfl kX6_tract_5 fx_0 (ct_6 rfl) rfl dX6_tract_59 ?_
          refine r_aload_n hC dX6_tract_62 rfl 0 rfl ?_
          refine r_get (ci := 6) (f := 2) (v := .int (gI σ1 0 2)) hC kX6_tract_3 rfl (by decide) rfl kX6_tract_4 fx_0 (ct_6 rfl) rfl dX6_tract_63 ?_
          obtain ⟨k4, f6, h⟩ := h
          refine r_new_3 hC kX6_tract_6 kX6_tract_7 kX6_tract_8 kX6_tract_9 f6.1 f6.2.1 f6.2.2 (by decide) dX6_tract_66 (fun α5 hα5 => ?_)
          rw [fO_al hα5 (k := 0) fx_0, fO_al hα5 (k := 1) fx_1]
          refine r_topm (fun σ7 qσ7 => ?_)
          replace h := h σ7 qσ7
          refine r_dup hC fO_cat dX6_tract_69 ?_
          refine r_iload_n hC dX6_tract_70 rfl 1 rfl ?_
          refine r_iload_n hC dX6_tract_71 rfl 2 rfl ?_
          refine r_callv hC [fO α5 (some k4), .int (gI σ1 0 2), fO α5 (some 1)] (m_runI (n := 2) (k := k4) hC [.int a1, .int a2] [fO α5 (some k4), .int (gI σ1 0 2), fO α5 (some 1)] (fun sz => cm_X3_init l dC dI dA (L ++ [k4]) α5 σ7 k4 a1 a2 _ h sz) gX6_tract_X3_init rfl ⟨rfl, rfl⟩ kX6_tract_9 kX6_tract_10 kX6_tract_11 rfl (by decide +kernel) ⟨Nat.le_of_ble_eq_true rfl, Nat.le_of_ble_eq_true rfl⟩ rfl (Nat.le_of_ble_eq_true rfl) (by decide) dX6_tract_72) (fun σ8 hn => ?_)
          clear h
          revert hn
          intro h
          obtain ⟨c9, h⟩ := h
          refine r_aast_13 hC fx_1 rfl mem_nw f6.2.1 c9 dX6_tract_75 ?_
          refine r_topm (fun σ10 qσ10 => ?_)
          replace h := h σ10 qσ10
          refine r_aload_n hC dX6_tract_76 rfl 0 rfl ?_
          refine r_dup hC fO_cat dX6_tract_77 ?_
          refine r_get (ci := 6) (f := 2) (v := .int (gI σ10 0 2)) hC kX6_tract_3 rfl (by decide) rfl kX6_tract_4 fx_0 (ct_6 rfl) rfl dX6_tract_78 ?_
          refine r_dup_x1 hC rfl fO_cat dX6_tract_81 ?_
          refine r_iconst (v := 1) hC dX6_tract_82 (by decide) ?_
          refine r_iadd hC dX6_tract_83 ?_
          refine r_put (ci := 6) (f := 2) (v := .int ((gI σ10 0 2) + 1)) (σ' := sI σ10 0 2 ((gI σ10 0 2) + 1)) hC kX6_tract_3 tyX6 tyX6_ok nmX6 rfl (by decide) rfl kX6_tract_4 fx_0 (ct_6 rfl) rfl rfl (Nat.le_of_ble_eq_true rfl) (pt_6_2 rfl) ct_sI dX6_tract_84 ?_
          refine r_topm (fun σ11 qσ11 => ?_)
          replace h := h σ11 qσ11
          subst hQ
          exact r_xiret hC hA hr hlk hα5 (by decide) dX6_tract_87 h
        · replace h := h.2 q
          subst hQ
          exact r_throw (ik := 100) (is := 116) (ic := 104) (en := 3) (tx := "no more tracts") hC hlf hX hA (by decide +kernel) kX6_tract_12 kX6_tract_13 (by decide +kernel) kX6_tract_14 xh_104_3 xgd_104_3 dX6_tract_48 dX6_tract_51 dX6_tract_52 dX6_tract_54 dX6_tract_57 htab (by decide) hlk (by decide) h
      · replace h := h.2 q
        refine r_lvs [] rfl ?_
        exact KJ3 h
  · replace h := h.2 q
    subst hQ
    exact r_throw (ik := 109) (is := 111) (ic := 113) (en := 1) (tx := "no such owner") hC hlf hX hA (by decide +kernel) kX6_tract_15 kX6_tract_16 (by decide +kernel) kX6_tract_17 xh_113_1 xgd_113_1 dX6_tract_7 dX6_tract_10 dX6_tract_11 dX6_tract_13 dX6_tract_16 htab (by decide) hlk (by decide) h
theorem kX6_deed_0 : (Cond.classLink RX6 109 "java/lang/IndexOutOfBoundsException") ∈ wsX6_deed := by decide +kernel
theorem kX6_deed_1 : (Cond.initialized "java/lang/IndexOutOfBoundsException") ∈ wsX6_deed := by decide +kernel
theorem kX6_deed_2 : ∀ w ∈ (vx_atS RX6 113 (xN 1) xUp).filter goodWord, w ∈ wsX6_deed := by decide +kernel
theorem kX6_deed_3 : (Cond.classLink RX6 93 "java/lang/IllegalArgumentException") ∈ wsX6_deed := by decide +kernel
theorem kX6_deed_4 : (Cond.initialized "java/lang/IllegalArgumentException") ∈ wsX6_deed := by decide +kernel
theorem kX6_deed_5 : ∀ w ∈ (vx_atS RX6 97 (xN 2) xUp).filter goodWord, w ∈ wsX6_deed := by decide +kernel
theorem kX6_deed_6 : (Cond.classLink RX6 100 "java/lang/IllegalStateException") ∈ wsX6_deed := by decide +kernel
theorem kX6_deed_7 : (Cond.initialized "java/lang/IllegalStateException") ∈ wsX6_deed := by decide +kernel
theorem kX6_deed_8 : ∀ w ∈ (vx_atS RX6 104 (xN 3) xUp).filter goodWord, w ∈ wsX6_deed := by decide +kernel
theorem kX6_deed_9 : ∀ w ∈ u_ws RX6 TX6 20, w ∈ wsX6_deed := by decide +kernel
theorem kX6_deed_10 : (Cond.fieldLink RX6 28 "Divisionorder" "deedCount" "I") ∈ wsX6_deed := by decide +kernel
theorem kX6_deed_11 : (Cond.fieldLink RX6 24 "Divisionorder" "deeds" "[LDivisionorder$Deed;") ∈ wsX6_deed := by decide +kernel
theorem kX6_deed_12 : ∀ w ∈ u_ws RX0 TX0 5, w ∈ wsX6_deed := by decide +kernel
theorem kX6_deed_13 : (Cond.classLink RX6 22 RX0) ∈ wsX6_deed := by decide +kernel
theorem kX6_deed_14 : (Cond.instantiable RX0 5) ∈ wsX6_deed := by decide +kernel
theorem kX6_deed_15 : (Cond.initialized RX0) ∈ wsX6_deed := by decide +kernel
theorem kX6_deed_16 : (Cond.methodLink RX6 138 yX0_init) ∈ wsX6_deed := by decide +kernel
theorem kX6_deed_17 : (Cond.instanceMethod yX0_init) ∈ wsX6_deed := by decide +kernel
theorem kX6_deed_18 : (Cond.fieldLink RX6 9 "Divisionorder" "now" "I") ∈ wsX6_deed := by decide +kernel
set_option maxHeartbeats 4000000 in
set_option maxRecDepth 100000 in
theorem cm_X6_deed (l : Launch) (hlf : l.stackTraces = false) (dC : Nat → ClassId) (dI : Nat → Nat → Nat) (dA : Nat → ClassId) (L : List Nat) (α : Nat → Nat) (σ : Mm) (a1 : Int32) (a2 : Int32) (a3 : Int32) (a4 : Int32) (a5 : Int32) (Qm : Int32 → Mm → List Nat → Prop) (Xm : Nat → Mm → List Nat → Prop) (h : wp_X6_deed L σ a1 a2 a3 a4 a5 Qm Xm) (sz : Nat) : vx_Met l yX6_deed wsX6_deed ({ frames := 6, cells := 16, slots := 2000, locals := 90 } : Room) (xP dC dI dA L α σ sz [fO α (some 0), .int a1, .int a2, .int a3, .int a4, .int a5]) (va_Qi (fun r u => Qm r u.1 u.2) (cX dC dI dA L α (wl dA (Fc ++ L) α σ) sz) (va_A (wl dA (Fc ++ L) α σ) sz)) (xXC dC dI dA L α (wl dA (Fc ++ L) α σ) sz Xm) 16 2000 (va_A (wl dA (Fc ++ L) α σ) sz) := by
  refine m_xstart (own := RX6) (lv := [(0, fO α (some 0)), (1, .int a1), (2, .int a2), (3, .int a3), (4, .int a4), (5, .int a5)]) (by decide) rfl rfl (by simp only [lgl_O, lgl_I, lgl_J, lgl_N]; decide) (by simp only [lva_O, lva_I, lva_J, lva_N]) ?_
  intro p e s m below meth c hsz hC hr hlk htab hX
  generalize hA : va_A (wl dA (Fc ++ L) α σ) sz = A at hC hX ⊢
  have hA := hA.symm
  generalize hargs : ([fO α (some 0), .int a1, .int a2, .int a3, .int a4, .int a5] : List Value).toArray = args at hC ⊢
  generalize hQ : vx_MQ below _ _ args s 16 2000 A = Q
  unfold wp_X6_deed at h
  refine r_aload_n hC dX6_deed_0 rfl 0 rfl ?_
  refine r_iload_n hC dX6_deed_1 rfl 1 rfl ?_
  refine r_callo hC [] (m_runV (n := 1) (ci := 6) hC [.int a1] [] (fun sz => cm_X6_tractAt l dC dI dA L α σ a1 _ h sz) gX6_deed_X6_tractAt rfl ⟨rfl, rfl⟩ (by decide +kernel) ⟨Nat.le_of_ble_eq_true rfl, Nat.le_of_ble_eq_true rfl⟩ fx_0 (ct_6 rfl) rfl rfl (Nat.le_of_ble_eq_true rfl) (by decide) dX6_deed_2) (fun o2 σ1 hn => ?_)
  clear h
  revert hn
  intro h
  refine r_astore (lv' := [(6, fO α o2), (0, fO α (some 0)), (1, .int a1), (2, .int a2), (3, .int a3), (4, .int a4), (5, .int a5)]) hC dX6_deed_5 (by decide) rfl ?_
  refine r_aload hC dX6_deed_7 0 rfl ?_
  obtain ⟨J5, hJ5, h⟩ := h
  have KJ5 : ∀ (σ4 : Mm), J5 σ4 → G p l e ({ frames := 6, cells := 16, slots := 2000, locals := 90 } : Room) s m args below meth c 0 0 Q dC dI dA (Fc ++ L) α A 7 σ4 35 [] [] := by
    clear h
    intro σ4 h
    replace h := hJ5 σ4 h
    subst hQ
    exact r_throw (ik := 109) (is := 128) (ic := 113) (en := 1) (tx := "no such tract, owner or month") hC hlf hX hA (by decide +kernel) kX6_deed_0 kX6_deed_1 (by decide +kernel) kX6_deed_2 xh_113_1 xgd_113_1 dX6_deed_35 dX6_deed_38 dX6_deed_39 dX6_deed_41 dX6_deed_44 htab (by decide) hlk (by decide) h
  refine r_ifnull (tgt := 35) hC dX6_deed_9 (by decide) (fun q => ?_) (fun k3 q => ?_)
  · replace h := h.1 q
    subst q
    refine r_lvs [] rfl ?_
    exact KJ5 σ1 h
  · replace h := h.2 k3 q
    subst q
    refine r_iload_n hC dX6_deed_12 rfl 3 rfl ?_
    refine r_calli hC [] (m_runS (n := 1) hC [.int a2] [] (fun sz => cm_X6_isOwner l dC dI dA L α σ1 a2 _ h sz) gX6_deed_X6_isOwner rfl ⟨rfl, rfl⟩ (by decide +kernel) ⟨Nat.le_of_ble_eq_true rfl, Nat.le_of_ble_eq_true rfl⟩ rfl (Nat.le_of_ble_eq_true rfl) (by decide) dX6_deed_13) (fun x7 σ6 hn => ?_)
    clear h
    revert hn
    intro h
    refine r_if_eq (tgt := 35) hC dX6_deed_16 (by decide) (fun q => ?_) (fun q => ?_)
    · replace h := h.1 q
      refine r_lvs [] rfl ?_
      exact KJ5 σ6 h
    · replace h := h.2 q
      refine r_iload_n hC dX6_deed_19 rfl 4 rfl ?_
      refine r_calli hC [] (m_runS (n := 1) hC [.int a3] [] (fun sz => cm_X6_isOwner l dC dI dA L α σ6 a3 _ h sz) gX6_deed_X6_isOwner rfl ⟨rfl, rfl⟩ (by decide +kernel) ⟨Nat.le_of_ble_eq_true rfl, Nat.le_of_ble_eq_true rfl⟩ rfl (Nat.le_of_ble_eq_true rfl) (by decide) dX6_deed_20) (fun x9 σ8 hn => ?_)
      clear h
      revert hn
      intro h
      refine r_if_eq (tgt := 35) hC dX6_deed_23 (by decide) (fun q => ?_) (fun q => ?_)
      · replace h := h.1 q
        refine r_lvs [] rfl ?_
        exact KJ5 σ8 h
      · replace h := h.2 q
        refine r_aload_n hC dX6_deed_26 rfl 1 rfl ?_
        refine r_iload hC dX6_deed_27 6 rfl ?_
        refine r_calli hC [] (m_runV (n := 1) (ci := 6) hC [.int a5] [] (fun sz => cm_X6_isMonth l dC dI dA L α σ8 a5 _ h sz) gX6_deed_X6_isMonth rfl ⟨rfl, rfl⟩ (by decide +kernel) ⟨Nat.le_of_ble_eq_true rfl, Nat.le_of_ble_eq_true rfl⟩ fx_0 (ct_6 rfl) rfl rfl (Nat.le_of_ble_eq_true rfl) (by decide) dX6_deed_29) (fun x11 σ10 hn => ?_)
        clear h
        revert hn
        intro h
        refine r_if_ne (tgt := 45) hC dX6_deed_32 (by decide) (fun q => ?_) (fun q => ?_)
        · replace h := h.1 q
          refine r_iload_n hC dX6_deed_45 rfl 3 rfl ?_
          refine r_iload_n hC dX6_deed_46 rfl 4 rfl ?_
          obtain ⟨J12, hJ12, h⟩ := h
          have KJ12 : J12 → G p l e ({ frames := 6, cells := 16, slots := 2000, locals := 90 } : Room) s m args below meth c 0 0 Q dC dI dA (Fc ++ L) α A 7 σ10 64 [] [] := by
            clear h
            intro h
            replace h := hJ12 h
            subst hQ
            exact r_throw (ik := 93) (is := 130) (ic := 97) (en := 2) (tx := "the same owner, or parts out of range") hC hlf hX hA (by decide +kernel) kX6_deed_3 kX6_deed_4 (by decide +kernel) kX6_deed_5 xh_97_2 xgd_97_2 dX6_deed_64 dX6_deed_67 dX6_deed_68 dX6_deed_70 dX6_deed_73 htab (by decide) hlk (by decide) h
          refine r_icmp_eq (tgt := 64) hC dX6_deed_47 (by decide) (fun q => ?_) (fun q => ?_)
          · replace h := h.1 q
            refine r_lvs [] rfl ?_
            exact KJ12 h
          · replace h := h.2 q
            refine r_iload hC dX6_deed_50 5 rfl ?_
            refine r_iconst (v := 1) hC dX6_deed_52 (by decide) ?_
            refine r_icmp_lt (tgt := 64) hC dX6_deed_53 (by decide) (fun q => ?_) (fun q => ?_)
            · replace h := h.1 q
              refine r_lvs [] rfl ?_
              exact KJ12 h
            · replace h := h.2 q
              refine r_iload hC dX6_deed_56 5 rfl ?_
              refine r_sipush (v := 10000) hC dX6_deed_58 (by decide) ?_
              refine r_icmp_le (tgt := 74) hC dX6_deed_61 (by decide) (fun q => ?_) (fun q => ?_)
              · replace h := h.1 q
                refine r_aload_n hC dX6_deed_74 rfl 1 rfl ?_
                refine r_aload hC dX6_deed_75 0 rfl ?_
                refine r_iload_n hC dX6_deed_77 rfl 3 rfl ?_
                refine r_iload hC dX6_deed_78 6 rfl ?_
                refine r_calli hC [] (m_runV (n := 3) (ci := 6) hC [fO α (some k3), .int a2, .int a5] [] (fun sz => cm_X6_leastTitle l dC dI dA L α σ10 (some k3) a2 a5 _ h sz) gX6_deed_X6_leastTitle rfl ⟨rfl, rfl⟩ (by decide +kernel) ⟨Nat.le_of_ble_eq_true rfl, Nat.le_of_ble_eq_true rfl⟩ fx_0 (ct_6 rfl) rfl rfl (Nat.le_of_ble_eq_true rfl) (by decide) dX6_deed_80) (fun x14 σ13 hn => ?_)
                clear h
                revert hn
                intro h
                refine r_iload hC dX6_deed_83 5 rfl ?_
                obtain ⟨J15, hJ15, h⟩ := h
                have KJ15 : J15 → G p l e ({ frames := 6, cells := 16, slots := 2000, locals := 90 } : Room) s m args below meth c 0 0 Q dC dI dA (Fc ++ L) α A 7 σ13 97 [] [] := by
                  clear h
                  intro h
                  replace h := hJ15 h
                  subst hQ
                  exact r_throw (ik := 100) (is := 136) (ic := 104) (en := 3) (tx := "not so many parts, or no more deeds") hC hlf hX hA (by decide +kernel) kX6_deed_6 kX6_deed_7 (by decide +kernel) kX6_deed_8 xh_104_3 xgd_104_3 dX6_deed_97 dX6_deed_100 dX6_deed_101 dX6_deed_103 dX6_deed_106 htab (by decide) hlk (by decide) h
                refine r_icmp_lt (tgt := 97) hC dX6_deed_85 (by decide) (fun q => ?_) (fun q => ?_)
                · replace h := h.1 q
                  refine r_lvs [] rfl ?_
                  exact KJ15 h
                · replace h := h.2 q
                  refine r_aload_n hC dX6_deed_88 rfl 1 rfl ?_
                  refine r_get (ci := 6) (f := 4) (v := .int (gI σ13 0 4)) hC kX6_deed_9 rfl (by decide) rfl kX6_deed_10 fx_0 (ct_6 rfl) rfl dX6_deed_89 ?_
                  refine r_bipush (v := 40) hC dX6_deed_92 (by decide) ?_
                  refine r_icmp_lt (tgt := 107) hC dX6_deed_94 (by decide) (fun q => ?_) (fun q => ?_)
                  · replace h := h.1 q
                    refine r_aload_n hC dX6_deed_107 rfl 1 rfl ?_
                    refine r_get (ci := 6) (f := 3) (v := fO α (some 2)) hC kX6_deed_9 rfl (by decide) rfl kX6_deed_11 fx_0 (ct_6 rfl) rfl dX6_deed_108 ?_
                    refine r_aload_n hC dX6_deed_111 rfl 1 rfl ?_
                    refine r_get (ci := 6) (f := 4) (v := .int (gI σ13 0 4)) hC kX6_deed_9 rfl (by decide) rfl kX6_deed_10 fx_0 (ct_6 rfl) rfl dX6_deed_112 ?_
                    obtain ⟨v19, h⟩ := h
                    obtain ⟨k16, f18, h⟩ := h
                    refine r_new_0 hC kX6_deed_12 kX6_deed_13 kX6_deed_14 kX6_deed_15 f18.1 f18.2.1 f18.2.2 (by decide) dX6_deed_115 (fun α17 hα17 => ?_)
                    rw [fO_al hα17 (k := k3) v19.1, fO_al hα17 (k := 0) fx_0, fO_al hα17 (k := 2) fx_2]
                    refine r_topm (fun σ20 qσ20 => ?_)
                    replace h := h σ20 qσ20
                    refine r_dup hC fO_cat dX6_deed_118 ?_
                    refine r_aload hC dX6_deed_119 0 rfl ?_
                    refine r_iload_n hC dX6_deed_121 rfl 3 rfl ?_
                    refine r_iload_n hC dX6_deed_122 rfl 4 rfl ?_
                    refine r_iload hC dX6_deed_123 5 rfl ?_
                    refine r_iload hC dX6_deed_125 6 rfl ?_
                    refine r_callv hC [fO α17 (some k16), .int (gI σ13 0 4), fO α17 (some 2)] (m_runI (n := 5) (k := k16) hC [fO α17 (some k3), .int a2, .int a3, .int a4, .int a5] [fO α17 (some k16), .int (gI σ13 0 4), fO α17 (some 2)] (fun sz => cm_X0_init l dC dI dA (L ++ [k16]) α17 σ20 k16 (some k3) a2 a3 a4 a5 _ h sz) gX6_deed_X0_init rfl ⟨rfl, rfl⟩ kX6_deed_15 kX6_deed_16 kX6_deed_17 rfl (by decide +kernel) ⟨Nat.le_of_ble_eq_true rfl, Nat.le_of_ble_eq_true rfl⟩ rfl (Nat.le_of_ble_eq_true rfl) (by decide) dX6_deed_127) (fun σ21 hn => ?_)
                    clear h
                    revert hn
                    intro h
                    obtain ⟨c22, h⟩ := h
                    refine r_aast_11 hC fx_2 rfl mem_nw f18.2.1 c22 dX6_deed_130 ?_
                    refine r_topm (fun σ23 qσ23 => ?_)
                    replace h := h σ23 qσ23
                    refine r_aload_n hC dX6_deed_131 rfl 1 rfl ?_
                    refine r_dup hC fO_cat dX6_deed_132 ?_
                    refine r_get (ci := 6) (f := 4) (v := .int (gI σ23 0 4)) hC kX6_deed_9 rfl (by decide) rfl kX6_deed_10 fx_0 (ct_6 rfl) rfl dX6_deed_133 ?_
                    refine r_iconst (v := 1) hC dX6_deed_136 (by decide) ?_
                    refine r_iadd hC dX6_deed_137 ?_
                    refine r_put (ci := 6) (f := 4) (v := .int ((gI σ23 0 4) + 1)) (σ' := sI σ23 0 4 ((gI σ23 0 4) + 1)) hC kX6_deed_9 tyX6 tyX6_ok nmX6 rfl (by decide) rfl kX6_deed_10 fx_0 (ct_6 rfl) rfl rfl (Nat.le_of_ble_eq_true rfl) (pt_6_4 rfl) ct_sI dX6_deed_138 ?_
                    refine r_topm (fun σ24 qσ24 => ?_)
                    replace h := h σ24 qσ24
                    refine r_aload_n hC dX6_deed_141 rfl 1 rfl ?_
                    refine r_iload hC dX6_deed_142 6 rfl ?_
                    refine r_callv hC [] (m_runV (n := 1) (ci := 6) hC [.int a5] [] (fun sz => cm_X6_unsettle l dC dI dA (L ++ [k16]) α17 σ24 a5 _ h sz) gX6_deed_X6_unsettle rfl ⟨rfl, rfl⟩ (by decide +kernel) ⟨Nat.le_of_ble_eq_true rfl, Nat.le_of_ble_eq_true rfl⟩ fx_0 (ct_6 rfl) rfl rfl (Nat.le_of_ble_eq_true rfl) (by decide) dX6_deed_144) (fun σ25 hn => ?_)
                    clear h
                    revert hn
                    intro h
                    refine r_aload_n hC dX6_deed_147 rfl 1 rfl ?_
                    refine r_aload hC dX6_deed_148 0 rfl ?_
                    refine r_iload_n hC dX6_deed_150 rfl 3 rfl ?_
                    refine r_aload_n hC dX6_deed_151 rfl 1 rfl ?_
                    refine r_get (ci := 6) (f := 0) (v := .int (gI σ25 0 0)) hC kX6_deed_9 rfl (by decide) rfl kX6_deed_18 fx_0 (ct_6 rfl) rfl dX6_deed_152 ?_
                    refine r_calli hC [] (m_runV (n := 3) (ci := 6) hC [fO α17 (some k3), .int a2, .int (gI σ25 0 0)] [] (fun sz => cm_X6_titleOf l dC dI dA (L ++ [k16]) α17 σ25 (some k3) a2 (gI σ25 0 0) _ h sz) gX6_deed_X6_titleOf rfl ⟨rfl, rfl⟩ (by decide +kernel) ⟨Nat.le_of_ble_eq_true rfl, Nat.le_of_ble_eq_true rfl⟩ fx_0 (ct_6 rfl) rfl rfl (Nat.le_of_ble_eq_true rfl) (by decide) dX6_deed_155) (fun x27 σ26 hn => ?_)
                    clear h
                    revert hn
                    intro h
                    subst hQ
                    exact r_xiret hC hA hr hlk hα17 (by decide) dX6_deed_158 h
                  · replace h := h.2 q
                    refine r_lvs [] rfl ?_
                    exact KJ15 h
              · replace h := h.2 q
                refine r_lvs [] rfl ?_
                exact KJ12 h
        · replace h := h.2 q
          refine r_lvs [] rfl ?_
          exact KJ5 σ10 h
theorem kX6_title_0 : (Cond.classLink RX6 109 "java/lang/IndexOutOfBoundsException") ∈ wsX6_title := by decide +kernel
theorem kX6_title_1 : (Cond.initialized "java/lang/IndexOutOfBoundsException") ∈ wsX6_title := by decide +kernel
theorem kX6_title_2 : ∀ w ∈ (vx_atS RX6 113 (xN 1) xUp).filter goodWord, w ∈ wsX6_title := by decide +kernel
set_option maxHeartbeats 4000000 in
set_option maxRecDepth 100000 in
theorem cm_X6_title (l : Launch) (hlf : l.stackTraces = false) (dC : Nat → ClassId) (dI : Nat → Nat → Nat) (dA : Nat → ClassId) (L : List Nat) (α : Nat → Nat) (σ : Mm) (a1 : Int32) (a2 : Int32) (a3 : Int32) (Qm : Int32 → Mm → List Nat → Prop) (Xm : Nat → Mm → List Nat → Prop) (h : wp_X6_title L σ a1 a2 a3 Qm Xm) (sz : Nat) : vx_Met l yX6_title wsX6_title ({ frames := 6, cells := 16, slots := 2000, locals := 90 } : Room) (xP dC dI dA L α σ sz [fO α (some 0), .int a1, .int a2, .int a3]) (va_Qi (fun r u => Qm r u.1 u.2) (cX dC dI dA L α (wl dA (Fc ++ L) α σ) sz) (va_A (wl dA (Fc ++ L) α σ) sz)) (xXC dC dI dA L α (wl dA (Fc ++ L) α σ) sz Xm) 16 2000 (va_A (wl dA (Fc ++ L) α σ) sz) := by
  refine m_xstart (own := RX6) (lv := [(0, fO α (some 0)), (1, .int a1), (2, .int a2), (3, .int a3)]) (by decide) rfl rfl (by simp only [lgl_O, lgl_I, lgl_J, lgl_N]; decide) (by simp only [lva_O, lva_I, lva_J, lva_N]) ?_
  intro p e s m below meth c hsz hC hr hlk htab hX
  generalize hA : va_A (wl dA (Fc ++ L) α σ) sz = A at hC hX ⊢
  have hA := hA.symm
  generalize hargs : ([fO α (some 0), .int a1, .int a2, .int a3] : List Value).toArray = args at hC ⊢
  generalize hQ : vx_MQ below _ _ args s 16 2000 A = Q
  unfold wp_X6_title at h
  refine r_aload_n hC dX6_title_0 rfl 0 rfl ?_
  refine r_iload_n hC dX6_title_1 rfl 1 rfl ?_
  refine r_callo hC [] (m_runV (n := 1) (ci := 6) hC [.int a1] [] (fun sz => cm_X6_tractAt l dC dI dA L α σ a1 _ h sz) gX6_title_X6_tractAt rfl ⟨rfl, rfl⟩ (by decide +kernel) ⟨Nat.le_of_ble_eq_true rfl, Nat.le_of_ble_eq_true rfl⟩ fx_0 (ct_6 rfl) rfl rfl (Nat.le_of_ble_eq_true rfl) (by decide) dX6_title_2) (fun o2 σ1 hn => ?_)
  clear h
  revert hn
  intro h
  refine r_astore (lv' := [(4, fO α o2), (0, fO α (some 0)), (1, .int a1), (2, .int a2), (3, .int a3)]) hC dX6_title_5 (by decide) rfl ?_
  refine r_aload hC dX6_title_7 0 rfl ?_
  obtain ⟨J5, hJ5, h⟩ := h
  have KJ5 : ∀ (σ4 : Mm), J5 σ4 → G p l e ({ frames := 6, cells := 16, slots := 2000, locals := 90 } : Room) s m args below meth c 0 0 Q dC dI dA (Fc ++ L) α A 5 σ4 27 [] [] := by
    clear h
    intro σ4 h
    replace h := hJ5 σ4 h
    subst hQ
    exact r_throw (ik := 109) (is := 128) (ic := 113) (en := 1) (tx := "no such tract, owner or month") hC hlf hX hA (by decide +kernel) kX6_title_0 kX6_title_1 (by decide +kernel) kX6_title_2 xh_113_1 xgd_113_1 dX6_title_27 dX6_title_30 dX6_title_31 dX6_title_33 dX6_title_36 htab (by decide) hlk (by decide) h
  refine r_ifnull (tgt := 27) hC dX6_title_9 (by decide) (fun q => ?_) (fun k3 q => ?_)
  · replace h := h.1 q
    subst q
    refine r_lvs [] rfl ?_
    exact KJ5 σ1 h
  · replace h := h.2 k3 q
    subst q
    refine r_iload_n hC dX6_title_12 rfl 3 rfl ?_
    refine r_calli hC [] (m_runS (n := 1) hC [.int a2] [] (fun sz => cm_X6_isOwner l dC dI dA L α σ1 a2 _ h sz) gX6_title_X6_isOwner rfl ⟨rfl, rfl⟩ (by decide +kernel) ⟨Nat.le_of_ble_eq_true rfl, Nat.le_of_ble_eq_true rfl⟩ rfl (Nat.le_of_ble_eq_true rfl) (by decide) dX6_title_13) (fun x7 σ6 hn => ?_)
    clear h
    revert hn
    intro h
    refine r_if_eq (tgt := 27) hC dX6_title_16 (by decide) (fun q => ?_) (fun q => ?_)
    · replace h := h.1 q
      refine r_lvs [] rfl ?_
      exact KJ5 σ6 h
    · replace h := h.2 q
      refine r_aload_n hC dX6_title_19 rfl 1 rfl ?_
      refine r_iload_n hC dX6_title_20 rfl 4 rfl ?_
      refine r_calli hC [] (m_runV (n := 1) (ci := 6) hC [.int a3] [] (fun sz => cm_X6_isMonth l dC dI dA L α σ6 a3 _ h sz) gX6_title_X6_isMonth rfl ⟨rfl, rfl⟩ (by decide +kernel) ⟨Nat.le_of_ble_eq_true rfl, Nat.le_of_ble_eq_true rfl⟩ fx_0 (ct_6 rfl) rfl rfl (Nat.le_of_ble_eq_true rfl) (by decide) dX6_title_21) (fun x9 σ8 hn => ?_)
      clear h
      revert hn
      intro h
      refine r_if_ne (tgt := 37) hC dX6_title_24 (by decide) (fun q => ?_) (fun q => ?_)
      · replace h := h.1 q
        refine r_aload_n hC dX6_title_37 rfl 1 rfl ?_
        refine r_aload hC dX6_title_38 0 rfl ?_
        refine r_iload_n hC dX6_title_40 rfl 3 rfl ?_
        refine r_iload_n hC dX6_title_41 rfl 4 rfl ?_
        refine r_calli hC [] (m_runV (n := 3) (ci := 6) hC [fO α (some k3), .int a2, .int a3] [] (fun sz => cm_X6_titleOf l dC dI dA L α σ8 (some k3) a2 a3 _ h sz) gX6_title_X6_titleOf rfl ⟨rfl, rfl⟩ (by decide +kernel) ⟨Nat.le_of_ble_eq_true rfl, Nat.le_of_ble_eq_true rfl⟩ fx_0 (ct_6 rfl) rfl rfl (Nat.le_of_ble_eq_true rfl) (by decide) dX6_title_42) (fun x11 σ10 hn => ?_)
        clear h
        revert hn
        intro h
        subst hQ
        exact r_xiret hC hA hr hlk (fun _ _ => rfl) (by decide) dX6_title_45 h
      · replace h := h.2 q
        refine r_lvs [] rfl ?_
        exact KJ5 σ8 h
theorem kX6_lease_0 : (Cond.classLink RX6 109 "java/lang/IndexOutOfBoundsException") ∈ wsX6_lease := by decide +kernel
theorem kX6_lease_1 : (Cond.initialized "java/lang/IndexOutOfBoundsException") ∈ wsX6_lease := by decide +kernel
theorem kX6_lease_2 : ∀ w ∈ (vx_atS RX6 113 (xN 1) xUp).filter goodWord, w ∈ wsX6_lease := by decide +kernel
theorem kX6_lease_3 : (Cond.classLink RX6 93 "java/lang/IllegalArgumentException") ∈ wsX6_lease := by decide +kernel
theorem kX6_lease_4 : (Cond.initialized "java/lang/IllegalArgumentException") ∈ wsX6_lease := by decide +kernel
theorem kX6_lease_5 : ∀ w ∈ (vx_atS RX6 97 (xN 2) xUp).filter goodWord, w ∈ wsX6_lease := by decide +kernel
theorem kX6_lease_6 : ∀ w ∈ u_ws RX6 TX6 20, w ∈ wsX6_lease := by decide +kernel
theorem kX6_lease_7 : (Cond.fieldLink RX6 37 "Divisionorder" "leaseCount" "I") ∈ wsX6_lease := by decide +kernel
theorem kX6_lease_8 : ∀ w ∈ u_ws RX1 TX1 6, w ∈ wsX6_lease := by decide +kernel
theorem kX6_lease_9 : (Cond.classLink RX6 31 RX1) ∈ wsX6_lease := by decide +kernel
theorem kX6_lease_10 : (Cond.instantiable RX1 6) ∈ wsX6_lease := by decide +kernel
theorem kX6_lease_11 : (Cond.initialized RX1) ∈ wsX6_lease := by decide +kernel
theorem kX6_lease_12 : (Cond.methodLink RX6 153 yX1_init) ∈ wsX6_lease := by decide +kernel
theorem kX6_lease_13 : (Cond.instanceMethod yX1_init) ∈ wsX6_lease := by decide +kernel
theorem kX6_lease_14 : (Cond.fieldLink RX6 9 "Divisionorder" "now" "I") ∈ wsX6_lease := by decide +kernel
theorem kX6_lease_15 : (Cond.fieldLink RX6 156 "Divisionorder$Lease" "firstMonth" "I") ∈ wsX6_lease := by decide +kernel
theorem kX6_lease_16 : (Cond.fieldLink RX6 159 "Divisionorder$Lease" "lastOfTerm" "I") ∈ wsX6_lease := by decide +kernel
theorem kX6_lease_17 : (Cond.fieldLink RX6 33 "Divisionorder" "leases" "[LDivisionorder$Lease;") ∈ wsX6_lease := by decide +kernel
theorem kX6_lease_18 : (Cond.classLink RX6 100 "java/lang/IllegalStateException") ∈ wsX6_lease := by decide +kernel
theorem kX6_lease_19 : (Cond.initialized "java/lang/IllegalStateException") ∈ wsX6_lease := by decide +kernel
theorem kX6_lease_20 : ∀ w ∈ (vx_atS RX6 104 (xN 3) xUp).filter goodWord, w ∈ wsX6_lease := by decide +kernel
set_option maxHeartbeats 4000000 in
set_option maxRecDepth 100000 in
theorem cm_X6_lease (l : Launch) (hlf : l.stackTraces = false) (dC : Nat → ClassId) (dI : Nat → Nat → Nat) (dA : Nat → ClassId) (L : List Nat) (α : Nat → Nat) (σ : Mm) (a1 : Int32) (a2 : Int32) (a3 : Int32) (a4 : Int32) (a5 : Int32) (Qm : Int32 → Mm → List Nat → Prop) (Xm : Nat → Mm → List Nat → Prop) (h : wp_X6_lease L σ a1 a2 a3 a4 a5 Qm Xm) (sz : Nat) : vx_Met l yX6_lease wsX6_lease ({ frames := 6, cells := 16, slots := 2000, locals := 90 } : Room) (xP dC dI dA L α σ sz [fO α (some 0), .int a1, .int a2, .int a3, .int a4, .int a5]) (va_Qi (fun r u => Qm r u.1 u.2) (cX dC dI dA L α (wl dA (Fc ++ L) α σ) sz) (va_A (wl dA (Fc ++ L) α σ) sz)) (xXC dC dI dA L α (wl dA (Fc ++ L) α σ) sz Xm) 16 2000 (va_A (wl dA (Fc ++ L) α σ) sz) := by
  refine m_xstart (own := RX6) (lv := [(0, fO α (some 0)), (1, .int a1), (2, .int a2), (3, .int a3), (4, .int a4), (5, .int a5)]) (by decide) rfl rfl (by simp only [lgl_O, lgl_I, lgl_J, lgl_N]; decide) (by simp only [lva_O, lva_I, lva_J, lva_N]) ?_
  intro p e s m below meth c hsz hC hr hlk htab hX
  generalize hA : va_A (wl dA (Fc ++ L) α σ) sz = A at hC hX ⊢
  have hA := hA.symm
  generalize hargs : ([fO α (some 0), .int a1, .int a2, .int a3, .int a4, .int a5] : List Value).toArray = args at hC ⊢
  generalize hQ : vx_MQ below _ _ args s 16 2000 A = Q
  unfold wp_X6_lease at h
  refine r_aload_n hC dX6_lease_0 rfl 0 rfl ?_
  refine r_iload_n hC dX6_lease_1 rfl 1 rfl ?_
  refine r_callo hC [] (m_runV (n := 1) (ci := 6) hC [.int a1] [] (fun sz => cm_X6_tractAt l dC dI dA L α σ a1 _ h sz) gX6_lease_X6_tractAt rfl ⟨rfl, rfl⟩ (by decide +kernel) ⟨Nat.le_of_ble_eq_true rfl, Nat.le_of_ble_eq_true rfl⟩ fx_0 (ct_6 rfl) rfl rfl (Nat.le_of_ble_eq_true rfl) (by decide) dX6_lease_2) (fun o2 σ1 hn => ?_)
  clear h
  revert hn
  intro h
  refine r_astore (lv' := [(6, fO α o2), (0, fO α (some 0)), (1, .int a1), (2, .int a2), (3, .int a3), (4, .int a4), (5, .int a5)]) hC dX6_lease_5 (by decide) rfl ?_
  refine r_aload hC dX6_lease_7 0 rfl ?_
  obtain ⟨J5, hJ5, h⟩ := h
  have KJ5 : ∀ (σ4 : Mm), J5 σ4 → G p l e ({ frames := 6, cells := 16, slots := 2000, locals := 90 } : Room) s m args below meth c 0 0 Q dC dI dA (Fc ++ L) α A 8 σ4 26 [] [] := by
    clear h
    intro σ4 h
    replace h := hJ5 σ4 h
    subst hQ
    exact r_throw (ik := 109) (is := 147) (ic := 113) (en := 1) (tx := "no such tract or owner") hC hlf hX hA (by decide +kernel) kX6_lease_0 kX6_lease_1 (by decide +kernel) kX6_lease_2 xh_113_1 xgd_113_1 dX6_lease_26 dX6_lease_29 dX6_lease_30 dX6_lease_32 dX6_lease_35 htab (by decide) hlk (by decide) h
  refine r_ifnull (tgt := 26) hC dX6_lease_9 (by decide) (fun q => ?_) (fun k3 q => ?_)
  · replace h := h.1 q
    subst q
    refine r_lvs [] rfl ?_
    exact KJ5 σ1 h
  · replace h := h.2 k3 q
    subst q
    refine r_iload_n hC dX6_lease_12 rfl 3 rfl ?_
    refine r_calli hC [] (m_runS (n := 1) hC [.int a2] [] (fun sz => cm_X6_isOwner l dC dI dA L α σ1 a2 _ h sz) gX6_lease_X6_isOwner rfl ⟨rfl, rfl⟩ (by decide +kernel) ⟨Nat.le_of_ble_eq_true rfl, Nat.le_of_ble_eq_true rfl⟩ rfl (Nat.le_of_ble_eq_true rfl) (by decide) dX6_lease_13) (fun x7 σ6 hn => ?_)
    clear h
    revert hn
    intro h
    refine r_if_eq (tgt := 26) hC dX6_lease_16 (by decide) (fun q => ?_) (fun q => ?_)
    · replace h := h.1 q
      refine r_lvs [] rfl ?_
      exact KJ5 σ6 h
    · replace h := h.2 q
      refine r_iload_n hC dX6_lease_19 rfl 4 rfl ?_
      refine r_calli hC [] (m_runS (n := 1) hC [.int a3] [] (fun sz => cm_X6_isOwner l dC dI dA L α σ6 a3 _ h sz) gX6_lease_X6_isOwner rfl ⟨rfl, rfl⟩ (by decide +kernel) ⟨Nat.le_of_ble_eq_true rfl, Nat.le_of_ble_eq_true rfl⟩ rfl (Nat.le_of_ble_eq_true rfl) (by decide) dX6_lease_20) (fun x9 σ8 hn => ?_)
      clear h
      revert hn
      intro h
      refine r_if_ne (tgt := 36) hC dX6_lease_23 (by decide) (fun q => ?_) (fun q => ?_)
      · replace h := h.1 q
        refine r_iload_n hC dX6_lease_36 rfl 3 rfl ?_
        refine r_iload_n hC dX6_lease_37 rfl 4 rfl ?_
        obtain ⟨J10, hJ10, h⟩ := h
        have KJ10 : J10 → G p l e ({ frames := 6, cells := 16, slots := 2000, locals := 90 } : Room) s m args below meth c 0 0 Q dC dI dA (Fc ++ L) α A 8 σ8 67 [] [] := by
          clear h
          intro h
          replace h := hJ10 h
          subst hQ
          exact r_throw (ik := 93) (is := 149) (ic := 97) (en := 2) (tx := "the same owner, or royalty or term out of range") hC hlf hX hA (by decide +kernel) kX6_lease_3 kX6_lease_4 (by decide +kernel) kX6_lease_5 xh_97_2 xgd_97_2 dX6_lease_67 dX6_lease_70 dX6_lease_71 dX6_lease_73 dX6_lease_76 htab (by decide) hlk (by decide) h
        refine r_icmp_eq (tgt := 67) hC dX6_lease_38 (by decide) (fun q => ?_) (fun q => ?_)
        · replace h := h.1 q
          refine r_lvs [] rfl ?_
          exact KJ10 h
        · replace h := h.2 q
          refine r_iload hC dX6_lease_41 5 rfl ?_
          refine r_if_lt (tgt := 67) hC dX6_lease_43 (by decide) (fun q => ?_) (fun q => ?_)
          · replace h := h.1 q
            refine r_lvs [] rfl ?_
            exact KJ10 h
          · replace h := h.2 q
            refine r_iload hC dX6_lease_46 5 rfl ?_
            refine r_sipush (v := 500) hC dX6_lease_48 (by decide) ?_
            refine r_icmp_gt (tgt := 67) hC dX6_lease_51 (by decide) (fun q => ?_) (fun q => ?_)
            · replace h := h.1 q
              refine r_lvs [] rfl ?_
              exact KJ10 h
            · replace h := h.2 q
              refine r_iload hC dX6_lease_54 6 rfl ?_
              refine r_iconst (v := 1) hC dX6_lease_56 (by decide) ?_
              refine r_icmp_lt (tgt := 67) hC dX6_lease_57 (by decide) (fun q => ?_) (fun q => ?_)
              · replace h := h.1 q
                refine r_lvs [] rfl ?_
                exact KJ10 h
              · replace h := h.2 q
                refine r_iload hC dX6_lease_60 6 rfl ?_
                refine r_bipush (v := 36) hC dX6_lease_62 (by decide) ?_
                refine r_icmp_le (tgt := 77) hC dX6_lease_64 (by decide) (fun q => ?_) (fun q => ?_)
                · replace h := h.1 q
                  refine r_aload_n hC dX6_lease_77 rfl 1 rfl ?_
                  refine r_get (ci := 6) (f := 6) (v := .int (gI σ8 0 6)) hC kX6_lease_6 rfl (by decide) rfl kX6_lease_7 fx_0 (ct_6 rfl) rfl dX6_lease_78 ?_
                  refine r_bipush (v := 16) hC dX6_lease_81 (by decide) ?_
                  refine r_icmp_lt (tgt := 96) hC dX6_lease_83 (by decide) (fun q => ?_) (fun q => ?_)
                  · replace h := h.1 q
                    obtain ⟨v14, h⟩ := h
                    obtain ⟨k11, f13, h⟩ := h
                    refine r_new_1 hC kX6_lease_8 kX6_lease_9 kX6_lease_10 kX6_lease_11 f13.1 f13.2.1 f13.2.2 (by decide) dX6_lease_96 (fun α12 hα12 => ?_)
                    rw [fO_al hα12 (k := k3) v14.1, fO_al hα12 (k := 0) fx_0]
                    refine r_topm (fun σ15 qσ15 => ?_)
                    replace h := h σ15 qσ15
                    refine r_dup hC fO_cat dX6_lease_99 ?_
                    refine r_aload hC dX6_lease_100 0 rfl ?_
                    refine r_iload_n hC dX6_lease_102 rfl 3 rfl ?_
                    refine r_iload_n hC dX6_lease_103 rfl 4 rfl ?_
                    refine r_iload hC dX6_lease_104 5 rfl ?_
                    refine r_callv hC [fO α12 (some k11)] (m_runI (n := 4) (k := k11) hC [fO α12 (some k3), .int a2, .int a3, .int a4] [fO α12 (some k11)] (fun sz => cm_X1_init l dC dI dA (L ++ [k11]) α12 σ15 k11 (some k3) a2 a3 a4 _ h sz) gX6_lease_X1_init rfl ⟨rfl, rfl⟩ kX6_lease_11 kX6_lease_12 kX6_lease_13 rfl (by decide +kernel) ⟨Nat.le_of_ble_eq_true rfl, Nat.le_of_ble_eq_true rfl⟩ rfl (Nat.le_of_ble_eq_true rfl) (by decide) dX6_lease_106) (fun σ16 hn => ?_)
                    clear h
                    revert hn
                    intro h
                    refine r_astore (lv' := [(7, fO α12 (some k11)), (6, fO α12 (some k3)), (0, fO α12 (some 0)), (1, .int a1), (2, .int a2), (3, .int a3), (4, .int a4), (5, .int a5)]) hC dX6_lease_109 (by decide) rfl ?_
                    refine r_aload hC dX6_lease_111 0 rfl ?_
                    refine r_aload_n hC dX6_lease_113 rfl 2 rfl ?_
                    refine r_get (ci := 6) (f := 0) (v := .int (gI σ16 0 0)) hC kX6_lease_6 rfl (by decide) rfl kX6_lease_14 fx_0 (ct_6 rfl) rfl dX6_lease_114 ?_
                    refine r_put (ci := 1) (f := 4) (v := .int (gI σ16 0 0)) (σ' := sI σ16 k11 4 (gI σ16 0 0)) hC kX6_lease_8 tyX1 tyX1_ok nmX1 rfl (by decide) rfl kX6_lease_15 mem_nw (ct_1 f13.2.1) rfl rfl (Nat.le_of_ble_eq_true rfl) (pt_1_4 f13.2.1) ct_sI dX6_lease_117 ?_
                    refine r_topm (fun σ17 qσ17 => ?_)
                    replace h := h σ17 qσ17
                    refine r_aload hC dX6_lease_120 0 rfl ?_
                    refine r_aload_n hC dX6_lease_122 rfl 2 rfl ?_
                    refine r_get (ci := 6) (f := 0) (v := .int (gI σ17 0 0)) hC kX6_lease_6 rfl (by decide) rfl kX6_lease_14 fx_0 (ct_6 rfl) rfl dX6_lease_123 ?_
                    refine r_iload hC dX6_lease_126 7 rfl ?_
                    refine r_iadd hC dX6_lease_128 ?_
                    refine r_iconst (v := 1) hC dX6_lease_129 (by decide) ?_
                    refine r_isub hC dX6_lease_130 ?_
                    refine r_put (ci := 1) (f := 5) (v := .int (((gI σ17 0 0) + a5) - 1)) (σ' := sI σ17 k11 5 (((gI σ17 0 0) + a5) - 1)) hC kX6_lease_8 tyX1 tyX1_ok nmX1 rfl (by decide) rfl kX6_lease_16 mem_nw (ct_1 f13.2.1) rfl rfl (Nat.le_of_ble_eq_true rfl) (pt_1_5 f13.2.1) ct_sI dX6_lease_131 ?_
                    refine r_topm (fun σ18 qσ18 => ?_)
                    replace h := h σ18 qσ18
                    refine r_aload_n hC dX6_lease_134 rfl 2 rfl ?_
                    refine r_get (ci := 6) (f := 5) (v := fO α12 (some 3)) hC kX6_lease_6 rfl (by decide) rfl kX6_lease_17 fx_0 (ct_6 rfl) rfl dX6_lease_135 ?_
                    refine r_aload_n hC dX6_lease_138 rfl 2 rfl ?_
                    refine r_get (ci := 6) (f := 6) (v := .int (gI σ18 0 6)) hC kX6_lease_6 rfl (by decide) rfl kX6_lease_7 fx_0 (ct_6 rfl) rfl dX6_lease_139 ?_
                    refine r_aload hC dX6_lease_142 0 rfl ?_
                    obtain ⟨c19, h⟩ := h
                    refine r_aast_12 hC fx_3 rfl mem_nw f13.2.1 c19 dX6_lease_144 ?_
                    refine r_topm (fun σ20 qσ20 => ?_)
                    replace h := h σ20 qσ20
                    refine r_aload_n hC dX6_lease_145 rfl 2 rfl ?_
                    refine r_aload_n hC dX6_lease_146 rfl 2 rfl ?_
                    refine r_get (ci := 6) (f := 0) (v := .int (gI σ20 0 0)) hC kX6_lease_6 rfl (by decide) rfl kX6_lease_14 fx_0 (ct_6 rfl) rfl dX6_lease_147 ?_
                    refine r_callv hC [] (m_runV (n := 1) (ci := 6) hC [.int (gI σ20 0 0)] [] (fun sz => cm_X6_unsettle l dC dI dA (L ++ [k11]) α12 σ20 (gI σ20 0 0) _ h sz) gX6_lease_X6_unsettle rfl ⟨rfl, rfl⟩ (by decide +kernel) ⟨Nat.le_of_ble_eq_true rfl, Nat.le_of_ble_eq_true rfl⟩ fx_0 (ct_6 rfl) rfl rfl (Nat.le_of_ble_eq_true rfl) (by decide) dX6_lease_150) (fun σ21 hn => ?_)
                    clear h
                    revert hn
                    intro h
                    refine r_aload_n hC dX6_lease_153 rfl 2 rfl ?_
                    refine r_dup hC fO_cat dX6_lease_154 ?_
                    refine r_get (ci := 6) (f := 6) (v := .int (gI σ21 0 6)) hC kX6_lease_6 rfl (by decide) rfl kX6_lease_7 fx_0 (ct_6 rfl) rfl dX6_lease_155 ?_
                    refine r_dup_x1 hC rfl fO_cat dX6_lease_158 ?_
                    refine r_iconst (v := 1) hC dX6_lease_159 (by decide) ?_
                    refine r_iadd hC dX6_lease_160 ?_
                    refine r_put (ci := 6) (f := 6) (v := .int ((gI σ21 0 6) + 1)) (σ' := sI σ21 0 6 ((gI σ21 0 6) + 1)) hC kX6_lease_6 tyX6 tyX6_ok nmX6 rfl (by decide) rfl kX6_lease_7 fx_0 (ct_6 rfl) rfl rfl (Nat.le_of_ble_eq_true rfl) (pt_6_6 rfl) ct_sI dX6_lease_161 ?_
                    refine r_topm (fun σ22 qσ22 => ?_)
                    replace h := h σ22 qσ22
                    subst hQ
                    exact r_xiret hC hA hr hlk hα12 (by decide) dX6_lease_164 h
                  · replace h := h.2 q
                    subst hQ
                    exact r_throw (ik := 100) (is := 151) (ic := 104) (en := 3) (tx := "no more leases") hC hlf hX hA (by decide +kernel) kX6_lease_18 kX6_lease_19 (by decide +kernel) kX6_lease_20 xh_104_3 xgd_104_3 dX6_lease_86 dX6_lease_89 dX6_lease_90 dX6_lease_92 dX6_lease_95 htab (by decide) hlk (by decide) h
                · replace h := h.2 q
                  refine r_lvs [] rfl ?_
                  exact KJ10 h
      · replace h := h.2 q
        refine r_lvs [] rfl ?_
        exact KJ5 σ8 h
theorem kX6_unit_0 : (Cond.classLink RX6 93 "java/lang/IllegalArgumentException") ∈ wsX6_unit := by decide +kernel
theorem kX6_unit_1 : (Cond.initialized "java/lang/IllegalArgumentException") ∈ wsX6_unit := by decide +kernel
theorem kX6_unit_2 : ∀ w ∈ (vx_atS RX6 97 (xN 2) xUp).filter goodWord, w ∈ wsX6_unit := by decide +kernel
theorem kX6_unit_3 : ∀ w ∈ u_ws RX6 TX6 20, w ∈ wsX6_unit := by decide +kernel
theorem kX6_unit_4 : (Cond.fieldLink RX6 19 "Divisionorder" "tractCount" "I") ∈ wsX6_unit := by decide +kernel
theorem kX6_unit_5 : (Cond.classLink RX6 100 "java/lang/IllegalStateException") ∈ wsX6_unit := by decide +kernel
theorem kX6_unit_6 : (Cond.initialized "java/lang/IllegalStateException") ∈ wsX6_unit := by decide +kernel
theorem kX6_unit_7 : ∀ w ∈ (vx_atS RX6 104 (xN 3) xUp).filter goodWord, w ∈ wsX6_unit := by decide +kernel
theorem kX6_unit_8 : (Cond.fieldLink RX6 46 "Divisionorder" "unitCount" "I") ∈ wsX6_unit := by decide +kernel
theorem kX6_unit_9 : (Cond.fieldLink RX6 42 "Divisionorder" "units" "[LDivisionorder$Unit;") ∈ wsX6_unit := by decide +kernel
theorem kX6_unit_10 : (Cond.fieldLink RX6 9 "Divisionorder" "now" "I") ∈ wsX6_unit := by decide +kernel
theorem kX6_unit_11 : (Cond.fieldLink RX6 15 "Divisionorder" "tracts" "[LDivisionorder$Tract;") ∈ wsX6_unit := by decide +kernel
theorem kX6_unit_12 : ∀ w ∈ u_ws RX3 TX3 3, w ∈ wsX6_unit := by decide +kernel
theorem kX6_unit_13 : (Cond.fieldLink RX6 179 "Divisionorder$Tract" "unit" "LDivisionorder$Unit;") ∈ wsX6_unit := by decide +kernel
set_option maxHeartbeats 4000000 in
set_option maxRecDepth 100000 in
theorem cm_X6_unit (l : Launch) (hlf : l.stackTraces = false) (dC : Nat → ClassId) (dI : Nat → Nat → Nat) (dA : Nat → ClassId) (L : List Nat) (α : Nat → Nat) (σ : Mm) (a1 : Int32) (Qm : Int32 → Mm → List Nat → Prop) (Xm : Nat → Mm → List Nat → Prop) (h : wp_X6_unit L σ a1 Qm Xm) (sz : Nat) : vx_Met l yX6_unit wsX6_unit ({ frames := 6, cells := 16, slots := 2000, locals := 90 } : Room) (xP dC dI dA L α σ sz [fO α (some 0), .int a1]) (va_Qi (fun r u => Qm r u.1 u.2) (cX dC dI dA L α (wl dA (Fc ++ L) α σ) sz) (va_A (wl dA (Fc ++ L) α σ) sz)) (xXC dC dI dA L α (wl dA (Fc ++ L) α σ) sz Xm) 16 2000 (va_A (wl dA (Fc ++ L) α σ) sz) := by
  refine m_xstart (own := RX6) (lv := [(0, fO α (some 0)), (1, .int a1)]) (by decide) rfl rfl (by simp only [lgl_O, lgl_I, lgl_J, lgl_N]; decide) (by simp only [lva_O, lva_I, lva_J, lva_N]) ?_
  intro p e s m below meth c hsz hC hr hlk htab hX
  generalize hA : va_A (wl dA (Fc ++ L) α σ) sz = A at hC hX ⊢
  have hA := hA.symm
  generalize hargs : ([fO α (some 0), .int a1] : List Value).toArray = args at hC ⊢
  generalize hQ : vx_MQ below _ _ args s 16 2000 A = Q
  unfold wp_X6_unit at h
  refine r_iload_n hC dX6_unit_0 rfl 1 rfl ?_
  obtain ⟨J1, hJ1, h⟩ := h
  have KJ1 : J1 → G p l e ({ frames := 6, cells := 16, slots := 2000, locals := 90 } : Room) s m args below meth c 0 0 Q dC dI dA (Fc ++ L) α A 5 σ 13 [] [] := by
    clear h
    intro h
    replace h := hJ1 h
    subst hQ
    exact r_throw (ik := 93) (is := 167) (ic := 97) (en := 2) (tx := "none, or one that is no tract") hC hlf hX hA (by decide +kernel) kX6_unit_0 kX6_unit_1 (by decide +kernel) kX6_unit_2 xh_97_2 xgd_97_2 dX6_unit_13 dX6_unit_16 dX6_unit_17 dX6_unit_19 dX6_unit_22 htab (by decide) hlk (by decide) h
  refine r_if_eq (tgt := 13) hC dX6_unit_1 (by decide) (fun q => ?_) (fun q => ?_)
  · replace h := h.1 q
    refine r_lvs [] rfl ?_
    exact KJ1 h
  · replace h := h.2 q
    refine r_iload_n hC dX6_unit_4 rfl 1 rfl ?_
    refine r_aload_n hC dX6_unit_5 rfl 0 rfl ?_
    refine r_get (ci := 6) (f := 2) (v := .int (gI σ 0 2)) hC kX6_unit_3 rfl (by decide) rfl kX6_unit_4 fx_0 (ct_6 rfl) rfl dX6_unit_6 ?_
    refine r_iushr hC dX6_unit_9 ?_
    refine r_if_eq (tgt := 23) hC dX6_unit_10 (by decide) (fun q => ?_) (fun q => ?_)
    · replace h := h.1 q
      refine r_aload_n hC dX6_unit_23 rfl 0 rfl ?_
      refine r_iload_n hC dX6_unit_24 rfl 1 rfl ?_
      refine r_calli hC [] (m_runV (n := 1) (ci := 6) hC [.int a1] [] (fun sz => cm_X6_hasTractOfUnit l dC dI dA L α σ a1 _ h sz) gX6_unit_X6_hasTractOfUnit rfl ⟨rfl, rfl⟩ (by decide +kernel) ⟨Nat.le_of_ble_eq_true rfl, Nat.le_of_ble_eq_true rfl⟩ fx_0 (ct_6 rfl) rfl rfl (Nat.le_of_ble_eq_true rfl) (by decide) dX6_unit_25) (fun x3 σ2 hn => ?_)
      clear h
      revert hn
      intro h
      obtain ⟨J4, hJ4, h⟩ := h
      have KJ4 : J4 → G p l e ({ frames := 6, cells := 16, slots := 2000, locals := 90 } : Room) s m args below meth c 0 0 Q dC dI dA (Fc ++ L) α A 5 σ2 39 [] [] := by
        clear h
        intro h
        replace h := hJ4 h
        subst hQ
        exact r_throw (ik := 100) (is := 172) (ic := 104) (en := 3) (tx := "one is of a unit, or no more units") hC hlf hX hA (by decide +kernel) kX6_unit_5 kX6_unit_6 (by decide +kernel) kX6_unit_7 xh_104_3 xgd_104_3 dX6_unit_39 dX6_unit_42 dX6_unit_43 dX6_unit_45 dX6_unit_48 htab (by decide) hlk (by decide) h
      refine r_if_ne (tgt := 39) hC dX6_unit_28 (by decide) (fun q => ?_) (fun q => ?_)
      · replace h := h.1 q
        refine r_lvs [] rfl ?_
        exact KJ4 h
      · replace h := h.2 q
        refine r_aload_n hC dX6_unit_31 rfl 0 rfl ?_
        refine r_get (ci := 6) (f := 8) (v := .int (gI σ2 0 8)) hC kX6_unit_3 rfl (by decide) rfl kX6_unit_8 fx_0 (ct_6 rfl) rfl dX6_unit_32 ?_
        refine r_iconst (v := 3) hC dX6_unit_35 (by decide) ?_
        refine r_icmp_lt (tgt := 49) hC dX6_unit_36 (by decide) (fun q => ?_) (fun q => ?_)
        · replace h := h.1 q
          obtain ⟨k5, f7, h⟩ := h
          refine r_new_X6_unit (k := k5) (j := 0) hC rfl (by decide) f7 (fun α6 hα6 => ?_)
          rw [fO_al hα6 (k := 0) fx_0]
          refine r_topm (fun σ8 qσ8 => ?_)
          replace h := h σ8 qσ8
          refine r_astore_n (lv' := [(2, fO α6 (some k5)), (0, fO α6 (some 0)), (1, .int a1)]) hC dX6_unit_60 rfl (by decide) rfl ?_
          refine r_iconst (v := 0) hC dX6_unit_61 (by decide) ?_
          refine r_istore_n (lv' := [(3, .int 0), (2, fO α6 (some k5)), (0, fO α6 (some 0)), (1, .int a1)]) hC dX6_unit_62 rfl (by decide) rfl ?_
          refine r_lvs [2, 3, 1, 0] rfl ?_
          obtain ⟨n, h⟩ := h
          refine lpw_ind (S := Mm × Int32) (fun s12 => G p l e ({ frames := 6, cells := 16, slots := 2000, locals := 90 } : Room) s m args below meth c (0 + 7) (0 + 1471) Q dC dI dA (Fc ++ (L ++ [k5, k5 + 1, k5 + 2, k5 + 3, k5 + 4, k5 + 5, k5 + 6])) α6 A 5 s12.1 63 [(0, fO α6 (some 0)), (1, .int a1), (2, fO α6 (some k5)), (3, .int s12.2)] []) ?_ n (σ8, 0) h
          clear h
          intro R11 hR11 s12 h
          obtain ⟨σ9, x10⟩ := s12
          refine r_iload_n hC dX6_unit_63 rfl 3 rfl ?_
          refine r_bipush (v := 8) hC dX6_unit_64 (by decide) ?_
          refine r_icmp_ge (tgt := 102) hC dX6_unit_66 (by decide) (fun q => ?_) (fun q => ?_)
          · replace h := h.1 q
            refine r_aload_n hC dX6_unit_102 rfl 0 rfl ?_
            refine r_get (ci := 6) (f := 7) (v := fO α6 (some 4)) hC kX6_unit_3 rfl (by decide) rfl kX6_unit_9 fx_0 (ct_6 rfl) rfl dX6_unit_103 ?_
            refine r_aload_n hC dX6_unit_106 rfl 0 rfl ?_
            refine r_get (ci := 6) (f := 8) (v := .int (gI σ9 0 8)) hC kX6_unit_3 rfl (by decide) rfl kX6_unit_8 fx_0 (ct_6 rfl) rfl dX6_unit_107 ?_
            refine r_aload_n hC dX6_unit_110 rfl 2 rfl ?_
            obtain ⟨c13, h⟩ := h
            refine r_aast_14 hC fx_4 rfl mem_nw2 f7.1 c13 dX6_unit_111 ?_
            refine r_topm (fun σ14 qσ14 => ?_)
            replace h := h σ14 qσ14
            refine r_aload_n hC dX6_unit_112 rfl 0 rfl ?_
            refine r_aload_n hC dX6_unit_113 rfl 0 rfl ?_
            refine r_get (ci := 6) (f := 0) (v := .int (gI σ14 0 0)) hC kX6_unit_3 rfl (by decide) rfl kX6_unit_10 fx_0 (ct_6 rfl) rfl dX6_unit_114 ?_
            refine r_callv hC [] (m_runV (n := 1) (ci := 6) hC [.int (gI σ14 0 0)] [] (fun sz => cm_X6_unsettle l dC dI dA (L ++ [k5, k5 + 1, k5 + 2, k5 + 3, k5 + 4, k5 + 5, k5 + 6]) α6 σ14 (gI σ14 0 0) _ h sz) gX6_unit_X6_unsettle rfl ⟨rfl, rfl⟩ (by decide +kernel) ⟨Nat.le_of_ble_eq_true rfl, Nat.le_of_ble_eq_true rfl⟩ fx_0 (ct_6 rfl) rfl rfl (Nat.le_of_ble_eq_true rfl) (by decide) dX6_unit_117) (fun σ15 hn => ?_)
            clear h
            revert hn
            intro h
            refine r_aload_n hC dX6_unit_120 rfl 0 rfl ?_
            refine r_dup hC fO_cat dX6_unit_121 ?_
            refine r_get (ci := 6) (f := 8) (v := .int (gI σ15 0 8)) hC kX6_unit_3 rfl (by decide) rfl kX6_unit_8 fx_0 (ct_6 rfl) rfl dX6_unit_122 ?_
            refine r_dup_x1 hC rfl fO_cat dX6_unit_125 ?_
            refine r_iconst (v := 1) hC dX6_unit_126 (by decide) ?_
            refine r_iadd hC dX6_unit_127 ?_
            refine r_put (ci := 6) (f := 8) (v := .int ((gI σ15 0 8) + 1)) (σ' := sI σ15 0 8 ((gI σ15 0 8) + 1)) hC kX6_unit_3 tyX6 tyX6_ok nmX6 rfl (by decide) rfl kX6_unit_8 fx_0 (ct_6 rfl) rfl rfl (Nat.le_of_ble_eq_true rfl) (pt_6_8 rfl) ct_sI dX6_unit_128 ?_
            refine r_topm (fun σ16 qσ16 => ?_)
            replace h := h σ16 qσ16
            subst hQ
            exact r_xiret hC hA hr hlk hα6 (by decide) dX6_unit_131 h
          · replace h := h.2 q
            refine r_aload_n hC dX6_unit_69 rfl 0 rfl ?_
            refine r_get (ci := 6) (f := 1) (v := fO α6 (some 1)) hC kX6_unit_3 rfl (by decide) rfl kX6_unit_11 fx_0 (ct_6 rfl) rfl dX6_unit_70 ?_
            refine r_iload_n hC dX6_unit_73 rfl 3 rfl ?_
            obtain ⟨c17, h⟩ := h
            refine r_aald_13 hC fx_1 rfl c17 dX6_unit_74 ?_
            refine r_topo (fun o18 qo18 => ?_)
            replace h := h o18 qo18
            refine r_astore (lv' := [(4, fO α6 o18), (0, fO α6 (some 0)), (1, .int a1), (2, fO α6 (some k5)), (3, .int x10)]) hC dX6_unit_75 (by decide) rfl ?_
            refine r_aload hC dX6_unit_77 0 rfl ?_
            obtain ⟨J21, hJ21, h⟩ := h
            have KJ21 : ∀ (σ20 : Mm), J21 σ20 → G p l e ({ frames := 6, cells := 16, slots := 2000, locals := 90 } : Room) s m args below meth c (0 + 7) (0 + 1471) Q dC dI dA (Fc ++ (L ++ [k5, k5 + 1, k5 + 2, k5 + 3, k5 + 4, k5 + 5, k5 + 6])) α6 A 5 σ20 96 [(0, fO α6 (some 0)), (1, .int a1), (2, fO α6 (some k5)), (3, .int x10)] [] := by
              clear h
              intro σ20 h
              replace h := hJ21 σ20 h
              obtain ⟨x22, qx22⟩ : ∃ z : Int32, z = x10 + 1 := ⟨_, rfl⟩
              replace h := h x22 qx22
              refine r_iinc (v := x22) (lv' := [(3, .int x22), (0, fO α6 (some 0)), (1, .int a1), (2, fO α6 (some k5))]) hC dX6_unit_96 (k := 3) rfl (by rw [qx22]; rfl) (by decide) rfl ?_
              refine r_goto (tgt := 63) hC dX6_unit_99 (by decide) ?_
              refine r_lvs [1, 2, 3, 0] rfl ?_
              exact hR11 _ h
            refine r_ifnull (tgt := 96) hC dX6_unit_79 (by decide) (fun q => ?_) (fun k19 q => ?_)
            · replace h := h.1 q
              subst q
              refine r_lvs [1, 2, 3, 4] rfl ?_
              exact KJ21 σ9 h
            · replace h := h.2 k19 q
              subst q
              refine r_iload_n hC dX6_unit_82 rfl 2 rfl ?_
              refine r_iload_n hC dX6_unit_83 rfl 4 rfl ?_
              refine r_calli hC [] (m_runS (n := 2) hC [.int a1, .int x10] [] (fun sz => cm_X6_hasBit l dC dI dA (L ++ [k5, k5 + 1, k5 + 2, k5 + 3, k5 + 4, k5 + 5, k5 + 6]) α6 σ9 a1 x10 _ h sz) gX6_unit_X6_hasBit rfl ⟨rfl, rfl⟩ (by decide +kernel) ⟨Nat.le_of_ble_eq_true rfl, Nat.le_of_ble_eq_true rfl⟩ rfl (Nat.le_of_ble_eq_true rfl) (by decide) dX6_unit_84) (fun x24 σ23 hn => ?_)
              clear h
              revert hn
              intro h
              refine r_if_eq (tgt := 96) hC dX6_unit_87 (by decide) (fun q => ?_) (fun q => ?_)
              · replace h := h.1 q
                refine r_lvs [1, 2, 3, 4] rfl ?_
                exact KJ21 σ23 h
              · replace h := h.2 q
                refine r_aload hC dX6_unit_90 0 rfl ?_
                refine r_aload_n hC dX6_unit_92 rfl 3 rfl ?_
                obtain ⟨v25, h⟩ := h
                refine r_put (ci := 3) (f := 2) (v := fO α6 (some k5)) (σ' := sR σ23 k19 2 (some k5)) hC kX6_unit_12 tyX3 tyX3_ok nmX3 rfl (by decide) rfl kX6_unit_13 v25.1 (ct_3 v25.2) (fO_nar "Divisionorder$Unit") (fO_fit "Divisionorder$Unit") (Nat.le_of_ble_eq_true rfl) (pt_3_2 v25.2) ct_sR dX6_unit_93 ?_
                refine r_topm (fun σ26 qσ26 => ?_)
                replace h := h σ26 qσ26
                refine r_lvs [1, 2, 3, 4] rfl ?_
                exact KJ21 σ26 h
        · replace h := h.2 q
          refine r_lvs [] rfl ?_
          exact KJ4 h
    · replace h := h.2 q
      refine r_lvs [] rfl ?_
      exact KJ1 h
theorem kX6_well_0 : (Cond.classLink RX6 109 "java/lang/IndexOutOfBoundsException") ∈ wsX6_well := by decide +kernel
theorem kX6_well_1 : (Cond.initialized "java/lang/IndexOutOfBoundsException") ∈ wsX6_well := by decide +kernel
theorem kX6_well_2 : ∀ w ∈ (vx_atS RX6 113 (xN 1) xUp).filter goodWord, w ∈ wsX6_well := by decide +kernel
theorem kX6_well_3 : ∀ w ∈ u_ws RX6 TX6 20, w ∈ wsX6_well := by decide +kernel
theorem kX6_well_4 : (Cond.fieldLink RX6 55 "Divisionorder" "wellCount" "I") ∈ wsX6_well := by decide +kernel
theorem kX6_well_5 : (Cond.fieldLink RX6 51 "Divisionorder" "wells" "[LDivisionorder$Well;") ∈ wsX6_well := by decide +kernel
theorem kX6_well_6 : (Cond.classLink RX6 100 "java/lang/IllegalStateException") ∈ wsX6_well := by decide +kernel
theorem kX6_well_7 : (Cond.initialized "java/lang/IllegalStateException") ∈ wsX6_well := by decide +kernel
theorem kX6_well_8 : ∀ w ∈ (vx_atS RX6 104 (xN 3) xUp).filter goodWord, w ∈ wsX6_well := by decide +kernel
set_option maxHeartbeats 4000000 in
set_option maxRecDepth 100000 in
theorem cm_X6_well (l : Launch) (hlf : l.stackTraces = false) (dC : Nat → ClassId) (dI : Nat → Nat → Nat) (dA : Nat → ClassId) (L : List Nat) (α : Nat → Nat) (σ : Mm) (a1 : Int32) (Qm : Int32 → Mm → List Nat → Prop) (Xm : Nat → Mm → List Nat → Prop) (h : wp_X6_well L σ a1 Qm Xm) (sz : Nat) : vx_Met l yX6_well wsX6_well ({ frames := 6, cells := 16, slots := 2000, locals := 90 } : Room) (xP dC dI dA L α σ sz [fO α (some 0), .int a1]) (va_Qi (fun r u => Qm r u.1 u.2) (cX dC dI dA L α (wl dA (Fc ++ L) α σ) sz) (va_A (wl dA (Fc ++ L) α σ) sz)) (xXC dC dI dA L α (wl dA (Fc ++ L) α σ) sz Xm) 16 2000 (va_A (wl dA (Fc ++ L) α σ) sz) := by
  refine m_xstart (own := RX6) (lv := [(0, fO α (some 0)), (1, .int a1)]) (by decide) rfl rfl (by simp only [lgl_O, lgl_I, lgl_J, lgl_N]; decide) (by simp only [lva_O, lva_I, lva_J, lva_N]) ?_
  intro p e s m below meth c hsz hC hr hlk htab hX
  generalize hA : va_A (wl dA (Fc ++ L) α σ) sz = A at hC hX ⊢
  have hA := hA.symm
  generalize hargs : ([fO α (some 0), .int a1] : List Value).toArray = args at hC ⊢
  generalize hQ : vx_MQ below _ _ args s 16 2000 A = Q
  unfold wp_X6_well at h
  refine r_aload_n hC dX6_well_0 rfl 0 rfl ?_
  refine r_iload_n hC dX6_well_1 rfl 1 rfl ?_
  refine r_callo hC [] (m_runV (n := 1) (ci := 6) hC [.int a1] [] (fun sz => cm_X6_unitAt l dC dI dA L α σ a1 _ h sz) gX6_well_X6_unitAt rfl ⟨rfl, rfl⟩ (by decide +kernel) ⟨Nat.le_of_ble_eq_true rfl, Nat.le_of_ble_eq_true rfl⟩ fx_0 (ct_6 rfl) rfl rfl (Nat.le_of_ble_eq_true rfl) (by decide) dX6_well_2) (fun o2 σ1 hn => ?_)
  clear h
  revert hn
  intro h
  refine r_astore_n (lv' := [(2, fO α o2), (0, fO α (some 0)), (1, .int a1)]) hC dX6_well_5 rfl (by decide) rfl ?_
  refine r_aload_n hC dX6_well_6 rfl 0 rfl ?_
  refine r_ifnonnull (tgt := 20) hC dX6_well_7 (by decide) (fun k3 q => ?_) (fun q => ?_)
  · replace h := h.2 k3 q
    subst q
    refine r_aload_n hC dX6_well_20 rfl 1 rfl ?_
    refine r_get (ci := 6) (f := 10) (v := .int (gI σ1 0 10)) hC kX6_well_3 rfl (by decide) rfl kX6_well_4 fx_0 (ct_6 rfl) rfl dX6_well_21 ?_
    refine r_bipush (v := 6) hC dX6_well_24 (by decide) ?_
    refine r_icmp_lt (tgt := 39) hC dX6_well_26 (by decide) (fun q => ?_) (fun q => ?_)
    · replace h := h.1 q
      refine r_aload_n hC dX6_well_39 rfl 1 rfl ?_
      refine r_get (ci := 6) (f := 9) (v := fO α (some 5)) hC kX6_well_3 rfl (by decide) rfl kX6_well_5 fx_0 (ct_6 rfl) rfl dX6_well_40 ?_
      refine r_aload_n hC dX6_well_43 rfl 1 rfl ?_
      refine r_get (ci := 6) (f := 10) (v := .int (gI σ1 0 10)) hC kX6_well_3 rfl (by decide) rfl kX6_well_4 fx_0 (ct_6 rfl) rfl dX6_well_44 ?_
      obtain ⟨v7, h⟩ := h
      obtain ⟨k4, f6, h⟩ := h
      refine r_new_X6_well (k := k4) (j := 0) hC v7.1 v7.2 rfl (by decide) f6 (fun α5 hα5 => ?_)
      rw [fO_al hα5 (k := k3) v7.1, fO_al hα5 (k := 0) fx_0]
      refine r_topm (fun σ8 qσ8 => ?_)
      replace h := h σ8 qσ8
      obtain ⟨c9, h⟩ := h
      refine r_aast_15 hC fx_5 rfl mem_nw2 f6.1 c9 dX6_well_55 ?_
      refine r_topm (fun σ10 qσ10 => ?_)
      replace h := h σ10 qσ10
      refine r_aload_n hC dX6_well_56 rfl 1 rfl ?_
      refine r_dup hC fO_cat dX6_well_57 ?_
      refine r_get (ci := 6) (f := 10) (v := .int (gI σ10 0 10)) hC kX6_well_3 rfl (by decide) rfl kX6_well_4 fx_0 (ct_6 rfl) rfl dX6_well_58 ?_
      refine r_dup_x1 hC rfl fO_cat dX6_well_61 ?_
      refine r_iconst (v := 1) hC dX6_well_62 (by decide) ?_
      refine r_iadd hC dX6_well_63 ?_
      refine r_put (ci := 6) (f := 10) (v := .int ((gI σ10 0 10) + 1)) (σ' := sI σ10 0 10 ((gI σ10 0 10) + 1)) hC kX6_well_3 tyX6 tyX6_ok nmX6 rfl (by decide) rfl kX6_well_4 fx_0 (ct_6 rfl) rfl rfl (Nat.le_of_ble_eq_true rfl) (pt_6_10 rfl) ct_sI dX6_well_64 ?_
      refine r_topm (fun σ11 qσ11 => ?_)
      replace h := h σ11 qσ11
      subst hQ
      exact r_xiret hC hA hr hlk hα5 (by decide) dX6_well_67 h
    · replace h := h.2 q
      subst hQ
      exact r_throw (ik := 100) (is := 189) (ic := 104) (en := 3) (tx := "no more wells") hC hlf hX hA (by decide +kernel) kX6_well_6 kX6_well_7 (by decide +kernel) kX6_well_8 xh_104_3 xgd_104_3 dX6_well_29 dX6_well_32 dX6_well_33 dX6_well_35 dX6_well_38 htab (by decide) hlk (by decide) h
  · replace h := h.1 q
    subst q
    subst hQ
    exact r_throw (ik := 109) (is := 187) (ic := 113) (en := 1) (tx := "no such unit") hC hlf hX hA (by decide +kernel) kX6_well_0 kX6_well_1 (by decide +kernel) kX6_well_2 xh_113_1 xgd_113_1 dX6_well_10 dX6_well_13 dX6_well_14 dX6_well_16 dX6_well_19 htab (by decide) hlk (by decide) h
theorem kX6_oil_0 : (Cond.classLink RX6 109 "java/lang/IndexOutOfBoundsException") ∈ wsX6_oil := by decide +kernel
theorem kX6_oil_1 : (Cond.initialized "java/lang/IndexOutOfBoundsException") ∈ wsX6_oil := by decide +kernel
theorem kX6_oil_2 : ∀ w ∈ (vx_atS RX6 113 (xN 1) xUp).filter goodWord, w ∈ wsX6_oil := by decide +kernel
theorem kX6_oil_3 : (Cond.classLink RX6 93 "java/lang/IllegalArgumentException") ∈ wsX6_oil := by decide +kernel
theorem kX6_oil_4 : (Cond.initialized "java/lang/IllegalArgumentException") ∈ wsX6_oil := by decide +kernel
theorem kX6_oil_5 : ∀ w ∈ (vx_atS RX6 97 (xN 2) xUp).filter goodWord, w ∈ wsX6_oil := by decide +kernel
theorem kX6_oil_6 : ∀ w ∈ u_ws RX5 TX5 4, w ∈ wsX6_oil := by decide +kernel
theorem kX6_oil_7 : (Cond.fieldLink RX6 202 "Divisionorder$Well" "unit" "LDivisionorder$Unit;") ∈ wsX6_oil := by decide +kernel
theorem kX6_oil_8 : ∀ w ∈ u_ws RX4 TX4 7, w ∈ wsX6_oil := by decide +kernel
theorem kX6_oil_9 : (Cond.fieldLink RX6 203 "Divisionorder$Unit" "firstMonth" "I") ∈ wsX6_oil := by decide +kernel
theorem kX6_oil_10 : (Cond.fieldLink RX6 206 "Divisionorder$Well" "barrels" "[I") ∈ wsX6_oil := by decide +kernel
theorem kX6_oil_11 : (Cond.classLink RX6 100 "java/lang/IllegalStateException") ∈ wsX6_oil := by decide +kernel
theorem kX6_oil_12 : (Cond.initialized "java/lang/IllegalStateException") ∈ wsX6_oil := by decide +kernel
theorem kX6_oil_13 : ∀ w ∈ (vx_atS RX6 104 (xN 3) xUp).filter goodWord, w ∈ wsX6_oil := by decide +kernel
set_option maxHeartbeats 4000000 in
set_option maxRecDepth 100000 in
theorem cm_X6_oil (l : Launch) (hlf : l.stackTraces = false) (dC : Nat → ClassId) (dI : Nat → Nat → Nat) (dA : Nat → ClassId) (L : List Nat) (α : Nat → Nat) (σ : Mm) (a1 : Int32) (a2 : Int32) (a3 : Int32) (a4 : Int32) (Qm : Int32 → Mm → List Nat → Prop) (Xm : Nat → Mm → List Nat → Prop) (h : wp_X6_oil L σ a1 a2 a3 a4 Qm Xm) (sz : Nat) : vx_Met l yX6_oil wsX6_oil ({ frames := 6, cells := 16, slots := 2000, locals := 90 } : Room) (xP dC dI dA L α σ sz [fO α (some 0), .int a1, .int a2, .int a3, .int a4]) (va_Qi (fun r u => Qm r u.1 u.2) (cX dC dI dA L α (wl dA (Fc ++ L) α σ) sz) (va_A (wl dA (Fc ++ L) α σ) sz)) (xXC dC dI dA L α (wl dA (Fc ++ L) α σ) sz Xm) 16 2000 (va_A (wl dA (Fc ++ L) α σ) sz) := by
  refine m_xstart (own := RX6) (lv := [(0, fO α (some 0)), (1, .int a1), (2, .int a2), (3, .int a3), (4, .int a4)]) (by decide) rfl rfl (by simp only [lgl_O, lgl_I, lgl_J, lgl_N]; decide) (by simp only [lva_O, lva_I, lva_J, lva_N]) ?_
  intro p e s m below meth c hsz hC hr hlk htab hX
  generalize hA : va_A (wl dA (Fc ++ L) α σ) sz = A at hC hX ⊢
  have hA := hA.symm
  generalize hargs : ([fO α (some 0), .int a1, .int a2, .int a3, .int a4] : List Value).toArray = args at hC ⊢
  generalize hQ : vx_MQ below _ _ args s 16 2000 A = Q
  unfold wp_X6_oil at h
  refine r_aload_n hC dX6_oil_0 rfl 0 rfl ?_
  refine r_iload_n hC dX6_oil_1 rfl 1 rfl ?_
  refine r_callo hC [] (m_runV (n := 1) (ci := 6) hC [.int a1] [] (fun sz => cm_X6_wellAt l dC dI dA L α σ a1 _ h sz) gX6_oil_X6_wellAt rfl ⟨rfl, rfl⟩ (by decide +kernel) ⟨Nat.le_of_ble_eq_true rfl, Nat.le_of_ble_eq_true rfl⟩ fx_0 (ct_6 rfl) rfl rfl (Nat.le_of_ble_eq_true rfl) (by decide) dX6_oil_2) (fun o2 σ1 hn => ?_)
  clear h
  revert hn
  intro h
  refine r_astore (lv' := [(5, fO α o2), (0, fO α (some 0)), (1, .int a1), (2, .int a2), (3, .int a3), (4, .int a4)]) hC dX6_oil_5 (by decide) rfl ?_
  refine r_aload hC dX6_oil_7 0 rfl ?_
  obtain ⟨J5, hJ5, h⟩ := h
  have KJ5 : ∀ (σ4 : Mm), J5 σ4 → G p l e ({ frames := 6, cells := 16, slots := 2000, locals := 90 } : Room) s m args below meth c 0 0 Q dC dI dA (Fc ++ L) α A 7 σ4 20 [] [] := by
    clear h
    intro σ4 h
    replace h := hJ5 σ4 h
    subst hQ
    exact r_throw (ik := 109) (is := 198) (ic := 113) (en := 1) (tx := "no such well or month") hC hlf hX hA (by decide +kernel) kX6_oil_0 kX6_oil_1 (by decide +kernel) kX6_oil_2 xh_113_1 xgd_113_1 dX6_oil_20 dX6_oil_23 dX6_oil_24 dX6_oil_26 dX6_oil_29 htab (by decide) hlk (by decide) h
  refine r_ifnull (tgt := 20) hC dX6_oil_9 (by decide) (fun q => ?_) (fun k3 q => ?_)
  · replace h := h.1 q
    subst q
    refine r_lvs [] rfl ?_
    exact KJ5 σ1 h
  · replace h := h.2 k3 q
    subst q
    refine r_aload_n hC dX6_oil_12 rfl 1 rfl ?_
    refine r_iload_n hC dX6_oil_13 rfl 3 rfl ?_
    refine r_calli hC [] (m_runV (n := 1) (ci := 6) hC [.int a2] [] (fun sz => cm_X6_isMonth l dC dI dA L α σ1 a2 _ h sz) gX6_oil_X6_isMonth rfl ⟨rfl, rfl⟩ (by decide +kernel) ⟨Nat.le_of_ble_eq_true rfl, Nat.le_of_ble_eq_true rfl⟩ fx_0 (ct_6 rfl) rfl rfl (Nat.le_of_ble_eq_true rfl) (by decide) dX6_oil_14) (fun x7 σ6 hn => ?_)
    clear h
    revert hn
    intro h
    refine r_if_ne (tgt := 30) hC dX6_oil_17 (by decide) (fun q => ?_) (fun q => ?_)
    · replace h := h.1 q
      refine r_iload_n hC dX6_oil_30 rfl 4 rfl ?_
      obtain ⟨J8, hJ8, h⟩ := h
      have KJ8 : J8 → G p l e ({ frames := 6, cells := 16, slots := 2000, locals := 90 } : Room) s m args below meth c 0 0 Q dC dI dA (Fc ++ L) α A 7 σ6 54 [] [] := by
        clear h
        intro h
        replace h := hJ8 h
        subst hQ
        exact r_throw (ik := 93) (is := 200) (ic := 97) (en := 2) (tx := "barrels or price out of range") hC hlf hX hA (by decide +kernel) kX6_oil_3 kX6_oil_4 (by decide +kernel) kX6_oil_5 xh_97_2 xgd_97_2 dX6_oil_54 dX6_oil_57 dX6_oil_58 dX6_oil_60 dX6_oil_63 htab (by decide) hlk (by decide) h
      refine r_if_lt (tgt := 54) hC dX6_oil_31 (by decide) (fun q => ?_) (fun q => ?_)
      · replace h := h.1 q
        refine r_lvs [] rfl ?_
        exact KJ8 h
      · replace h := h.2 q
        refine r_iload_n hC dX6_oil_34 rfl 4 rfl ?_
        refine r_sipush (v := 1000) hC dX6_oil_35 (by decide) ?_
        refine r_icmp_gt (tgt := 54) hC dX6_oil_38 (by decide) (fun q => ?_) (fun q => ?_)
        · replace h := h.1 q
          refine r_lvs [] rfl ?_
          exact KJ8 h
        · replace h := h.2 q
          refine r_iload hC dX6_oil_41 5 rfl ?_
          refine r_if_lt (tgt := 54) hC dX6_oil_43 (by decide) (fun q => ?_) (fun q => ?_)
          · replace h := h.1 q
            refine r_lvs [] rfl ?_
            exact KJ8 h
          · replace h := h.2 q
            refine r_iload hC dX6_oil_46 5 rfl ?_
            refine r_sipush (v := 10000) hC dX6_oil_48 (by decide) ?_
            refine r_icmp_le (tgt := 64) hC dX6_oil_51 (by decide) (fun q => ?_) (fun q => ?_)
            · replace h := h.1 q
              refine r_iload_n hC dX6_oil_64 rfl 3 rfl ?_
              refine r_aload hC dX6_oil_65 0 rfl ?_
              obtain ⟨v9, h⟩ := h
              refine r_get (ci := 5) (f := 0) (v := fO α (gR σ6 k3 0)) hC kX6_oil_6 rfl (by decide) rfl kX6_oil_7 v9.1 (ct_5 v9.2) rfl dX6_oil_67 ?_
              refine r_topo (fun o10 qo10 => ?_)
              replace h := h o10 qo10
              obtain ⟨k11, e12, h⟩ := h
              subst e12
              obtain ⟨v13, h⟩ := h
              refine r_get (ci := 4) (f := 0) (v := .int (gI σ6 k11 0)) hC kX6_oil_8 rfl (by decide) rfl kX6_oil_9 v13.1 (ct_4 v13.2) rfl dX6_oil_70 ?_
              refine r_icmp_ge (tgt := 86) hC dX6_oil_73 (by decide) (fun q => ?_) (fun q => ?_)
              · replace h := h.1 q
                refine r_aload hC dX6_oil_86 0 rfl ?_
                refine r_get (ci := 5) (f := 1) (v := fO α (some (k3 + 1))) hC kX6_oil_6 rfl (by decide) rfl kX6_oil_10 v9.1 (ct_5 v9.2) rfl dX6_oil_88 ?_
                refine r_iload_n hC dX6_oil_91 rfl 3 rfl ?_
                obtain ⟨v14, h⟩ := h
                obtain ⟨c15, h⟩ := h
                refine r_iald hC v14.1 v14.2 c15 dX6_oil_92 ?_
                refine r_topi (fun x16 qx16 => ?_)
                replace h := h x16 qx16
                refine r_istore (lv' := [(6, .int x16), (5, fO α (some k3)), (0, fO α (some 0)), (1, .int a1), (2, .int a2), (3, .int a3), (4, .int a4)]) hC dX6_oil_93 (by decide) rfl ?_
                refine r_aload hC dX6_oil_95 1 rfl ?_
                refine r_iload_n hC dX6_oil_97 rfl 4 rfl ?_
                refine r_iload_n hC dX6_oil_98 rfl 5 rfl ?_
                refine r_iload hC dX6_oil_99 6 rfl ?_
                refine r_callv hC [] (m_runV (n := 3) (ci := 5) hC [.int a2, .int a3, .int a4] [] (fun sz => cm_X5_tellOil l dC dI dA L α σ6 k3 a2 a3 a4 _ h sz) gX6_oil_X5_tellOil rfl ⟨rfl, rfl⟩ (by decide +kernel) ⟨Nat.le_of_ble_eq_true rfl, Nat.le_of_ble_eq_true rfl⟩ v9.1 (ct_5 v9.2) rfl rfl (Nat.le_of_ble_eq_true rfl) (by decide) dX6_oil_101) (fun σ17 hn => ?_)
                clear h
                revert hn
                intro h
                refine r_aload_n hC dX6_oil_104 rfl 2 rfl ?_
                refine r_iload_n hC dX6_oil_105 rfl 4 rfl ?_
                refine r_callv hC [] (m_runV (n := 1) (ci := 6) hC [.int a2] [] (fun sz => cm_X6_unsettle l dC dI dA L α σ17 a2 _ h sz) gX6_oil_X6_unsettle rfl ⟨rfl, rfl⟩ (by decide +kernel) ⟨Nat.le_of_ble_eq_true rfl, Nat.le_of_ble_eq_true rfl⟩ fx_0 (ct_6 rfl) rfl rfl (Nat.le_of_ble_eq_true rfl) (by decide) dX6_oil_106) (fun σ18 hn => ?_)
                clear h
                revert hn
                intro h
                refine r_iload hC dX6_oil_109 0 rfl ?_
                subst hQ
                exact r_xiret hC hA hr hlk (fun _ _ => rfl) (by decide) dX6_oil_111 h
              · replace h := h.2 q
                subst hQ
                exact r_throw (ik := 100) (is := 204) (ic := 104) (en := 3) (tx := "the unit was told behind that month") hC hlf hX hA (by decide +kernel) kX6_oil_11 kX6_oil_12 (by decide +kernel) kX6_oil_13 xh_104_3 xgd_104_3 dX6_oil_76 dX6_oil_79 dX6_oil_80 dX6_oil_82 dX6_oil_85 htab (by decide) hlk (by decide) h
            · replace h := h.2 q
              refine r_lvs [] rfl ?_
              exact KJ8 h
    · replace h := h.2 q
      refine r_lvs [] rfl ?_
      exact KJ5 σ6 h
theorem kX6_cost_0 : (Cond.classLink RX6 109 "java/lang/IndexOutOfBoundsException") ∈ wsX6_cost := by decide +kernel
theorem kX6_cost_1 : (Cond.initialized "java/lang/IndexOutOfBoundsException") ∈ wsX6_cost := by decide +kernel
theorem kX6_cost_2 : ∀ w ∈ (vx_atS RX6 113 (xN 1) xUp).filter goodWord, w ∈ wsX6_cost := by decide +kernel
theorem kX6_cost_3 : (Cond.classLink RX6 93 "java/lang/IllegalArgumentException") ∈ wsX6_cost := by decide +kernel
theorem kX6_cost_4 : (Cond.initialized "java/lang/IllegalArgumentException") ∈ wsX6_cost := by decide +kernel
theorem kX6_cost_5 : ∀ w ∈ (vx_atS RX6 97 (xN 2) xUp).filter goodWord, w ∈ wsX6_cost := by decide +kernel
theorem kX6_cost_6 : (Cond.constant RX6 213 (1000000)) ∈ wsX6_cost := by decide +kernel
theorem kX6_cost_7 : ∀ w ∈ u_ws RX5 TX5 4, w ∈ wsX6_cost := by decide +kernel
theorem kX6_cost_8 : (Cond.fieldLink RX6 202 "Divisionorder$Well" "unit" "LDivisionorder$Unit;") ∈ wsX6_cost := by decide +kernel
theorem kX6_cost_9 : ∀ w ∈ u_ws RX4 TX4 7, w ∈ wsX6_cost := by decide +kernel
theorem kX6_cost_10 : (Cond.fieldLink RX6 203 "Divisionorder$Unit" "firstMonth" "I") ∈ wsX6_cost := by decide +kernel
theorem kX6_cost_11 : (Cond.classLink RX6 100 "java/lang/IllegalStateException") ∈ wsX6_cost := by decide +kernel
theorem kX6_cost_12 : (Cond.initialized "java/lang/IllegalStateException") ∈ wsX6_cost := by decide +kernel
theorem kX6_cost_13 : ∀ w ∈ (vx_atS RX6 104 (xN 3) xUp).filter goodWord, w ∈ wsX6_cost := by decide +kernel
theorem kX6_cost_14 : (Cond.fieldLink RX6 216 "Divisionorder$Well" "costs" "[I") ∈ wsX6_cost := by decide +kernel
theorem kX6_cost_15 : (Cond.constant RX6 219 (10000000)) ∈ wsX6_cost := by decide +kernel
theorem kX6_cost_16 : (Cond.fieldLink RX6 222 "Divisionorder$Unit" "costs" "[I") ∈ wsX6_cost := by decide +kernel
set_option maxHeartbeats 4000000 in
set_option maxRecDepth 100000 in
theorem cm_X6_cost (l : Launch) (hlf : l.stackTraces = false) (dC : Nat → ClassId) (dI : Nat → Nat → Nat) (dA : Nat → ClassId) (L : List Nat) (α : Nat → Nat) (σ : Mm) (a1 : Int32) (a2 : Int32) (a3 : Int32) (Qm : Int32 → Mm → List Nat → Prop) (Xm : Nat → Mm → List Nat → Prop) (h : wp_X6_cost L σ a1 a2 a3 Qm Xm) (sz : Nat) : vx_Met l yX6_cost wsX6_cost ({ frames := 6, cells := 16, slots := 2000, locals := 90 } : Room) (xP dC dI dA L α σ sz [fO α (some 0), .int a1, .int a2, .int a3]) (va_Qi (fun r u => Qm r u.1 u.2) (cX dC dI dA L α (wl dA (Fc ++ L) α σ) sz) (va_A (wl dA (Fc ++ L) α σ) sz)) (xXC dC dI dA L α (wl dA (Fc ++ L) α σ) sz Xm) 16 2000 (va_A (wl dA (Fc ++ L) α σ) sz) := by
  refine m_xstart (own := RX6) (lv := [(0, fO α (some 0)), (1, .int a1), (2, .int a2), (3, .int a3)]) (by decide) rfl rfl (by simp only [lgl_O, lgl_I, lgl_J, lgl_N]; decide) (by simp only [lva_O, lva_I, lva_J, lva_N]) ?_
  intro p e s m below meth c hsz hC hr hlk htab hX
  generalize hA : va_A (wl dA (Fc ++ L) α σ) sz = A at hC hX ⊢
  have hA := hA.symm
  generalize hargs : ([fO α (some 0), .int a1, .int a2, .int a3] : List Value).toArray = args at hC ⊢
  generalize hQ : vx_MQ below _ _ args s 16 2000 A = Q
  unfold wp_X6_cost at h
  refine r_aload_n hC dX6_cost_0 rfl 0 rfl ?_
  refine r_iload_n hC dX6_cost_1 rfl 1 rfl ?_
  refine r_callo hC [] (m_runV (n := 1) (ci := 6) hC [.int a1] [] (fun sz => cm_X6_wellAt l dC dI dA L α σ a1 _ h sz) gX6_cost_X6_wellAt rfl ⟨rfl, rfl⟩ (by decide +kernel) ⟨Nat.le_of_ble_eq_true rfl, Nat.le_of_ble_eq_true rfl⟩ fx_0 (ct_6 rfl) rfl rfl (Nat.le_of_ble_eq_true rfl) (by decide) dX6_cost_2) (fun o2 σ1 hn => ?_)
  clear h
  revert hn
  intro h
  refine r_astore (lv' := [(4, fO α o2), (0, fO α (some 0)), (1, .int a1), (2, .int a2), (3, .int a3)]) hC dX6_cost_5 (by decide) rfl ?_
  refine r_aload hC dX6_cost_7 0 rfl ?_
  obtain ⟨J5, hJ5, h⟩ := h
  have KJ5 : ∀ (σ4 : Mm), J5 σ4 → G p l e ({ frames := 6, cells := 16, slots := 2000, locals := 90 } : Room) s m args below meth c 0 0 Q dC dI dA (Fc ++ L) α A 5 σ4 20 [] [] := by
    clear h
    intro σ4 h
    replace h := hJ5 σ4 h
    subst hQ
    exact r_throw (ik := 109) (is := 198) (ic := 113) (en := 1) (tx := "no such well or month") hC hlf hX hA (by decide +kernel) kX6_cost_0 kX6_cost_1 (by decide +kernel) kX6_cost_2 xh_113_1 xgd_113_1 dX6_cost_20 dX6_cost_23 dX6_cost_24 dX6_cost_26 dX6_cost_29 htab (by decide) hlk (by decide) h
  refine r_ifnull (tgt := 20) hC dX6_cost_9 (by decide) (fun q => ?_) (fun k3 q => ?_)
  · replace h := h.1 q
    subst q
    refine r_lvs [] rfl ?_
    exact KJ5 σ1 h
  · replace h := h.2 k3 q
    subst q
    refine r_aload_n hC dX6_cost_12 rfl 1 rfl ?_
    refine r_iload_n hC dX6_cost_13 rfl 3 rfl ?_
    refine r_calli hC [] (m_runV (n := 1) (ci := 6) hC [.int a2] [] (fun sz => cm_X6_isMonth l dC dI dA L α σ1 a2 _ h sz) gX6_cost_X6_isMonth rfl ⟨rfl, rfl⟩ (by decide +kernel) ⟨Nat.le_of_ble_eq_true rfl, Nat.le_of_ble_eq_true rfl⟩ fx_0 (ct_6 rfl) rfl rfl (Nat.le_of_ble_eq_true rfl) (by decide) dX6_cost_14) (fun x7 σ6 hn => ?_)
    clear h
    revert hn
    intro h
    refine r_if_ne (tgt := 30) hC dX6_cost_17 (by decide) (fun q => ?_) (fun q => ?_)
    · replace h := h.1 q
      refine r_iload_n hC dX6_cost_30 rfl 4 rfl ?_
      refine r_iconst (v := 1) hC dX6_cost_31 (by decide) ?_
      obtain ⟨J8, hJ8, h⟩ := h
      have KJ8 : J8 → G p l e ({ frames := 6, cells := 16, slots := 2000, locals := 90 } : Room) s m args below meth c 0 0 Q dC dI dA (Fc ++ L) α A 5 σ6 41 [] [] := by
        clear h
        intro h
        replace h := hJ8 h
        subst hQ
        exact r_throw (ik := 93) (is := 214) (ic := 97) (en := 2) (tx := "cents out of range") hC hlf hX hA (by decide +kernel) kX6_cost_3 kX6_cost_4 (by decide +kernel) kX6_cost_5 xh_97_2 xgd_97_2 dX6_cost_41 dX6_cost_44 dX6_cost_45 dX6_cost_47 dX6_cost_50 htab (by decide) hlk (by decide) h
      refine r_icmp_lt (tgt := 41) hC dX6_cost_32 (by decide) (fun q => ?_) (fun q => ?_)
      · replace h := h.1 q
        refine r_lvs [] rfl ?_
        exact KJ8 h
      · replace h := h.2 q
        refine r_iload_n hC dX6_cost_35 rfl 4 rfl ?_
        refine r_ldc (v := 1000000) hC kX6_cost_6 dX6_cost_36 ?_
        refine r_icmp_le (tgt := 51) hC dX6_cost_38 (by decide) (fun q => ?_) (fun q => ?_)
        · replace h := h.1 q
          refine r_iload_n hC dX6_cost_51 rfl 3 rfl ?_
          refine r_aload hC dX6_cost_52 0 rfl ?_
          obtain ⟨v9, h⟩ := h
          refine r_get (ci := 5) (f := 0) (v := fO α (gR σ6 k3 0)) hC kX6_cost_7 rfl (by decide) rfl kX6_cost_8 v9.1 (ct_5 v9.2) rfl dX6_cost_54 ?_
          refine r_topo (fun o10 qo10 => ?_)
          replace h := h o10 qo10
          obtain ⟨k11, e12, h⟩ := h
          subst e12
          obtain ⟨v13, h⟩ := h
          refine r_get (ci := 4) (f := 0) (v := .int (gI σ6 k11 0)) hC kX6_cost_9 rfl (by decide) rfl kX6_cost_10 v13.1 (ct_4 v13.2) rfl dX6_cost_57 ?_
          obtain ⟨J14, hJ14, h⟩ := h
          have KJ14 : J14 → G p l e ({ frames := 6, cells := 16, slots := 2000, locals := 90 } : Room) s m args below meth c 0 0 Q dC dI dA (Fc ++ L) α A 5 σ6 77 [] [] := by
            clear h
            intro h
            replace h := hJ14 h
            subst hQ
            exact r_throw (ik := 100) (is := 220) (ic := 104) (en := 3) (tx := "the unit was told behind that month, or costs too high") hC hlf hX hA (by decide +kernel) kX6_cost_11 kX6_cost_12 (by decide +kernel) kX6_cost_13 xh_104_3 xgd_104_3 dX6_cost_77 dX6_cost_80 dX6_cost_81 dX6_cost_83 dX6_cost_86 htab (by decide) hlk (by decide) h
          refine r_icmp_lt (tgt := 77) hC dX6_cost_60 (by decide) (fun q => ?_) (fun q => ?_)
          · replace h := h.1 q
            refine r_lvs [] rfl ?_
            exact KJ14 h
          · replace h := h.2 q
            refine r_aload hC dX6_cost_63 0 rfl ?_
            refine r_get (ci := 5) (f := 3) (v := fO α (some (k3 + 3))) hC kX6_cost_7 rfl (by decide) rfl kX6_cost_14 v9.1 (ct_5 v9.2) rfl dX6_cost_65 ?_
            refine r_iload_n hC dX6_cost_68 rfl 3 rfl ?_
            obtain ⟨v15, h⟩ := h
            obtain ⟨c16, h⟩ := h
            refine r_iald hC v15.1 v15.2 c16 dX6_cost_69 ?_
            refine r_iload_n hC dX6_cost_70 rfl 4 rfl ?_
            refine r_iadd hC dX6_cost_71 ?_
            refine r_ldc (v := 10000000) hC kX6_cost_15 dX6_cost_72 ?_
            refine r_icmp_le (tgt := 87) hC dX6_cost_74 (by decide) (fun q => ?_) (fun q => ?_)
            · replace h := h.1 q
              refine r_aload hC dX6_cost_87 0 rfl ?_
              refine r_get (ci := 5) (f := 3) (v := fO α (some (k3 + 3))) hC kX6_cost_7 rfl (by decide) rfl kX6_cost_14 v9.1 (ct_5 v9.2) rfl dX6_cost_89 ?_
              refine r_iload_n hC dX6_cost_92 rfl 3 rfl ?_
              refine r_dup2 hC rfl fO_cat dX6_cost_93 ?_
              obtain ⟨c17, h⟩ := h
              refine r_iald hC v15.1 v15.2 c17 dX6_cost_94 ?_
              refine r_iload_n hC dX6_cost_95 rfl 4 rfl ?_
              refine r_iadd hC dX6_cost_96 ?_
              obtain ⟨c18, h⟩ := h
              refine r_iast hC v15.1 v15.2 c18 dX6_cost_97 ?_
              refine r_topm (fun σ19 qσ19 => ?_)
              replace h := h σ19 qσ19
              refine r_aload hC dX6_cost_98 0 rfl ?_
              refine r_get (ci := 5) (f := 0) (v := fO α (gR σ19 k3 0)) hC kX6_cost_7 rfl (by decide) rfl kX6_cost_8 v9.1 (ct_5 v9.2) rfl dX6_cost_100 ?_
              refine r_topo (fun o20 qo20 => ?_)
              replace h := h o20 qo20
              obtain ⟨k21, e22, h⟩ := h
              subst e22
              obtain ⟨v23, h⟩ := h
              refine r_get (ci := 4) (f := 4) (v := fO α (some (k21 + 4))) hC kX6_cost_9 rfl (by decide) rfl kX6_cost_16 v23.1 (ct_4 v23.2) rfl dX6_cost_103 ?_
              refine r_iload_n hC dX6_cost_106 rfl 3 rfl ?_
              refine r_dup2 hC rfl fO_cat dX6_cost_107 ?_
              obtain ⟨v24, h⟩ := h
              obtain ⟨c25, h⟩ := h
              refine r_iald hC v24.1 v24.2 c25 dX6_cost_108 ?_
              refine r_iload_n hC dX6_cost_109 rfl 4 rfl ?_
              refine r_iadd hC dX6_cost_110 ?_
              obtain ⟨c26, h⟩ := h
              refine r_iast hC v24.1 v24.2 c26 dX6_cost_111 ?_
              refine r_topm (fun σ27 qσ27 => ?_)
              replace h := h σ27 qσ27
              refine r_aload_n hC dX6_cost_112 rfl 1 rfl ?_
              refine r_iload_n hC dX6_cost_113 rfl 3 rfl ?_
              refine r_callv hC [] (m_runV (n := 1) (ci := 6) hC [.int a2] [] (fun sz => cm_X6_unsettle l dC dI dA L α σ27 a2 _ h sz) gX6_cost_X6_unsettle rfl ⟨rfl, rfl⟩ (by decide +kernel) ⟨Nat.le_of_ble_eq_true rfl, Nat.le_of_ble_eq_true rfl⟩ fx_0 (ct_6 rfl) rfl rfl (Nat.le_of_ble_eq_true rfl) (by decide) dX6_cost_114) (fun σ28 hn => ?_)
              clear h
              revert hn
              intro h
              refine r_aload hC dX6_cost_117 0 rfl ?_
              refine r_get (ci := 5) (f := 3) (v := fO α (some (k3 + 3))) hC kX6_cost_7 rfl (by decide) rfl kX6_cost_14 v9.1 (ct_5 v9.2) rfl dX6_cost_119 ?_
              refine r_iload_n hC dX6_cost_122 rfl 3 rfl ?_
              obtain ⟨c29, h⟩ := h
              refine r_iald hC v15.1 v15.2 c29 dX6_cost_123 ?_
              subst hQ
              exact r_xiret hC hA hr hlk (fun _ _ => rfl) (by decide) dX6_cost_124 h
            · replace h := h.2 q
              refine r_lvs [] rfl ?_
              exact KJ14 h
        · replace h := h.2 q
          refine r_lvs [] rfl ?_
          exact KJ8 h
    · replace h := h.2 q
      refine r_lvs [] rfl ?_
      exact KJ5 σ6 h
theorem kX6_tax_0 : (Cond.classLink RX6 93 "java/lang/IllegalArgumentException") ∈ wsX6_tax := by decide +kernel
theorem kX6_tax_1 : (Cond.initialized "java/lang/IllegalArgumentException") ∈ wsX6_tax := by decide +kernel
theorem kX6_tax_2 : ∀ w ∈ (vx_atS RX6 97 (xN 2) xUp).filter goodWord, w ∈ wsX6_tax := by decide +kernel
theorem kX6_tax_3 : ∀ w ∈ u_ws RX6 TX6 20, w ∈ wsX6_tax := by decide +kernel
theorem kX6_tax_4 : (Cond.fieldLink RX6 58 "Divisionorder" "taxesTold" "[I") ∈ wsX6_tax := by decide +kernel
theorem kX6_tax_5 : (Cond.classLink RX6 109 "java/lang/IndexOutOfBoundsException") ∈ wsX6_tax := by decide +kernel
theorem kX6_tax_6 : (Cond.initialized "java/lang/IndexOutOfBoundsException") ∈ wsX6_tax := by decide +kernel
theorem kX6_tax_7 : ∀ w ∈ (vx_atS RX6 113 (xN 1) xUp).filter goodWord, w ∈ wsX6_tax := by decide +kernel
set_option maxHeartbeats 4000000 in
set_option maxRecDepth 100000 in
theorem cm_X6_tax (l : Launch) (hlf : l.stackTraces = false) (dC : Nat → ClassId) (dI : Nat → Nat → Nat) (dA : Nat → ClassId) (L : List Nat) (α : Nat → Nat) (σ : Mm) (a1 : Int32) (a2 : Int32) (Qm : Int32 → Mm → List Nat → Prop) (Xm : Nat → Mm → List Nat → Prop) (h : wp_X6_tax L σ a1 a2 Qm Xm) (sz : Nat) : vx_Met l yX6_tax wsX6_tax ({ frames := 6, cells := 16, slots := 2000, locals := 90 } : Room) (xP dC dI dA L α σ sz [fO α (some 0), .int a1, .int a2]) (va_Qi (fun r u => Qm r u.1 u.2) (cX dC dI dA L α (wl dA (Fc ++ L) α σ) sz) (va_A (wl dA (Fc ++ L) α σ) sz)) (xXC dC dI dA L α (wl dA (Fc ++ L) α σ) sz Xm) 16 2000 (va_A (wl dA (Fc ++ L) α σ) sz) := by
  refine m_xstart (own := RX6) (lv := [(0, fO α (some 0)), (1, .int a1), (2, .int a2)]) (by decide) rfl rfl (by simp only [lgl_O, lgl_I, lgl_J, lgl_N]; decide) (by simp only [lva_O, lva_I, lva_J, lva_N]) ?_
  intro p e s m below meth c hsz hC hr hlk htab hX
  generalize hA : va_A (wl dA (Fc ++ L) α σ) sz = A at hC hX ⊢
  have hA := hA.symm
  generalize hargs : ([fO α (some 0), .int a1, .int a2] : List Value).toArray = args at hC ⊢
  generalize hQ : vx_MQ below _ _ args s 16 2000 A = Q
  unfold wp_X6_tax at h
  refine r_aload_n hC dX6_tax_0 rfl 0 rfl ?_
  refine r_iload_n hC dX6_tax_1 rfl 2 rfl ?_
  refine r_calli hC [] (m_runV (n := 1) (ci := 6) hC [.int a2] [] (fun sz => cm_X6_isMonth l dC dI dA L α σ a2 _ h sz) gX6_tax_X6_isMonth rfl ⟨rfl, rfl⟩ (by decide +kernel) ⟨Nat.le_of_ble_eq_true rfl, Nat.le_of_ble_eq_true rfl⟩ fx_0 (ct_6 rfl) rfl rfl (Nat.le_of_ble_eq_true rfl) (by decide) dX6_tax_2) (fun x2 σ1 hn => ?_)
  clear h
  revert hn
  intro h
  refine r_if_ne (tgt := 18) hC dX6_tax_5 (by decide) (fun q => ?_) (fun q => ?_)
  · replace h := h.1 q
    refine r_iload_n hC dX6_tax_18 rfl 1 rfl ?_
    obtain ⟨J3, hJ3, h⟩ := h
    have KJ3 : J3 → G p l e ({ frames := 6, cells := 16, slots := 2000, locals := 90 } : Room) s m args below meth c 0 0 Q dC dI dA (Fc ++ L) α A 4 σ1 28 [] [] := by
      clear h
      intro h
      replace h := hJ3 h
      subst hQ
      exact r_throw (ik := 93) (is := 225) (ic := 97) (en := 2) (tx := "hundredths out of range") hC hlf hX hA (by decide +kernel) kX6_tax_0 kX6_tax_1 (by decide +kernel) kX6_tax_2 xh_97_2 xgd_97_2 dX6_tax_28 dX6_tax_31 dX6_tax_32 dX6_tax_34 dX6_tax_37 htab (by decide) hlk (by decide) h
    refine r_if_lt (tgt := 28) hC dX6_tax_19 (by decide) (fun q => ?_) (fun q => ?_)
    · replace h := h.1 q
      refine r_lvs [] rfl ?_
      exact KJ3 h
    · replace h := h.2 q
      refine r_iload_n hC dX6_tax_22 rfl 1 rfl ?_
      refine r_bipush (v := 50) hC dX6_tax_23 (by decide) ?_
      refine r_icmp_le (tgt := 38) hC dX6_tax_25 (by decide) (fun q => ?_) (fun q => ?_)
      · replace h := h.1 q
        refine r_aload_n hC dX6_tax_38 rfl 0 rfl ?_
        refine r_iload_n hC dX6_tax_39 rfl 2 rfl ?_
        refine r_calli hC [] (m_runV (n := 1) (ci := 6) hC [.int a2] [] (fun sz => cm_X6_taxIn l dC dI dA L α σ1 a2 _ h sz) gX6_tax_X6_taxIn rfl ⟨rfl, rfl⟩ (by decide +kernel) ⟨Nat.le_of_ble_eq_true rfl, Nat.le_of_ble_eq_true rfl⟩ fx_0 (ct_6 rfl) rfl rfl (Nat.le_of_ble_eq_true rfl) (by decide) dX6_tax_40) (fun x5 σ4 hn => ?_)
        clear h
        revert hn
        intro h
        refine r_istore_n (lv' := [(3, .int x5), (0, fO α (some 0)), (1, .int a1), (2, .int a2)]) hC dX6_tax_43 rfl (by decide) rfl ?_
        refine r_aload_n hC dX6_tax_44 rfl 1 rfl ?_
        refine r_get (ci := 6) (f := 11) (v := fO α (some 6)) hC kX6_tax_3 rfl (by decide) rfl kX6_tax_4 fx_0 (ct_6 rfl) rfl dX6_tax_45 ?_
        refine r_iload_n hC dX6_tax_48 rfl 3 rfl ?_
        refine r_iload_n hC dX6_tax_49 rfl 2 rfl ?_
        obtain ⟨c6, h⟩ := h
        refine r_iast hC fx_6 rfl c6 dX6_tax_50 ?_
        refine r_topm (fun σ7 qσ7 => ?_)
        replace h := h σ7 qσ7
        refine r_aload_n hC dX6_tax_51 rfl 1 rfl ?_
        refine r_iload_n hC dX6_tax_52 rfl 3 rfl ?_
        refine r_callv hC [] (m_runV (n := 1) (ci := 6) hC [.int a2] [] (fun sz => cm_X6_unsettle l dC dI dA L α σ7 a2 _ h sz) gX6_tax_X6_unsettle rfl ⟨rfl, rfl⟩ (by decide +kernel) ⟨Nat.le_of_ble_eq_true rfl, Nat.le_of_ble_eq_true rfl⟩ fx_0 (ct_6 rfl) rfl rfl (Nat.le_of_ble_eq_true rfl) (by decide) dX6_tax_53) (fun σ8 hn => ?_)
        clear h
        revert hn
        intro h
        refine r_iload_n hC dX6_tax_56 rfl 0 rfl ?_
        subst hQ
        exact r_xiret hC hA hr hlk (fun _ _ => rfl) (by decide) dX6_tax_57 h
      · replace h := h.2 q
        refine r_lvs [] rfl ?_
        exact KJ3 h
  · replace h := h.2 q
    subst hQ
    exact r_throw (ik := 109) (is := 223) (ic := 113) (en := 1) (tx := "no such month") hC hlf hX hA (by decide +kernel) kX6_tax_5 kX6_tax_6 (by decide +kernel) kX6_tax_7 xh_113_1 xgd_113_1 dX6_tax_8 dX6_tax_11 dX6_tax_12 dX6_tax_14 dX6_tax_17 htab (by decide) hlk (by decide) h
theorem kX6_consent_0 : (Cond.classLink RX6 109 "java/lang/IndexOutOfBoundsException") ∈ wsX6_consent := by decide +kernel
theorem kX6_consent_1 : (Cond.initialized "java/lang/IndexOutOfBoundsException") ∈ wsX6_consent := by decide +kernel
theorem kX6_consent_2 : ∀ w ∈ (vx_atS RX6 113 (xN 1) xUp).filter goodWord, w ∈ wsX6_consent := by decide +kernel
theorem kX6_consent_3 : ∀ w ∈ u_ws RX4 TX4 7, w ∈ wsX6_consent := by decide +kernel
theorem kX6_consent_4 : (Cond.fieldLink RX6 233 "Divisionorder$Unit" "refusing" "[I") ∈ wsX6_consent := by decide +kernel
theorem kX6_consent_5 : ∀ w ∈ u_ws RX6 TX6 20, w ∈ wsX6_consent := by decide +kernel
theorem kX6_consent_6 : (Cond.fieldLink RX6 9 "Divisionorder" "now" "I") ∈ wsX6_consent := by decide +kernel
set_option maxHeartbeats 4000000 in
set_option maxRecDepth 100000 in
theorem cm_X6_consent (l : Launch) (hlf : l.stackTraces = false) (dC : Nat → ClassId) (dI : Nat → Nat → Nat) (dA : Nat → ClassId) (L : List Nat) (α : Nat → Nat) (σ : Mm) (a1 : Int32) (a2 : Int32) (a3 : Int32) (Qm : Int32 → Mm → List Nat → Prop) (Xm : Nat → Mm → List Nat → Prop) (h : wp_X6_consent L σ a1 a2 a3 Qm Xm) (sz : Nat) : vx_Met l yX6_consent wsX6_consent ({ frames := 6, cells := 16, slots := 2000, locals := 90 } : Room) (xP dC dI dA L α σ sz [fO α (some 0), .int a1, .int a2, .int a3]) (va_Qi (fun r u => Qm r u.1 u.2) (cX dC dI dA L α (wl dA (Fc ++ L) α σ) sz) (va_A (wl dA (Fc ++ L) α σ) sz)) (xXC dC dI dA L α (wl dA (Fc ++ L) α σ) sz Xm) 16 2000 (va_A (wl dA (Fc ++ L) α σ) sz) := by
  refine m_xstart (own := RX6) (lv := [(0, fO α (some 0)), (1, .int a1), (2, .int a2), (3, .int a3)]) (by decide) rfl rfl (by simp only [lgl_O, lgl_I, lgl_J, lgl_N]; decide) (by simp only [lva_O, lva_I, lva_J, lva_N]) ?_
  intro p e s m below meth c hsz hC hr hlk htab hX
  generalize hA : va_A (wl dA (Fc ++ L) α σ) sz = A at hC hX ⊢
  have hA := hA.symm
  generalize hargs : ([fO α (some 0), .int a1, .int a2, .int a3] : List Value).toArray = args at hC ⊢
  generalize hQ : vx_MQ below _ _ args s 16 2000 A = Q
  unfold wp_X6_consent at h
  refine r_aload_n hC dX6_consent_0 rfl 0 rfl ?_
  refine r_iload_n hC dX6_consent_1 rfl 1 rfl ?_
  refine r_callo hC [] (m_runV (n := 1) (ci := 6) hC [.int a1] [] (fun sz => cm_X6_unitAt l dC dI dA L α σ a1 _ h sz) gX6_consent_X6_unitAt rfl ⟨rfl, rfl⟩ (by decide +kernel) ⟨Nat.le_of_ble_eq_true rfl, Nat.le_of_ble_eq_true rfl⟩ fx_0 (ct_6 rfl) rfl rfl (Nat.le_of_ble_eq_true rfl) (by decide) dX6_consent_2) (fun o2 σ1 hn => ?_)
  clear h
  revert hn
  intro h
  refine r_astore (lv' := [(4, fO α o2), (0, fO α (some 0)), (1, .int a1), (2, .int a2), (3, .int a3)]) hC dX6_consent_5 (by decide) rfl ?_
  refine r_aload hC dX6_consent_7 0 rfl ?_
  obtain ⟨J5, hJ5, h⟩ := h
  have KJ5 : ∀ (σ4 : Mm), J5 σ4 → G p l e ({ frames := 6, cells := 16, slots := 2000, locals := 90 } : Room) s m args below meth c 0 0 Q dC dI dA (Fc ++ L) α A 7 σ4 19 [] [] := by
    clear h
    intro σ4 h
    replace h := hJ5 σ4 h
    subst hQ
    exact r_throw (ik := 109) (is := 231) (ic := 113) (en := 1) (tx := "no such unit or owner") hC hlf hX hA (by decide +kernel) kX6_consent_0 kX6_consent_1 (by decide +kernel) kX6_consent_2 xh_113_1 xgd_113_1 dX6_consent_19 dX6_consent_22 dX6_consent_23 dX6_consent_25 dX6_consent_28 htab (by decide) hlk (by decide) h
  refine r_ifnull (tgt := 19) hC dX6_consent_9 (by decide) (fun q => ?_) (fun k3 q => ?_)
  · replace h := h.1 q
    subst q
    refine r_lvs [] rfl ?_
    exact KJ5 σ1 h
  · replace h := h.2 k3 q
    subst q
    refine r_iload_n hC dX6_consent_12 rfl 3 rfl ?_
    refine r_calli hC [] (m_runS (n := 1) hC [.int a2] [] (fun sz => cm_X6_isOwner l dC dI dA L α σ1 a2 _ h sz) gX6_consent_X6_isOwner rfl ⟨rfl, rfl⟩ (by decide +kernel) ⟨Nat.le_of_ble_eq_true rfl, Nat.le_of_ble_eq_true rfl⟩ rfl (Nat.le_of_ble_eq_true rfl) (by decide) dX6_consent_13) (fun x7 σ6 hn => ?_)
    clear h
    revert hn
    intro h
    refine r_if_ne (tgt := 29) hC dX6_consent_16 (by decide) (fun q => ?_) (fun q => ?_)
    · replace h := h.1 q
      refine r_aload hC dX6_consent_29 0 rfl ?_
      obtain ⟨v8, h⟩ := h
      refine r_get (ci := 4) (f := 1) (v := fO α (some (k3 + 1))) hC kX6_consent_3 rfl (by decide) rfl kX6_consent_4 v8.1 (ct_4 v8.2) rfl dX6_consent_31 ?_
      refine r_aload_n hC dX6_consent_34 rfl 1 rfl ?_
      refine r_get (ci := 6) (f := 0) (v := .int (gI σ6 0 0)) hC kX6_consent_5 rfl (by decide) rfl kX6_consent_6 fx_0 (ct_6 rfl) rfl dX6_consent_35 ?_
      obtain ⟨v9, h⟩ := h
      obtain ⟨c10, h⟩ := h
      refine r_iald hC v9.1 v9.2 c10 dX6_consent_38 ?_
      refine r_iload_n hC dX6_consent_39 rfl 3 rfl ?_
      refine r_calli hC [] (m_runS (n := 2) hC [.int (gI σ6 (k3 + 1) (gI σ6 0 0).toNatClampNeg), .int a2] [] (fun sz => cm_X6_hasBit l dC dI dA L α σ6 (gI σ6 (k3 + 1) (gI σ6 0 0).toNatClampNeg) a2 _ h sz) gX6_consent_X6_hasBit rfl ⟨rfl, rfl⟩ (by decide +kernel) ⟨Nat.le_of_ble_eq_true rfl, Nat.le_of_ble_eq_true rfl⟩ rfl (Nat.le_of_ble_eq_true rfl) (by decide) dX6_consent_40) (fun x12 σ11 hn => ?_)
      clear h
      revert hn
      intro h
      obtain ⟨J14, hJ14, h⟩ := h
      have KJ14 : ∀ (x13 : Int32), J14 x13 → G p l e ({ frames := 6, cells := 16, slots := 2000, locals := 90 } : Room) s m args below meth c 0 0 Q dC dI dA (Fc ++ L) α A 7 σ11 51 [(0, fO α (some 0)), (2, .int a2), (3, .int a3), (4, fO α (some k3))] [.int x13] := by
        clear h
        intro x13 h
        replace h := hJ14 x13 h
        refine r_istore (lv' := [(5, .int x13), (0, fO α (some 0)), (2, .int a2), (3, .int a3), (4, fO α (some k3))]) hC dX6_consent_51 (by decide) rfl ?_
        refine r_aload_n hC dX6_consent_53 rfl 1 rfl ?_
        refine r_get (ci := 6) (f := 0) (v := .int (gI σ11 0 0)) hC kX6_consent_5 rfl (by decide) rfl kX6_consent_6 fx_0 (ct_6 rfl) rfl dX6_consent_54 ?_
        refine r_topi (fun x15 qx15 => ?_)
        replace h := h x15 qx15
        refine r_istore (lv' := [(6, .int x15), (5, .int x13), (0, fO α (some 0)), (2, .int a2), (3, .int a3), (4, fO α (some k3))]) hC dX6_consent_57 (by decide) rfl ?_
        refine r_lvs [2, 3, 4, 5, 1, 0] rfl ?_
        obtain ⟨n, h⟩ := h
        refine lpw_ind (S := Mm × Int32) (fun s19 => G p l e ({ frames := 6, cells := 16, slots := 2000, locals := 90 } : Room) s m args below meth c 0 0 Q dC dI dA (Fc ++ L) α A 7 s19.1 59 [(0, fO α (some 0)), (2, .int a2), (3, .int a3), (4, fO α (some k3)), (5, .int x13), (6, .int s19.2)] []) ?_ n (σ11, x15) h
        clear h
        intro R18 hR18 s19 h
        obtain ⟨σ16, x17⟩ := s19
        refine r_iload hC dX6_consent_59 5 rfl ?_
        refine r_bipush (v := 61) hC dX6_consent_61 (by decide) ?_
        refine r_icmp_ge (tgt := 101) hC dX6_consent_63 (by decide) (fun q => ?_) (fun q => ?_)
        · replace h := h.1 q
          refine r_aload_n hC dX6_consent_101 rfl 0 rfl ?_
          refine r_aload_n hC dX6_consent_102 rfl 0 rfl ?_
          refine r_get (ci := 6) (f := 0) (v := .int (gI σ16 0 0)) hC kX6_consent_5 rfl (by decide) rfl kX6_consent_6 fx_0 (ct_6 rfl) rfl dX6_consent_103 ?_
          refine r_callv hC [] (m_runV (n := 1) (ci := 6) hC [.int (gI σ16 0 0)] [] (fun sz => cm_X6_unsettle l dC dI dA L α σ16 (gI σ16 0 0) _ h sz) gX6_consent_X6_unsettle rfl ⟨rfl, rfl⟩ (by decide +kernel) ⟨Nat.le_of_ble_eq_true rfl, Nat.le_of_ble_eq_true rfl⟩ fx_0 (ct_6 rfl) rfl rfl (Nat.le_of_ble_eq_true rfl) (by decide) dX6_consent_106) (fun σ20 hn => ?_)
          clear h
          revert hn
          intro h
          refine r_iload hC dX6_consent_109 4 rfl ?_
          subst hQ
          exact r_xzret hC hA hr hlk (fun _ _ => rfl) (by decide) dX6_consent_111 h.1 h.2
        · replace h := h.2 q
          refine r_aload hC dX6_consent_66 3 rfl ?_
          refine r_get (ci := 4) (f := 1) (v := fO α (some (k3 + 1))) hC kX6_consent_3 rfl (by decide) rfl kX6_consent_4 v8.1 (ct_4 v8.2) rfl dX6_consent_68 ?_
          refine r_iload hC dX6_consent_71 5 rfl ?_
          refine r_aload hC dX6_consent_73 3 rfl ?_
          refine r_get (ci := 4) (f := 1) (v := fO α (some (k3 + 1))) hC kX6_consent_3 rfl (by decide) rfl kX6_consent_4 v8.1 (ct_4 v8.2) rfl dX6_consent_75 ?_
          refine r_iload hC dX6_consent_78 5 rfl ?_
          obtain ⟨c21, h⟩ := h
          refine r_iald hC v9.1 v9.2 c21 dX6_consent_80 ?_
          refine r_iload_n hC dX6_consent_81 rfl 1 rfl ?_
          refine r_iload_n hC dX6_consent_82 rfl 2 rfl ?_
          obtain ⟨J23, hJ23, h⟩ := h
          have KJ23 : ∀ (x22 : Int32), J23 x22 → G p l e ({ frames := 6, cells := 16, slots := 2000, locals := 90 } : Room) s m args below meth c 0 0 Q dC dI dA (Fc ++ L) α A 7 σ16 91 [(0, fO α (some 0)), (2, .int a2), (3, .int a3), (4, fO α (some k3)), (5, .int x13), (6, .int x17)] [.int x22, .int a2, .int (gI σ16 (k3 + 1) x17.toNatClampNeg), .int x17, fO α (some (k3 + 1))] := by
            clear h
            intro x22 h
            replace h := hJ23 x22 h
            refine r_calli hC [.int x17, fO α (some (k3 + 1))] (m_runS (n := 3) hC [.int (gI σ16 (k3 + 1) x17.toNatClampNeg), .int a2, .int x22] [.int x17, fO α (some (k3 + 1))] (fun sz => cm_X6_withBit l dC dI dA L α σ16 (gI σ16 (k3 + 1) x17.toNatClampNeg) a2 x22 _ h sz) gX6_consent_X6_withBit rfl ⟨rfl, rfl⟩ (by decide +kernel) ⟨Nat.le_of_ble_eq_true rfl, Nat.le_of_ble_eq_true rfl⟩ rfl (Nat.le_of_ble_eq_true rfl) (by decide) dX6_consent_91) (fun x25 σ24 hn => ?_)
            clear h
            revert hn
            intro h
            obtain ⟨c26, h⟩ := h
            refine r_iast hC v9.1 v9.2 c26 dX6_consent_94 ?_
            refine r_topm (fun σ27 qσ27 => ?_)
            replace h := h σ27 qσ27
            obtain ⟨x28, qx28⟩ : ∃ z : Int32, z = x17 + 1 := ⟨_, rfl⟩
            replace h := h x28 qx28
            refine r_iinc (v := x28) (lv' := [(6, .int x28), (0, fO α (some 0)), (2, .int a2), (3, .int a3), (4, fO α (some k3)), (5, .int x13)]) hC dX6_consent_95 (k := 5) rfl (by rw [qx28]; rfl) (by decide) rfl ?_
            refine r_goto (tgt := 59) hC dX6_consent_98 (by decide) ?_
            refine r_lvs [1, 2, 3, 4, 5, 0] rfl ?_
            exact hR18 _ h
          refine r_if_ne (tgt := 90) hC dX6_consent_83 (by decide) (fun q => ?_) (fun q => ?_)
          · replace h := h.1 q
            refine r_iconst (v := 0) hC dX6_consent_90 (by decide) ?_
            exact KJ23 0 h
          · replace h := h.2 q
            refine r_iconst (v := 1) hC dX6_consent_86 (by decide) ?_
            refine r_goto (tgt := 91) hC dX6_consent_87 (by decide) ?_
            exact KJ23 1 h
      refine r_if_ne (tgt := 50) hC dX6_consent_43 (by decide) (fun q => ?_) (fun q => ?_)
      · replace h := h.1 q
        refine r_iconst (v := 0) hC dX6_consent_50 (by decide) ?_
        refine r_lvs [1, 3, 4, 0] rfl ?_
        exact KJ14 0 h
      · replace h := h.2 q
        refine r_iconst (v := 1) hC dX6_consent_46 (by decide) ?_
        refine r_goto (tgt := 51) hC dX6_consent_47 (by decide) ?_
        refine r_lvs [1, 3, 4, 0] rfl ?_
        exact KJ14 1 h
    · replace h := h.2 q
      refine r_lvs [] rfl ?_
      exact KJ5 σ6 h
theorem kX6_penalty_0 : (Cond.classLink RX6 93 "java/lang/IllegalArgumentException") ∈ wsX6_penalty := by decide +kernel
theorem kX6_penalty_1 : (Cond.initialized "java/lang/IllegalArgumentException") ∈ wsX6_penalty := by decide +kernel
theorem kX6_penalty_2 : ∀ w ∈ (vx_atS RX6 97 (xN 2) xUp).filter goodWord, w ∈ wsX6_penalty := by decide +kernel
theorem kX6_penalty_3 : ∀ w ∈ u_ws RX6 TX6 20, w ∈ wsX6_penalty := by decide +kernel
theorem kX6_penalty_4 : (Cond.fieldLink RX6 62 "Divisionorder" "penaltyHundredths" "I") ∈ wsX6_penalty := by decide +kernel
set_option maxHeartbeats 4000000 in
set_option maxRecDepth 100000 in
theorem cm_X6_penalty (l : Launch) (hlf : l.stackTraces = false) (dC : Nat → ClassId) (dI : Nat → Nat → Nat) (dA : Nat → ClassId) (L : List Nat) (α : Nat → Nat) (σ : Mm) (a1 : Int32) (Qm : Int32 → Mm → List Nat → Prop) (Xm : Nat → Mm → List Nat → Prop) (h : wp_X6_penalty L σ a1 Qm Xm) (sz : Nat) : vx_Met l yX6_penalty wsX6_penalty ({ frames := 6, cells := 16, slots := 2000, locals := 90 } : Room) (xP dC dI dA L α σ sz [fO α (some 0), .int a1]) (va_Qi (fun r u => Qm r u.1 u.2) (cX dC dI dA L α (wl dA (Fc ++ L) α σ) sz) (va_A (wl dA (Fc ++ L) α σ) sz)) (xXC dC dI dA L α (wl dA (Fc ++ L) α σ) sz Xm) 16 2000 (va_A (wl dA (Fc ++ L) α σ) sz) := by
  refine m_xstart (own := RX6) (lv := [(0, fO α (some 0)), (1, .int a1)]) (by decide) rfl rfl (by simp only [lgl_O, lgl_I, lgl_J, lgl_N]; decide) (by simp only [lva_O, lva_I, lva_J, lva_N]) ?_
  intro p e s m below meth c hsz hC hr hlk htab hX
  generalize hA : va_A (wl dA (Fc ++ L) α σ) sz = A at hC hX ⊢
  have hA := hA.symm
  generalize hargs : ([fO α (some 0), .int a1] : List Value).toArray = args at hC ⊢
  generalize hQ : vx_MQ below _ _ args s 16 2000 A = Q
  unfold wp_X6_penalty at h
  refine r_iload_n hC dX6_penalty_0 rfl 1 rfl ?_
  refine r_bipush (v := 100) hC dX6_penalty_1 (by decide) ?_
  obtain ⟨J1, hJ1, h⟩ := h
  have KJ1 : J1 → G p l e ({ frames := 6, cells := 16, slots := 2000, locals := 90 } : Room) s m args below meth c 0 0 Q dC dI dA (Fc ++ L) α A 3 σ 13 [] [] := by
    clear h
    intro h
    replace h := hJ1 h
    subst hQ
    exact r_throw (ik := 93) (is := 225) (ic := 97) (en := 2) (tx := "hundredths out of range") hC hlf hX hA (by decide +kernel) kX6_penalty_0 kX6_penalty_1 (by decide +kernel) kX6_penalty_2 xh_97_2 xgd_97_2 dX6_penalty_13 dX6_penalty_16 dX6_penalty_17 dX6_penalty_19 dX6_penalty_22 htab (by decide) hlk (by decide) h
  refine r_icmp_lt (tgt := 13) hC dX6_penalty_3 (by decide) (fun q => ?_) (fun q => ?_)
  · replace h := h.1 q
    refine r_lvs [] rfl ?_
    exact KJ1 h
  · replace h := h.2 q
    refine r_iload_n hC dX6_penalty_6 rfl 1 rfl ?_
    refine r_sipush (v := 500) hC dX6_penalty_7 (by decide) ?_
    refine r_icmp_le (tgt := 23) hC dX6_penalty_10 (by decide) (fun q => ?_) (fun q => ?_)
    · replace h := h.1 q
      refine r_aload_n hC dX6_penalty_23 rfl 0 rfl ?_
      refine r_get (ci := 6) (f := 12) (v := .int (gI σ 0 12)) hC kX6_penalty_3 rfl (by decide) rfl kX6_penalty_4 fx_0 (ct_6 rfl) rfl dX6_penalty_24 ?_
      refine r_topi (fun x2 qx2 => ?_)
      replace h := h x2 qx2
      refine r_istore_n (lv' := [(2, .int x2), (0, fO α (some 0)), (1, .int a1)]) hC dX6_penalty_27 rfl (by decide) rfl ?_
      refine r_aload_n hC dX6_penalty_28 rfl 1 rfl ?_
      refine r_iload_n hC dX6_penalty_29 rfl 2 rfl ?_
      refine r_put (ci := 6) (f := 12) (v := .int a1) (σ' := sI σ 0 12 a1) hC kX6_penalty_3 tyX6 tyX6_ok nmX6 rfl (by decide) rfl kX6_penalty_4 fx_0 (ct_6 rfl) rfl rfl (Nat.le_of_ble_eq_true rfl) (pt_6_12 rfl) ct_sI dX6_penalty_30 ?_
      refine r_topm (fun σ3 qσ3 => ?_)
      replace h := h σ3 qσ3
      refine r_aload_n hC dX6_penalty_33 rfl 1 rfl ?_
      refine r_iconst (v := 0) hC dX6_penalty_34 (by decide) ?_
      refine r_callv hC [] (m_runV (n := 1) (ci := 6) hC [.int 0] [] (fun sz => cm_X6_unsettle l dC dI dA L α σ3 0 _ h sz) gX6_penalty_X6_unsettle rfl ⟨rfl, rfl⟩ (by decide +kernel) ⟨Nat.le_of_ble_eq_true rfl, Nat.le_of_ble_eq_true rfl⟩ fx_0 (ct_6 rfl) rfl rfl (Nat.le_of_ble_eq_true rfl) (by decide) dX6_penalty_35) (fun σ4 hn => ?_)
      clear h
      revert hn
      intro h
      refine r_iload_n hC dX6_penalty_38 rfl 0 rfl ?_
      subst hQ
      exact r_xiret hC hA hr hlk (fun _ _ => rfl) (by decide) dX6_penalty_39 h
    · replace h := h.2 q
      refine r_lvs [] rfl ?_
      exact KJ1 h
theorem kX6_interest_0 : (Cond.classLink RX6 109 "java/lang/IndexOutOfBoundsException") ∈ wsX6_interest := by decide +kernel
theorem kX6_interest_1 : (Cond.initialized "java/lang/IndexOutOfBoundsException") ∈ wsX6_interest := by decide +kernel
theorem kX6_interest_2 : ∀ w ∈ (vx_atS RX6 113 (xN 1) xUp).filter goodWord, w ∈ wsX6_interest := by decide +kernel
theorem kX6_interest_3 : ∀ w ∈ u_ws RX6 TX6 20, w ∈ wsX6_interest := by decide +kernel
theorem kX6_interest_4 : (Cond.fieldLink RX6 86 "Divisionorder" "deck" "LDivisionorder$Parting;") ∈ wsX6_interest := by decide +kernel
theorem kX6_interest_5 : (Cond.constantLong RX6 250 (100000000)) ∈ wsX6_interest := by decide +kernel
theorem kX6_interest_6 : ∀ w ∈ u_ws RX2 TX2 3, w ∈ wsX6_interest := by decide +kernel
theorem kX6_interest_7 : (Cond.fieldLink RX6 256 "Divisionorder$Parting" "parts" "[J") ∈ wsX6_interest := by decide +kernel
set_option maxHeartbeats 4000000 in
set_option maxRecDepth 100000 in
theorem cm_X6_interest (l : Launch) (hlf : l.stackTraces = false) (dC : Nat → ClassId) (dI : Nat → Nat → Nat) (dA : Nat → ClassId) (L : List Nat) (α : Nat → Nat) (σ : Mm) (a1 : Int32) (a2 : Int32) (a3 : Int32) (a4 : Int32) (Qm : Int32 → Mm → List Nat → Prop) (Xm : Nat → Mm → List Nat → Prop) (h : wp_X6_interest L σ a1 a2 a3 a4 Qm Xm) (sz : Nat) : vx_Met l yX6_interest wsX6_interest ({ frames := 6, cells := 16, slots := 2000, locals := 102 } : Room) (xP dC dI dA L α σ sz [fO α (some 0), .int a1, .int a2, .int a3, .int a4]) (va_Qi (fun r u => Qm r u.1 u.2) (cX dC dI dA L α (wl dA (Fc ++ L) α σ) sz) (va_A (wl dA (Fc ++ L) α σ) sz)) (xXC dC dI dA L α (wl dA (Fc ++ L) α σ) sz Xm) 16 2000 (va_A (wl dA (Fc ++ L) α σ) sz) := by
  refine m_xstart (own := RX6) (lv := [(0, fO α (some 0)), (1, .int a1), (2, .int a2), (3, .int a3), (4, .int a4)]) (by decide) rfl rfl (by simp only [lgl_O, lgl_I, lgl_J, lgl_N]; decide) (by simp only [lva_O, lva_I, lva_J, lva_N]) ?_
  intro p e s m below meth c hsz hC hr hlk htab hX
  generalize hA : va_A (wl dA (Fc ++ L) α σ) sz = A at hC hX ⊢
  have hA := hA.symm
  generalize hargs : ([fO α (some 0), .int a1, .int a2, .int a3, .int a4] : List Value).toArray = args at hC ⊢
  generalize hQ : vx_MQ below _ _ args s 16 2000 A = Q
  unfold wp_X6_interest at h
  refine r_aload_n hC dX6_interest_0 rfl 0 rfl ?_
  refine r_iload_n hC dX6_interest_1 rfl 1 rfl ?_
  refine r_iload_n hC dX6_interest_2 rfl 2 rfl ?_
  refine r_callo hC [] (m_runV (n := 2) (ci := 6) hC [.int a1, .int a2] [] (fun sz => cm_X6_unitIn l dC dI dA L α σ a1 a2 _ h sz) gX6_interest_X6_unitIn rfl ⟨rfl, rfl⟩ (by decide +kernel) ⟨Nat.le_of_ble_eq_true rfl, Nat.le_of_ble_eq_true rfl⟩ fx_0 (ct_6 rfl) rfl rfl (Nat.le_of_ble_eq_true rfl) (by decide) dX6_interest_3) (fun o2 σ1 hn => ?_)
  clear h
  revert hn
  intro h
  refine r_astore (lv' := [(5, fO α o2), (0, fO α (some 0)), (1, .int a1), (2, .int a2), (3, .int a3), (4, .int a4)]) hC dX6_interest_6 (by decide) rfl ?_
  refine r_aload hC dX6_interest_8 0 rfl ?_
  obtain ⟨J5, hJ5, h⟩ := h
  have KJ5 : ∀ (σ4 : Mm), J5 σ4 → G p l e ({ frames := 6, cells := 16, slots := 2000, locals := 102 } : Room) s m args below meth c 0 0 Q dC dI dA (Fc ++ L) α A 6 σ4 20 [] [] := by
    clear h
    intro σ4 h
    replace h := hJ5 σ4 h
    subst hQ
    exact r_throw (ik := 109) (is := 244) (ic := 113) (en := 1) (tx := "no such unit, month or owner") hC hlf hX hA (by decide +kernel) kX6_interest_0 kX6_interest_1 (by decide +kernel) kX6_interest_2 xh_113_1 xgd_113_1 dX6_interest_20 dX6_interest_23 dX6_interest_24 dX6_interest_26 dX6_interest_29 htab (by decide) hlk (by decide) h
  refine r_ifnull (tgt := 20) hC dX6_interest_10 (by decide) (fun q => ?_) (fun k3 q => ?_)
  · replace h := h.1 q
    subst q
    refine r_lvs [] rfl ?_
    exact KJ5 σ1 h
  · replace h := h.2 k3 q
    subst q
    refine r_iload_n hC dX6_interest_13 rfl 4 rfl ?_
    refine r_calli hC [] (m_runS (n := 1) hC [.int a3] [] (fun sz => cm_X6_isOwner l dC dI dA L α σ1 a3 _ h sz) gX6_interest_X6_isOwner rfl ⟨rfl, rfl⟩ (by decide +kernel) ⟨Nat.le_of_ble_eq_true rfl, Nat.le_of_ble_eq_true rfl⟩ rfl (Nat.le_of_ble_eq_true rfl) (by decide) dX6_interest_14) (fun x7 σ6 hn => ?_)
    clear h
    revert hn
    intro h
    refine r_if_ne (tgt := 30) hC dX6_interest_17 (by decide) (fun q => ?_) (fun q => ?_)
    · replace h := h.1 q
      refine r_aload_n hC dX6_interest_30 rfl 1 rfl ?_
      refine r_aload hC dX6_interest_31 0 rfl ?_
      refine r_iload_n hC dX6_interest_33 rfl 3 rfl ?_
      refine r_callv hC [] (m_runV (n := 2) (ci := 6) hC [fO α (some k3), .int a2] [] (fun sz => cm_X6_layDeck l dC dI dA L α σ6 (some k3) a2 _ h sz) gX6_interest_X6_layDeck rfl ⟨rfl, rfl⟩ (by decide +kernel) ⟨Nat.le_of_ble_eq_true rfl, Nat.le_of_ble_eq_true rfl⟩ fx_0 (ct_6 rfl) rfl rfl (Nat.le_of_ble_eq_true rfl) (by decide) dX6_interest_34) (fun σ8 hn => ?_)
      clear h
      revert hn
      intro h
      refine r_aload_n hC dX6_interest_37 rfl 1 rfl ?_
      refine r_get (ci := 6) (f := 18) (v := fO α (some 9)) hC kX6_interest_3 rfl (by decide) rfl kX6_interest_4 fx_0 (ct_6 rfl) rfl dX6_interest_38 ?_
      refine r_ldc2 (v := 100000000) hC kX6_interest_5 dX6_interest_41 ?_
      refine r_callv hC [] (m_runV (n := 1) (ci := 2) hC [.long 100000000] [] (fun sz => cm_X2_partOut l dC dI dA L α σ8 9 100000000 _ h sz) gX6_interest_X2_partOut rfl ⟨rfl, rfl⟩ (by decide +kernel) ⟨Nat.le_of_ble_eq_true rfl, Nat.le_of_ble_eq_true rfl⟩ fx_9 (ct_2 rfl) rfl rfl (Nat.le_of_ble_eq_true rfl) (by decide) dX6_interest_44) (fun σ9 hn => ?_)
      clear h
      revert hn
      intro h
      refine r_aload_n hC dX6_interest_47 rfl 1 rfl ?_
      refine r_get (ci := 6) (f := 18) (v := fO α (some 9)) hC kX6_interest_3 rfl (by decide) rfl kX6_interest_4 fx_0 (ct_6 rfl) rfl dX6_interest_48 ?_
      refine r_get (ci := 2) (f := 1) (v := fO α (some 11)) hC kX6_interest_6 rfl (by decide) rfl kX6_interest_7 fx_9 (ct_2 rfl) rfl dX6_interest_51 ?_
      refine r_iload hC dX6_interest_54 5 rfl ?_
      obtain ⟨J11, hJ11, h⟩ := h
      have KJ11 : ∀ (x10 : Int32), J11 x10 → G p l e ({ frames := 6, cells := 16, slots := 2000, locals := 102 } : Room) s m args below meth c 0 0 Q dC dI dA (Fc ++ L) α A 6 σ9 67 [] [.int x10, fO α (some 11)] := by
        clear h
        intro x10 h
        replace h := hJ11 x10 h
        obtain ⟨c12, h⟩ := h
        refine r_lald hC fx_11 rfl c12 dX6_interest_67 ?_
        refine r_l2i hC dX6_interest_68 ?_
        subst hQ
        exact r_xiret hC hA hr hlk (fun _ _ => rfl) (by decide) dX6_interest_69 h
      refine r_if_eq (tgt := 63) hC dX6_interest_56 (by decide) (fun q => ?_) (fun q => ?_)
      · replace h := h.1 q
        refine r_bipush (v := 10) hC dX6_interest_63 (by decide) ?_
        refine r_iload_n hC dX6_interest_65 rfl 4 rfl ?_
        refine r_iadd hC dX6_interest_66 ?_
        refine r_lvs [] rfl ?_
        exact KJ11 (10 + a3) h
      · replace h := h.2 q
        refine r_iload_n hC dX6_interest_59 rfl 4 rfl ?_
        refine r_goto (tgt := 67) hC dX6_interest_60 (by decide) ?_
        refine r_lvs [] rfl ?_
        exact KJ11 a3 h
    · replace h := h.2 q
      refine r_lvs [] rfl ?_
      exact KJ5 σ6 h
theorem kX6_revenue_0 : (Cond.classLink RX6 109 "java/lang/IndexOutOfBoundsException") ∈ wsX6_revenue := by decide +kernel
theorem kX6_revenue_1 : (Cond.initialized "java/lang/IndexOutOfBoundsException") ∈ wsX6_revenue := by decide +kernel
theorem kX6_revenue_2 : ∀ w ∈ (vx_atS RX6 113 (xN 1) xUp).filter goodWord, w ∈ wsX6_revenue := by decide +kernel
set_option maxHeartbeats 4000000 in
set_option maxRecDepth 100000 in
theorem cm_X6_revenue (l : Launch) (hlf : l.stackTraces = false) (dC : Nat → ClassId) (dI : Nat → Nat → Nat) (dA : Nat → ClassId) (L : List Nat) (α : Nat → Nat) (σ : Mm) (a1 : Int32) (a2 : Int32) (Qm : Int32 → Mm → List Nat → Prop) (Xm : Nat → Mm → List Nat → Prop) (h : wp_X6_revenue L σ a1 a2 Qm Xm) (sz : Nat) : vx_Met l yX6_revenue wsX6_revenue ({ frames := 6, cells := 16, slots := 2000, locals := 90 } : Room) (xP dC dI dA L α σ sz [fO α (some 0), .int a1, .int a2]) (va_Qi (fun r u => Qm r u.1 u.2) (cX dC dI dA L α (wl dA (Fc ++ L) α σ) sz) (va_A (wl dA (Fc ++ L) α σ) sz)) (xXC dC dI dA L α (wl dA (Fc ++ L) α σ) sz Xm) 16 2000 (va_A (wl dA (Fc ++ L) α σ) sz) := by
  refine m_xstart (own := RX6) (lv := [(0, fO α (some 0)), (1, .int a1), (2, .int a2)]) (by decide) rfl rfl (by simp only [lgl_O, lgl_I, lgl_J, lgl_N]; decide) (by simp only [lva_O, lva_I, lva_J, lva_N]) ?_
  intro p e s m below meth c hsz hC hr hlk htab hX
  generalize hA : va_A (wl dA (Fc ++ L) α σ) sz = A at hC hX ⊢
  have hA := hA.symm
  generalize hargs : ([fO α (some 0), .int a1, .int a2] : List Value).toArray = args at hC ⊢
  generalize hQ : vx_MQ below _ _ args s 16 2000 A = Q
  unfold wp_X6_revenue at h
  refine r_aload_n hC dX6_revenue_0 rfl 0 rfl ?_
  refine r_iload_n hC dX6_revenue_1 rfl 1 rfl ?_
  refine r_iload_n hC dX6_revenue_2 rfl 2 rfl ?_
  refine r_callo hC [] (m_runV (n := 2) (ci := 6) hC [.int a1, .int a2] [] (fun sz => cm_X6_unitIn l dC dI dA L α σ a1 a2 _ h sz) gX6_revenue_X6_unitIn rfl ⟨rfl, rfl⟩ (by decide +kernel) ⟨Nat.le_of_ble_eq_true rfl, Nat.le_of_ble_eq_true rfl⟩ fx_0 (ct_6 rfl) rfl rfl (Nat.le_of_ble_eq_true rfl) (by decide) dX6_revenue_3) (fun o2 σ1 hn => ?_)
  clear h
  revert hn
  intro h
  refine r_astore_n (lv' := [(3, fO α o2), (0, fO α (some 0)), (1, .int a1), (2, .int a2)]) hC dX6_revenue_6 rfl (by decide) rfl ?_
  refine r_aload_n hC dX6_revenue_7 rfl 0 rfl ?_
  refine r_ifnonnull (tgt := 22) hC dX6_revenue_8 (by decide) (fun k3 q => ?_) (fun q => ?_)
  · replace h := h.2 k3 q
    subst q
    refine r_aload_n hC dX6_revenue_22 rfl 1 rfl ?_
    refine r_aload_n hC dX6_revenue_23 rfl 0 rfl ?_
    refine r_iload_n hC dX6_revenue_24 rfl 3 rfl ?_
    refine r_calll hC [] (m_runV (n := 2) (ci := 6) hC [fO α (some k3), .int a2] [] (fun sz => cm_X6_revenueOf l dC dI dA L α σ1 (some k3) a2 _ h sz) gX6_revenue_X6_revenueOf rfl ⟨rfl, rfl⟩ (by decide +kernel) ⟨Nat.le_of_ble_eq_true rfl, Nat.le_of_ble_eq_true rfl⟩ fx_0 (ct_6 rfl) rfl rfl (Nat.le_of_ble_eq_true rfl) (by decide) dX6_revenue_25) (fun y5 σ4 hn => ?_)
    clear h
    revert hn
    intro h
    refine r_l2i hC dX6_revenue_28 ?_
    subst hQ
    exact r_xiret hC hA hr hlk (fun _ _ => rfl) (by decide) dX6_revenue_29 h
  · replace h := h.1 q
    subst q
    subst hQ
    exact r_throwW (ik := 109) (is := 259) (ic := 113) (en := 1) (tx := "no such unit or month") hC hlf hX hA (by decide +kernel) kX6_revenue_0 kX6_revenue_1 (by decide +kernel) kX6_revenue_2 xh_113_1 xgd_113_1 dX6_revenue_11 dX6_revenue_14 dX6_revenue_15 dX6_revenue_18 dX6_revenue_21 htab (by decide) hlk (by decide) h
theorem kX6_due_0 : (Cond.classLink RX6 109 "java/lang/IndexOutOfBoundsException") ∈ wsX6_due := by decide +kernel
theorem kX6_due_1 : (Cond.initialized "java/lang/IndexOutOfBoundsException") ∈ wsX6_due := by decide +kernel
theorem kX6_due_2 : ∀ w ∈ (vx_atS RX6 113 (xN 1) xUp).filter goodWord, w ∈ wsX6_due := by decide +kernel
theorem kX6_due_3 : ∀ w ∈ u_ws RX4 TX4 7, w ∈ wsX6_due := by decide +kernel
theorem kX6_due_4 : (Cond.fieldLink RX6 268 "Divisionorder$Unit" "dues" "[J") ∈ wsX6_due := by decide +kernel
set_option maxHeartbeats 4000000 in
set_option maxRecDepth 100000 in
theorem cm_X6_due (l : Launch) (hlf : l.stackTraces = false) (dC : Nat → ClassId) (dI : Nat → Nat → Nat) (dA : Nat → ClassId) (L : List Nat) (α : Nat → Nat) (σ : Mm) (a1 : Int32) (a2 : Int32) (a3 : Int32) (Qm : Int32 → Mm → List Nat → Prop) (Xm : Nat → Mm → List Nat → Prop) (h : wp_X6_due L σ a1 a2 a3 Qm Xm) (sz : Nat) : vx_Met l yX6_due wsX6_due ({ frames := 6, cells := 16, slots := 2000, locals := 154 } : Room) (xP dC dI dA L α σ sz [fO α (some 0), .int a1, .int a2, .int a3]) (va_Qi (fun r u => Qm r u.1 u.2) (cX dC dI dA L α (wl dA (Fc ++ L) α σ) sz) (va_A (wl dA (Fc ++ L) α σ) sz)) (xXC dC dI dA L α (wl dA (Fc ++ L) α σ) sz Xm) 16 2000 (va_A (wl dA (Fc ++ L) α σ) sz) := by
  refine m_xstart (own := RX6) (lv := [(0, fO α (some 0)), (1, .int a1), (2, .int a2), (3, .int a3)]) (by decide) rfl rfl (by simp only [lgl_O, lgl_I, lgl_J, lgl_N]; decide) (by simp only [lva_O, lva_I, lva_J, lva_N]) ?_
  intro p e s m below meth c hsz hC hr hlk htab hX
  generalize hA : va_A (wl dA (Fc ++ L) α σ) sz = A at hC hX ⊢
  have hA := hA.symm
  generalize hargs : ([fO α (some 0), .int a1, .int a2, .int a3] : List Value).toArray = args at hC ⊢
  generalize hQ : vx_MQ below _ _ args s 16 2000 A = Q
  unfold wp_X6_due at h
  refine r_aload_n hC dX6_due_0 rfl 0 rfl ?_
  refine r_iload_n hC dX6_due_1 rfl 1 rfl ?_
  refine r_iload_n hC dX6_due_2 rfl 2 rfl ?_
  refine r_callo hC [] (m_runV (n := 2) (ci := 6) hC [.int a1, .int a2] [] (fun sz => cm_X6_unitIn l dC dI dA L α σ a1 a2 _ h sz) gX6_due_X6_unitIn rfl ⟨rfl, rfl⟩ (by decide +kernel) ⟨Nat.le_of_ble_eq_true rfl, Nat.le_of_ble_eq_true rfl⟩ fx_0 (ct_6 rfl) rfl rfl (Nat.le_of_ble_eq_true rfl) (by decide) dX6_due_3) (fun o2 σ1 hn => ?_)
  clear h
  revert hn
  intro h
  refine r_astore (lv' := [(4, fO α o2), (0, fO α (some 0)), (1, .int a1), (2, .int a2), (3, .int a3)]) hC dX6_due_6 (by decide) rfl ?_
  refine r_aload hC dX6_due_8 0 rfl ?_
  obtain ⟨J5, hJ5, h⟩ := h
  have KJ5 : ∀ (σ4 : Mm), J5 σ4 → G p l e ({ frames := 6, cells := 16, slots := 2000, locals := 154 } : Room) s m args below meth c 0 0 Q dC dI dA (Fc ++ L) α A 5 σ4 20 [] [] := by
    clear h
    intro σ4 h
    replace h := hJ5 σ4 h
    subst hQ
    exact r_throw (ik := 109) (is := 244) (ic := 113) (en := 1) (tx := "no such unit, month or owner") hC hlf hX hA (by decide +kernel) kX6_due_0 kX6_due_1 (by decide +kernel) kX6_due_2 xh_113_1 xgd_113_1 dX6_due_20 dX6_due_23 dX6_due_24 dX6_due_26 dX6_due_29 htab (by decide) hlk (by decide) h
  refine r_ifnull (tgt := 20) hC dX6_due_10 (by decide) (fun q => ?_) (fun k3 q => ?_)
  · replace h := h.1 q
    subst q
    refine r_lvs [] rfl ?_
    exact KJ5 σ1 h
  · replace h := h.2 k3 q
    subst q
    refine r_iload_n hC dX6_due_13 rfl 4 rfl ?_
    refine r_calli hC [] (m_runS (n := 1) hC [.int a3] [] (fun sz => cm_X6_isOwner l dC dI dA L α σ1 a3 _ h sz) gX6_due_X6_isOwner rfl ⟨rfl, rfl⟩ (by decide +kernel) ⟨Nat.le_of_ble_eq_true rfl, Nat.le_of_ble_eq_true rfl⟩ rfl (Nat.le_of_ble_eq_true rfl) (by decide) dX6_due_14) (fun x7 σ6 hn => ?_)
    clear h
    revert hn
    intro h
    refine r_if_ne (tgt := 30) hC dX6_due_17 (by decide) (fun q => ?_) (fun q => ?_)
    · replace h := h.1 q
      refine r_aload_n hC dX6_due_30 rfl 1 rfl ?_
      refine r_callv hC [] (m_runV (n := 0) (ci := 6) hC [] [] (fun sz => cm_X6_settle l dC dI dA L α σ6  _ h sz) gX6_due_X6_settle rfl ⟨rfl, rfl⟩ (by decide +kernel) ⟨Nat.le_of_ble_eq_true rfl, Nat.le_of_ble_eq_true rfl⟩ fx_0 (ct_6 rfl) rfl rfl (Nat.le_of_ble_eq_true rfl) (by decide) dX6_due_31) (fun σ8 hn => ?_)
      clear h
      revert hn
      intro h
      refine r_aload hC dX6_due_34 0 rfl ?_
      obtain ⟨v9, h⟩ := h
      refine r_get (ci := 4) (f := 5) (v := fO α (some (k3 + 5))) hC kX6_due_3 rfl (by decide) rfl kX6_due_4 v9.1 (ct_4 v9.2) rfl dX6_due_36 ?_
      refine r_iload_n hC dX6_due_39 rfl 3 rfl ?_
      refine r_bipush (v := 10) hC dX6_due_40 (by decide) ?_
      refine r_imul hC dX6_due_42 ?_
      refine r_iload_n hC dX6_due_43 rfl 4 rfl ?_
      refine r_iadd hC dX6_due_44 ?_
      obtain ⟨v10, h⟩ := h
      obtain ⟨c11, h⟩ := h
      refine r_lald hC v10.1 v10.2 c11 dX6_due_45 ?_
      refine r_l2i hC dX6_due_46 ?_
      subst hQ
      exact r_xiret hC hA hr hlk (fun _ _ => rfl) (by decide) dX6_due_47 h
    · replace h := h.2 q
      refine r_lvs [] rfl ?_
      exact KJ5 σ6 h
theorem kX6_balance_0 : (Cond.classLink RX6 109 "java/lang/IndexOutOfBoundsException") ∈ wsX6_balance := by decide +kernel
theorem kX6_balance_1 : (Cond.initialized "java/lang/IndexOutOfBoundsException") ∈ wsX6_balance := by decide +kernel
theorem kX6_balance_2 : ∀ w ∈ (vx_atS RX6 113 (xN 1) xUp).filter goodWord, w ∈ wsX6_balance := by decide +kernel
theorem kX6_balance_3 : ∀ w ∈ u_ws RX4 TX4 7, w ∈ wsX6_balance := by decide +kernel
theorem kX6_balance_4 : (Cond.fieldLink RX6 271 "Divisionorder$Unit" "balances" "[J") ∈ wsX6_balance := by decide +kernel
set_option maxHeartbeats 4000000 in
set_option maxRecDepth 100000 in
theorem cm_X6_balance (l : Launch) (hlf : l.stackTraces = false) (dC : Nat → ClassId) (dI : Nat → Nat → Nat) (dA : Nat → ClassId) (L : List Nat) (α : Nat → Nat) (σ : Mm) (a1 : Int32) (a2 : Int32) (a3 : Int32) (Qm : Int64 → Mm → List Nat → Prop) (Xm : Nat → Mm → List Nat → Prop) (h : wp_X6_balance L σ a1 a2 a3 Qm Xm) (sz : Nat) : vx_Met l yX6_balance wsX6_balance ({ frames := 6, cells := 16, slots := 2000, locals := 154 } : Room) (xP dC dI dA L α σ sz [fO α (some 0), .int a1, .int a2, .int a3]) (va_Ql (fun r u => Qm r u.1 u.2) (cX dC dI dA L α (wl dA (Fc ++ L) α σ) sz) (va_A (wl dA (Fc ++ L) α σ) sz)) (xXC dC dI dA L α (wl dA (Fc ++ L) α σ) sz Xm) 16 2000 (va_A (wl dA (Fc ++ L) α σ) sz) := by
  refine m_xstart (own := RX6) (lv := [(0, fO α (some 0)), (1, .int a1), (2, .int a2), (3, .int a3)]) (by decide) rfl rfl (by simp only [lgl_O, lgl_I, lgl_J, lgl_N]; decide) (by simp only [lva_O, lva_I, lva_J, lva_N]) ?_
  intro p e s m below meth c hsz hC hr hlk htab hX
  generalize hA : va_A (wl dA (Fc ++ L) α σ) sz = A at hC hX ⊢
  have hA := hA.symm
  generalize hargs : ([fO α (some 0), .int a1, .int a2, .int a3] : List Value).toArray = args at hC ⊢
  generalize hQ : vx_MQ below _ _ args s 16 2000 A = Q
  unfold wp_X6_balance at h
  refine r_aload_n hC dX6_balance_0 rfl 0 rfl ?_
  refine r_iload_n hC dX6_balance_1 rfl 1 rfl ?_
  refine r_iload_n hC dX6_balance_2 rfl 2 rfl ?_
  refine r_callo hC [] (m_runV (n := 2) (ci := 6) hC [.int a1, .int a2] [] (fun sz => cm_X6_unitIn l dC dI dA L α σ a1 a2 _ h sz) gX6_balance_X6_unitIn rfl ⟨rfl, rfl⟩ (by decide +kernel) ⟨Nat.le_of_ble_eq_true rfl, Nat.le_of_ble_eq_true rfl⟩ fx_0 (ct_6 rfl) rfl rfl (Nat.le_of_ble_eq_true rfl) (by decide) dX6_balance_3) (fun o2 σ1 hn => ?_)
  clear h
  revert hn
  intro h
  refine r_astore (lv' := [(4, fO α o2), (0, fO α (some 0)), (1, .int a1), (2, .int a2), (3, .int a3)]) hC dX6_balance_6 (by decide) rfl ?_
  refine r_aload hC dX6_balance_8 0 rfl ?_
  obtain ⟨J5, hJ5, h⟩ := h
  have KJ5 : ∀ (σ4 : Mm), J5 σ4 → G p l e ({ frames := 6, cells := 16, slots := 2000, locals := 154 } : Room) s m args below meth c 0 0 Q dC dI dA (Fc ++ L) α A 5 σ4 20 [] [] := by
    clear h
    intro σ4 h
    replace h := hJ5 σ4 h
    subst hQ
    exact r_throw (ik := 109) (is := 244) (ic := 113) (en := 1) (tx := "no such unit, month or owner") hC hlf hX hA (by decide +kernel) kX6_balance_0 kX6_balance_1 (by decide +kernel) kX6_balance_2 xh_113_1 xgd_113_1 dX6_balance_20 dX6_balance_23 dX6_balance_24 dX6_balance_26 dX6_balance_29 htab (by decide) hlk (by decide) h
  refine r_ifnull (tgt := 20) hC dX6_balance_10 (by decide) (fun q => ?_) (fun k3 q => ?_)
  · replace h := h.1 q
    subst q
    refine r_lvs [] rfl ?_
    exact KJ5 σ1 h
  · replace h := h.2 k3 q
    subst q
    refine r_iload_n hC dX6_balance_13 rfl 4 rfl ?_
    refine r_calli hC [] (m_runS (n := 1) hC [.int a3] [] (fun sz => cm_X6_isOwner l dC dI dA L α σ1 a3 _ h sz) gX6_balance_X6_isOwner rfl ⟨rfl, rfl⟩ (by decide +kernel) ⟨Nat.le_of_ble_eq_true rfl, Nat.le_of_ble_eq_true rfl⟩ rfl (Nat.le_of_ble_eq_true rfl) (by decide) dX6_balance_14) (fun x7 σ6 hn => ?_)
    clear h
    revert hn
    intro h
    refine r_if_ne (tgt := 30) hC dX6_balance_17 (by decide) (fun q => ?_) (fun q => ?_)
    · replace h := h.1 q
      refine r_aload_n hC dX6_balance_30 rfl 1 rfl ?_
      refine r_callv hC [] (m_runV (n := 0) (ci := 6) hC [] [] (fun sz => cm_X6_settle l dC dI dA L α σ6  _ h sz) gX6_balance_X6_settle rfl ⟨rfl, rfl⟩ (by decide +kernel) ⟨Nat.le_of_ble_eq_true rfl, Nat.le_of_ble_eq_true rfl⟩ fx_0 (ct_6 rfl) rfl rfl (Nat.le_of_ble_eq_true rfl) (by decide) dX6_balance_31) (fun σ8 hn => ?_)
      clear h
      revert hn
      intro h
      refine r_aload hC dX6_balance_34 0 rfl ?_
      obtain ⟨v9, h⟩ := h
      refine r_get (ci := 4) (f := 6) (v := fO α (some (k3 + 6))) hC kX6_balance_3 rfl (by decide) rfl kX6_balance_4 v9.1 (ct_4 v9.2) rfl dX6_balance_36 ?_
      refine r_iload_n hC dX6_balance_39 rfl 3 rfl ?_
      refine r_bipush (v := 10) hC dX6_balance_40 (by decide) ?_
      refine r_imul hC dX6_balance_42 ?_
      refine r_iload_n hC dX6_balance_43 rfl 4 rfl ?_
      refine r_iadd hC dX6_balance_44 ?_
      obtain ⟨v10, h⟩ := h
      obtain ⟨c11, h⟩ := h
      refine r_lald hC v10.1 v10.2 c11 dX6_balance_45 ?_
      subst hQ
      exact r_xlret hC hA hr hlk (fun _ _ => rfl) (by decide) dX6_balance_46 h
    · replace h := h.2 q
      refine r_lvs [] rfl ?_
      exact KJ5 σ6 h
theorem kX6_agrees_0 : (Cond.classLink RX6 109 "java/lang/IndexOutOfBoundsException") ∈ wsX6_agrees := by decide +kernel
theorem kX6_agrees_1 : (Cond.initialized "java/lang/IndexOutOfBoundsException") ∈ wsX6_agrees := by decide +kernel
theorem kX6_agrees_2 : ∀ w ∈ (vx_atS RX6 113 (xN 1) xUp).filter goodWord, w ∈ wsX6_agrees := by decide +kernel
theorem kX6_agrees_3 : ∀ w ∈ u_ws RX4 TX4 7, w ∈ wsX6_agrees := by decide +kernel
theorem kX6_agrees_4 : (Cond.fieldLink RX6 222 "Divisionorder$Unit" "costs" "[I") ∈ wsX6_agrees := by decide +kernel
theorem kX6_agrees_5 : (Cond.fieldLink RX6 268 "Divisionorder$Unit" "dues" "[J") ∈ wsX6_agrees := by decide +kernel
set_option maxHeartbeats 4000000 in
set_option maxRecDepth 100000 in
theorem cm_X6_agrees (l : Launch) (hlf : l.stackTraces = false) (dC : Nat → ClassId) (dI : Nat → Nat → Nat) (dA : Nat → ClassId) (L : List Nat) (α : Nat → Nat) (σ : Mm) (a1 : Int32) (a2 : Int32) (Qm : Int32 → Mm → List Nat → Prop) (Xm : Nat → Mm → List Nat → Prop) (h : wp_X6_agrees L σ a1 a2 Qm Xm) (sz : Nat) : vx_Met l yX6_agrees wsX6_agrees ({ frames := 6, cells := 16, slots := 2000, locals := 154 } : Room) (xP dC dI dA L α σ sz [fO α (some 0), .int a1, .int a2]) (va_Qi (fun r u => Qm r u.1 u.2) (cX dC dI dA L α (wl dA (Fc ++ L) α σ) sz) (va_A (wl dA (Fc ++ L) α σ) sz)) (xXC dC dI dA L α (wl dA (Fc ++ L) α σ) sz Xm) 16 2000 (va_A (wl dA (Fc ++ L) α σ) sz) := by
  refine m_xstart (own := RX6) (lv := [(0, fO α (some 0)), (1, .int a1), (2, .int a2)]) (by decide) rfl rfl (by simp only [lgl_O, lgl_I, lgl_J, lgl_N]; decide) (by simp only [lva_O, lva_I, lva_J, lva_N]) ?_
  intro p e s m below meth c hsz hC hr hlk htab hX
  generalize hA : va_A (wl dA (Fc ++ L) α σ) sz = A at hC hX ⊢
  have hA := hA.symm
  generalize hargs : ([fO α (some 0), .int a1, .int a2] : List Value).toArray = args at hC ⊢
  generalize hQ : vx_MQ below _ _ args s 16 2000 A = Q
  unfold wp_X6_agrees at h
  refine r_aload_n hC dX6_agrees_0 rfl 0 rfl ?_
  refine r_iload_n hC dX6_agrees_1 rfl 1 rfl ?_
  refine r_iload_n hC dX6_agrees_2 rfl 2 rfl ?_
  refine r_callo hC [] (m_runV (n := 2) (ci := 6) hC [.int a1, .int a2] [] (fun sz => cm_X6_unitIn l dC dI dA L α σ a1 a2 _ h sz) gX6_agrees_X6_unitIn rfl ⟨rfl, rfl⟩ (by decide +kernel) ⟨Nat.le_of_ble_eq_true rfl, Nat.le_of_ble_eq_true rfl⟩ fx_0 (ct_6 rfl) rfl rfl (Nat.le_of_ble_eq_true rfl) (by decide) dX6_agrees_3) (fun o2 σ1 hn => ?_)
  clear h
  revert hn
  intro h
  refine r_astore_n (lv' := [(3, fO α o2), (0, fO α (some 0)), (1, .int a1), (2, .int a2)]) hC dX6_agrees_6 rfl (by decide) rfl ?_
  refine r_aload_n hC dX6_agrees_7 rfl 0 rfl ?_
  refine r_ifnonnull (tgt := 22) hC dX6_agrees_8 (by decide) (fun k3 q => ?_) (fun q => ?_)
  · replace h := h.2 k3 q
    subst q
    refine r_aload_n hC dX6_agrees_22 rfl 1 rfl ?_
    refine r_callv hC [] (m_runV (n := 0) (ci := 6) hC [] [] (fun sz => cm_X6_settle l dC dI dA L α σ1  _ h sz) gX6_agrees_X6_settle rfl ⟨rfl, rfl⟩ (by decide +kernel) ⟨Nat.le_of_ble_eq_true rfl, Nat.le_of_ble_eq_true rfl⟩ fx_0 (ct_6 rfl) rfl rfl (Nat.le_of_ble_eq_true rfl) (by decide) dX6_agrees_23) (fun σ4 hn => ?_)
    clear h
    revert hn
    intro h
    refine r_lconst (v := 0) hC dX6_agrees_26 (by decide) ?_
    refine r_lstore (lv' := [(4, .long 0), (3, fO α (some k3)), (0, fO α (some 0)), (1, .int a1), (2, .int a2)]) hC dX6_agrees_27 (by decide) rfl ?_
    refine r_iconst (v := 0) hC dX6_agrees_29 (by decide) ?_
    refine r_istore (lv' := [(6, .int 0), (4, .long 0), (3, fO α (some k3)), (0, fO α (some 0)), (1, .int a1), (2, .int a2)]) hC dX6_agrees_30 (by decide) rfl ?_
    refine r_lvs [3, 5, 2, 1, 0] rfl ?_
    obtain ⟨n, h⟩ := h
    refine lpw_ind (S := Int64 × Int32) (fun s8 => G p l e ({ frames := 6, cells := 16, slots := 2000, locals := 154 } : Room) s m args below meth c 0 0 Q dC dI dA (Fc ++ L) α A 7 σ4 32 [(0, fO α (some 0)), (2, .int a2), (3, fO α (some k3)), (4, .long s8.1), (6, .int s8.2)] []) ?_ n (0, 0) h
    clear h
    intro R7 hR7 s8 h
    obtain ⟨y5, x6⟩ := s8
    refine r_iload hC dX6_agrees_32 4 rfl ?_
    refine r_bipush (v := 10) hC dX6_agrees_34 (by decide) ?_
    refine r_icmp_ge (tgt := 62) hC dX6_agrees_36 (by decide) (fun q => ?_) (fun q => ?_)
    · replace h := h.1 q
      refine r_lload hC dX6_agrees_62 3 rfl ?_
      refine r_aload_n hC dX6_agrees_64 rfl 0 rfl ?_
      refine r_aload_n hC dX6_agrees_65 rfl 2 rfl ?_
      refine r_iload_n hC dX6_agrees_66 rfl 1 rfl ?_
      refine r_calll hC [.long y5] (m_runV (n := 2) (ci := 6) hC [fO α (some k3), .int a2] [.long y5] (fun sz => cm_X6_revenueOf l dC dI dA L α σ4 (some k3) a2 _ h sz) gX6_agrees_X6_revenueOf rfl ⟨rfl, rfl⟩ (by decide +kernel) ⟨Nat.le_of_ble_eq_true rfl, Nat.le_of_ble_eq_true rfl⟩ fx_0 (ct_6 rfl) rfl rfl (Nat.le_of_ble_eq_true rfl) (by decide) dX6_agrees_67) (fun y10 σ9 hn => ?_)
      clear h
      revert hn
      intro h
      refine r_aload_n hC dX6_agrees_70 rfl 2 rfl ?_
      obtain ⟨v11, h⟩ := h
      refine r_get (ci := 4) (f := 4) (v := fO α (some (k3 + 4))) hC kX6_agrees_3 rfl (by decide) rfl kX6_agrees_4 v11.1 (ct_4 v11.2) rfl dX6_agrees_71 ?_
      refine r_iload_n hC dX6_agrees_74 rfl 1 rfl ?_
      obtain ⟨v12, h⟩ := h
      obtain ⟨c13, h⟩ := h
      refine r_iald hC v12.1 v12.2 c13 dX6_agrees_75 ?_
      refine r_i2l hC dX6_agrees_76 ?_
      refine r_lsub hC dX6_agrees_77 ?_
      obtain ⟨J15, hJ15, h⟩ := h
      have KJ15 : ∀ (x14 : Int32), J15 x14 → G p l e ({ frames := 6, cells := 16, slots := 2000, locals := 154 } : Room) s m args below meth c 0 0 Q dC dI dA (Fc ++ L) α A 7 σ9 87 [] [.int x14] := by
        clear h
        intro x14 h
        replace h := hJ15 x14 h
        subst hQ
        exact r_xzret hC hA hr hlk (fun _ _ => rfl) (by decide) dX6_agrees_87 h.1 h.2
      refine r_lcmp_ne (tgt := 86) hC dX6_agrees_78 dX6_agrees_79 (by decide) (fun q => ?_) (fun q => ?_)
      · replace h := h.1 q
        refine r_iconst (v := 0) hC dX6_agrees_86 (by decide) ?_
        refine r_lvs [] rfl ?_
        exact KJ15 0 h
      · replace h := h.2 q
        refine r_iconst (v := 1) hC dX6_agrees_82 (by decide) ?_
        refine r_goto (tgt := 87) hC dX6_agrees_83 (by decide) ?_
        refine r_lvs [] rfl ?_
        exact KJ15 1 h
    · replace h := h.2 q
      refine r_lload hC dX6_agrees_39 3 rfl ?_
      refine r_aload_n hC dX6_agrees_41 rfl 2 rfl ?_
      obtain ⟨v16, h⟩ := h
      refine r_get (ci := 4) (f := 5) (v := fO α (some (k3 + 5))) hC kX6_agrees_3 rfl (by decide) rfl kX6_agrees_5 v16.1 (ct_4 v16.2) rfl dX6_agrees_42 ?_
      refine r_iload_n hC dX6_agrees_45 rfl 1 rfl ?_
      refine r_bipush (v := 10) hC dX6_agrees_46 (by decide) ?_
      refine r_imul hC dX6_agrees_48 ?_
      refine r_iload hC dX6_agrees_49 4 rfl ?_
      refine r_iadd hC dX6_agrees_51 ?_
      obtain ⟨v17, h⟩ := h
      obtain ⟨c18, h⟩ := h
      refine r_lald hC v17.1 v17.2 c18 dX6_agrees_52 ?_
      refine r_ladd hC dX6_agrees_53 ?_
      refine r_topl (fun y19 qy19 => ?_)
      replace h := h y19 qy19
      refine r_lstore (lv' := [(4, .long y19), (0, fO α (some 0)), (2, .int a2), (3, fO α (some k3)), (6, .int x6)]) hC dX6_agrees_54 (by decide) rfl ?_
      obtain ⟨x20, qx20⟩ : ∃ z : Int32, z = x6 + 1 := ⟨_, rfl⟩
      replace h := h x20 qx20
      refine r_iinc (v := x20) (lv' := [(6, .int x20), (4, .long y19), (0, fO α (some 0)), (2, .int a2), (3, fO α (some k3))]) hC dX6_agrees_56 (k := 4) rfl (by rw [qx20]; rfl) (by decide) rfl ?_
      refine r_goto (tgt := 32) hC dX6_agrees_59 (by decide) ?_
      refine r_lvs [2, 3, 4, 1, 0] rfl ?_
      exact hR7 _ h
  · replace h := h.1 q
    subst q
    subst hQ
    exact r_throwW (ik := 109) (is := 259) (ic := 113) (en := 1) (tx := "no such unit or month") hC hlf hX hA (by decide +kernel) kX6_agrees_0 kX6_agrees_1 (by decide +kernel) kX6_agrees_2 xh_113_1 xgd_113_1 dX6_agrees_11 dX6_agrees_14 dX6_agrees_15 dX6_agrees_18 dX6_agrees_21 htab (by decide) hlk (by decide) h
theorem kX6_suspend_0 : ∀ w ∈ u_ws RX6 TX6 20, w ∈ wsX6_suspend := by decide +kernel
theorem kX6_suspend_1 : (Cond.fieldLink RX6 65 "Divisionorder" "suspendedOwners" "I") ∈ wsX6_suspend := by decide +kernel
theorem kX6_suspend_2 : (Cond.classLink RX6 109 "java/lang/IndexOutOfBoundsException") ∈ wsX6_suspend := by decide +kernel
theorem kX6_suspend_3 : (Cond.initialized "java/lang/IndexOutOfBoundsException") ∈ wsX6_suspend := by decide +kernel
theorem kX6_suspend_4 : ∀ w ∈ (vx_atS RX6 113 (xN 1) xUp).filter goodWord, w ∈ wsX6_suspend := by decide +kernel
set_option maxHeartbeats 4000000 in
set_option maxRecDepth 100000 in
theorem cm_X6_suspend (l : Launch) (hlf : l.stackTraces = false) (dC : Nat → ClassId) (dI : Nat → Nat → Nat) (dA : Nat → ClassId) (L : List Nat) (α : Nat → Nat) (σ : Mm) (a1 : Int32) (a2 : Int32) (Qm : Int32 → Mm → List Nat → Prop) (Xm : Nat → Mm → List Nat → Prop) (h : wp_X6_suspend L σ a1 a2 Qm Xm) (sz : Nat) : vx_Met l yX6_suspend wsX6_suspend ({ frames := 6, cells := 16, slots := 2000, locals := 90 } : Room) (xP dC dI dA L α σ sz [fO α (some 0), .int a1, .int a2]) (va_Qi (fun r u => Qm r u.1 u.2) (cX dC dI dA L α (wl dA (Fc ++ L) α σ) sz) (va_A (wl dA (Fc ++ L) α σ) sz)) (xXC dC dI dA L α (wl dA (Fc ++ L) α σ) sz Xm) 16 2000 (va_A (wl dA (Fc ++ L) α σ) sz) := by
  refine m_xstart (own := RX6) (lv := [(0, fO α (some 0)), (1, .int a1), (2, .int a2)]) (by decide) rfl rfl (by simp only [lgl_O, lgl_I, lgl_J, lgl_N]; decide) (by simp only [lva_O, lva_I, lva_J, lva_N]) ?_
  intro p e s m below meth c hsz hC hr hlk htab hX
  generalize hA : va_A (wl dA (Fc ++ L) α σ) sz = A at hC hX ⊢
  have hA := hA.symm
  generalize hargs : ([fO α (some 0), .int a1, .int a2] : List Value).toArray = args at hC ⊢
  generalize hQ : vx_MQ below _ _ args s 16 2000 A = Q
  unfold wp_X6_suspend at h
  refine r_iload_n hC dX6_suspend_0 rfl 1 rfl ?_
  refine r_calli hC [] (m_runS (n := 1) hC [.int a1] [] (fun sz => cm_X6_isOwner l dC dI dA L α σ a1 _ h sz) gX6_suspend_X6_isOwner rfl ⟨rfl, rfl⟩ (by decide +kernel) ⟨Nat.le_of_ble_eq_true rfl, Nat.le_of_ble_eq_true rfl⟩ rfl (Nat.le_of_ble_eq_true rfl) (by decide) dX6_suspend_1) (fun x2 σ1 hn => ?_)
  clear h
  revert hn
  intro h
  refine r_if_ne (tgt := 17) hC dX6_suspend_4 (by decide) (fun q => ?_) (fun q => ?_)
  · replace h := h.1 q
    refine r_aload_n hC dX6_suspend_17 rfl 0 rfl ?_
    refine r_get (ci := 6) (f := 13) (v := .int (gI σ1 0 13)) hC kX6_suspend_0 rfl (by decide) rfl kX6_suspend_1 fx_0 (ct_6 rfl) rfl dX6_suspend_18 ?_
    refine r_iload_n hC dX6_suspend_21 rfl 1 rfl ?_
    refine r_calli hC [] (m_runS (n := 2) hC [.int (gI σ1 0 13), .int a1] [] (fun sz => cm_X6_hasBit l dC dI dA L α σ1 (gI σ1 0 13) a1 _ h sz) gX6_suspend_X6_hasBit rfl ⟨rfl, rfl⟩ (by decide +kernel) ⟨Nat.le_of_ble_eq_true rfl, Nat.le_of_ble_eq_true rfl⟩ rfl (Nat.le_of_ble_eq_true rfl) (by decide) dX6_suspend_22) (fun x4 σ3 hn => ?_)
    clear h
    revert hn
    intro h
    refine r_istore_n (lv' := [(3, .int x4), (0, fO α (some 0)), (1, .int a1), (2, .int a2)]) hC dX6_suspend_25 rfl (by decide) rfl ?_
    refine r_aload_n hC dX6_suspend_26 rfl 1 rfl ?_
    refine r_aload_n hC dX6_suspend_27 rfl 1 rfl ?_
    refine r_get (ci := 6) (f := 13) (v := .int (gI σ3 0 13)) hC kX6_suspend_0 rfl (by decide) rfl kX6_suspend_1 fx_0 (ct_6 rfl) rfl dX6_suspend_28 ?_
    refine r_iload_n hC dX6_suspend_31 rfl 2 rfl ?_
    refine r_iload_n hC dX6_suspend_32 rfl 3 rfl ?_
    refine r_calli hC [fO α (some 0)] (m_runS (n := 3) hC [.int (gI σ3 0 13), .int a1, .int a2] [fO α (some 0)] (fun sz => cm_X6_withBit l dC dI dA L α σ3 (gI σ3 0 13) a1 a2 _ h sz) gX6_suspend_X6_withBit rfl ⟨rfl, rfl⟩ (by decide +kernel) ⟨Nat.le_of_ble_eq_true rfl, Nat.le_of_ble_eq_true rfl⟩ rfl (Nat.le_of_ble_eq_true rfl) (by decide) dX6_suspend_33) (fun x6 σ5 hn => ?_)
    clear h
    revert hn
    intro h
    refine r_put (ci := 6) (f := 13) (v := .int x6) (σ' := sI σ5 0 13 x6) hC kX6_suspend_0 tyX6 tyX6_ok nmX6 rfl (by decide) rfl kX6_suspend_1 fx_0 (ct_6 rfl) rfl rfl (Nat.le_of_ble_eq_true rfl) (pt_6_13 rfl) ct_sI dX6_suspend_36 ?_
    refine r_topm (fun σ7 qσ7 => ?_)
    replace h := h σ7 qσ7
    refine r_iload_n hC dX6_suspend_39 rfl 0 rfl ?_
    subst hQ
    exact r_xzret hC hA hr hlk (fun _ _ => rfl) (by decide) dX6_suspend_40 h.1 h.2
  · replace h := h.2 q
    subst hQ
    exact r_throw (ik := 109) (is := 111) (ic := 113) (en := 1) (tx := "no such owner") hC hlf hX hA (by decide +kernel) kX6_suspend_2 kX6_suspend_3 (by decide +kernel) kX6_suspend_4 xh_113_1 xgd_113_1 dX6_suspend_7 dX6_suspend_10 dX6_suspend_11 dX6_suspend_13 dX6_suspend_16 htab (by decide) hlk (by decide) h
theorem kX6_least_0 : (Cond.classLink RX6 93 "java/lang/IllegalArgumentException") ∈ wsX6_least := by decide +kernel
theorem kX6_least_1 : (Cond.initialized "java/lang/IllegalArgumentException") ∈ wsX6_least := by decide +kernel
theorem kX6_least_2 : ∀ w ∈ (vx_atS RX6 97 (xN 2) xUp).filter goodWord, w ∈ wsX6_least := by decide +kernel
theorem kX6_least_3 : (Cond.constant RX6 274 (100000)) ∈ wsX6_least := by decide +kernel
theorem kX6_least_4 : ∀ w ∈ u_ws RX6 TX6 20, w ∈ wsX6_least := by decide +kernel
theorem kX6_least_5 : (Cond.fieldLink RX6 68 "Divisionorder" "leastCheque" "I") ∈ wsX6_least := by decide +kernel
set_option maxHeartbeats 4000000 in
set_option maxRecDepth 100000 in
theorem cm_X6_least (l : Launch) (hlf : l.stackTraces = false) (dC : Nat → ClassId) (dI : Nat → Nat → Nat) (dA : Nat → ClassId) (L : List Nat) (α : Nat → Nat) (σ : Mm) (a1 : Int32) (Qm : Int32 → Mm → List Nat → Prop) (Xm : Nat → Mm → List Nat → Prop) (h : wp_X6_least L σ a1 Qm Xm) (sz : Nat) : vx_Met l yX6_least wsX6_least ({ frames := 6, cells := 16, slots := 2000, locals := 90 } : Room) (xP dC dI dA L α σ sz [fO α (some 0), .int a1]) (va_Qi (fun r u => Qm r u.1 u.2) (cX dC dI dA L α (wl dA (Fc ++ L) α σ) sz) (va_A (wl dA (Fc ++ L) α σ) sz)) (xXC dC dI dA L α (wl dA (Fc ++ L) α σ) sz Xm) 16 2000 (va_A (wl dA (Fc ++ L) α σ) sz) := by
  refine m_xstart (own := RX6) (lv := [(0, fO α (some 0)), (1, .int a1)]) (by decide) rfl rfl (by simp only [lgl_O, lgl_I, lgl_J, lgl_N]; decide) (by simp only [lva_O, lva_I, lva_J, lva_N]) ?_
  intro p e s m below meth c hsz hC hr hlk htab hX
  generalize hA : va_A (wl dA (Fc ++ L) α σ) sz = A at hC hX ⊢
  have hA := hA.symm
  generalize hargs : ([fO α (some 0), .int a1] : List Value).toArray = args at hC ⊢
  generalize hQ : vx_MQ below _ _ args s 16 2000 A = Q
  unfold wp_X6_least at h
  refine r_iload_n hC dX6_least_0 rfl 1 rfl ?_
  refine r_iconst (v := 1) hC dX6_least_1 (by decide) ?_
  obtain ⟨J1, hJ1, h⟩ := h
  have KJ1 : J1 → G p l e ({ frames := 6, cells := 16, slots := 2000, locals := 90 } : Room) s m args below meth c 0 0 Q dC dI dA (Fc ++ L) α A 3 σ 12 [] [] := by
    clear h
    intro h
    replace h := hJ1 h
    subst hQ
    exact r_throw (ik := 93) (is := 214) (ic := 97) (en := 2) (tx := "cents out of range") hC hlf hX hA (by decide +kernel) kX6_least_0 kX6_least_1 (by decide +kernel) kX6_least_2 xh_97_2 xgd_97_2 dX6_least_12 dX6_least_15 dX6_least_16 dX6_least_18 dX6_least_21 htab (by decide) hlk (by decide) h
  refine r_icmp_lt (tgt := 12) hC dX6_least_2 (by decide) (fun q => ?_) (fun q => ?_)
  · replace h := h.1 q
    refine r_lvs [] rfl ?_
    exact KJ1 h
  · replace h := h.2 q
    refine r_iload_n hC dX6_least_5 rfl 1 rfl ?_
    refine r_ldcw (v := 100000) hC kX6_least_3 dX6_least_6 ?_
    refine r_icmp_le (tgt := 22) hC dX6_least_9 (by decide) (fun q => ?_) (fun q => ?_)
    · replace h := h.1 q
      refine r_aload_n hC dX6_least_22 rfl 0 rfl ?_
      refine r_get (ci := 6) (f := 14) (v := .int (gI σ 0 14)) hC kX6_least_4 rfl (by decide) rfl kX6_least_5 fx_0 (ct_6 rfl) rfl dX6_least_23 ?_
      refine r_topi (fun x2 qx2 => ?_)
      replace h := h x2 qx2
      refine r_istore_n (lv' := [(2, .int x2), (0, fO α (some 0)), (1, .int a1)]) hC dX6_least_26 rfl (by decide) rfl ?_
      refine r_aload_n hC dX6_least_27 rfl 1 rfl ?_
      refine r_iload_n hC dX6_least_28 rfl 2 rfl ?_
      refine r_put (ci := 6) (f := 14) (v := .int a1) (σ' := sI σ 0 14 a1) hC kX6_least_4 tyX6 tyX6_ok nmX6 rfl (by decide) rfl kX6_least_5 fx_0 (ct_6 rfl) rfl rfl (Nat.le_of_ble_eq_true rfl) (pt_6_14 rfl) ct_sI dX6_least_29 ?_
      refine r_topm (fun σ3 qσ3 => ?_)
      replace h := h σ3 qσ3
      refine r_iload_n hC dX6_least_32 rfl 0 rfl ?_
      subst hQ
      exact r_xiret hC hA hr hlk (fun _ _ => rfl) (by decide) dX6_least_33 h
    · replace h := h.2 q
      refine r_lvs [] rfl ?_
      exact KJ1 h
theorem kX6_owed_0 : (Cond.classLink RX6 109 "java/lang/IndexOutOfBoundsException") ∈ wsX6_owed := by decide +kernel
theorem kX6_owed_1 : (Cond.initialized "java/lang/IndexOutOfBoundsException") ∈ wsX6_owed := by decide +kernel
theorem kX6_owed_2 : ∀ w ∈ (vx_atS RX6 113 (xN 1) xUp).filter goodWord, w ∈ wsX6_owed := by decide +kernel
set_option maxHeartbeats 4000000 in
set_option maxRecDepth 100000 in
theorem cm_X6_owed (l : Launch) (hlf : l.stackTraces = false) (dC : Nat → ClassId) (dI : Nat → Nat → Nat) (dA : Nat → ClassId) (L : List Nat) (α : Nat → Nat) (σ : Mm) (a1 : Int32) (Qm : Int64 → Mm → List Nat → Prop) (Xm : Nat → Mm → List Nat → Prop) (h : wp_X6_owed L σ a1 Qm Xm) (sz : Nat) : vx_Met l yX6_owed wsX6_owed ({ frames := 6, cells := 16, slots := 2000, locals := 154 } : Room) (xP dC dI dA L α σ sz [fO α (some 0), .int a1]) (va_Ql (fun r u => Qm r u.1 u.2) (cX dC dI dA L α (wl dA (Fc ++ L) α σ) sz) (va_A (wl dA (Fc ++ L) α σ) sz)) (xXC dC dI dA L α (wl dA (Fc ++ L) α σ) sz Xm) 16 2000 (va_A (wl dA (Fc ++ L) α σ) sz) := by
  refine m_xstart (own := RX6) (lv := [(0, fO α (some 0)), (1, .int a1)]) (by decide) rfl rfl (by simp only [lgl_O, lgl_I, lgl_J, lgl_N]; decide) (by simp only [lva_O, lva_I, lva_J, lva_N]) ?_
  intro p e s m below meth c hsz hC hr hlk htab hX
  generalize hA : va_A (wl dA (Fc ++ L) α σ) sz = A at hC hX ⊢
  have hA := hA.symm
  generalize hargs : ([fO α (some 0), .int a1] : List Value).toArray = args at hC ⊢
  generalize hQ : vx_MQ below _ _ args s 16 2000 A = Q
  unfold wp_X6_owed at h
  refine r_iload_n hC dX6_owed_0 rfl 1 rfl ?_
  refine r_calli hC [] (m_runS (n := 1) hC [.int a1] [] (fun sz => cm_X6_isOwner l dC dI dA L α σ a1 _ h sz) gX6_owed_X6_isOwner rfl ⟨rfl, rfl⟩ (by decide +kernel) ⟨Nat.le_of_ble_eq_true rfl, Nat.le_of_ble_eq_true rfl⟩ rfl (Nat.le_of_ble_eq_true rfl) (by decide) dX6_owed_1) (fun x2 σ1 hn => ?_)
  clear h
  revert hn
  intro h
  refine r_if_ne (tgt := 17) hC dX6_owed_4 (by decide) (fun q => ?_) (fun q => ?_)
  · replace h := h.1 q
    refine r_aload_n hC dX6_owed_17 rfl 0 rfl ?_
    refine r_callv hC [] (m_runV (n := 0) (ci := 6) hC [] [] (fun sz => cm_X6_settle l dC dI dA L α σ1  _ h sz) gX6_owed_X6_settle rfl ⟨rfl, rfl⟩ (by decide +kernel) ⟨Nat.le_of_ble_eq_true rfl, Nat.le_of_ble_eq_true rfl⟩ fx_0 (ct_6 rfl) rfl rfl (Nat.le_of_ble_eq_true rfl) (by decide) dX6_owed_18) (fun σ3 hn => ?_)
    clear h
    revert hn
    intro h
    refine r_aload_n hC dX6_owed_21 rfl 0 rfl ?_
    refine r_iload_n hC dX6_owed_22 rfl 1 rfl ?_
    refine r_calll hC [] (m_runV (n := 1) (ci := 6) hC [.int a1] [] (fun sz => cm_X6_settledOwed l dC dI dA L α σ3 a1 _ h sz) gX6_owed_X6_settledOwed rfl ⟨rfl, rfl⟩ (by decide +kernel) ⟨Nat.le_of_ble_eq_true rfl, Nat.le_of_ble_eq_true rfl⟩ fx_0 (ct_6 rfl) rfl rfl (Nat.le_of_ble_eq_true rfl) (by decide) dX6_owed_23) (fun y5 σ4 hn => ?_)
    clear h
    revert hn
    intro h
    subst hQ
    exact r_xlret hC hA hr hlk (fun _ _ => rfl) (by decide) dX6_owed_26 h
  · replace h := h.2 q
    subst hQ
    exact r_throw (ik := 109) (is := 111) (ic := 113) (en := 1) (tx := "no such owner") hC hlf hX hA (by decide +kernel) kX6_owed_0 kX6_owed_1 (by decide +kernel) kX6_owed_2 xh_113_1 xgd_113_1 dX6_owed_7 dX6_owed_10 dX6_owed_11 dX6_owed_13 dX6_owed_16 htab (by decide) hlk (by decide) h
theorem kX6_paid_0 : ∀ w ∈ u_ws RX6 TX6 20, w ∈ wsX6_paid := by decide +kernel
theorem kX6_paid_1 : (Cond.fieldLink RX6 71 "Divisionorder" "paidCents" "[J") ∈ wsX6_paid := by decide +kernel
theorem kX6_paid_2 : (Cond.classLink RX6 109 "java/lang/IndexOutOfBoundsException") ∈ wsX6_paid := by decide +kernel
theorem kX6_paid_3 : (Cond.initialized "java/lang/IndexOutOfBoundsException") ∈ wsX6_paid := by decide +kernel
theorem kX6_paid_4 : ∀ w ∈ (vx_atS RX6 113 (xN 1) xUp).filter goodWord, w ∈ wsX6_paid := by decide +kernel
set_option maxHeartbeats 4000000 in
set_option maxRecDepth 100000 in
theorem cm_X6_paid (l : Launch) (hlf : l.stackTraces = false) (dC : Nat → ClassId) (dI : Nat → Nat → Nat) (dA : Nat → ClassId) (L : List Nat) (α : Nat → Nat) (σ : Mm) (a1 : Int32) (Qm : Int64 → Mm → List Nat → Prop) (Xm : Nat → Mm → List Nat → Prop) (h : wp_X6_paid L σ a1 Qm Xm) (sz : Nat) : vx_Met l yX6_paid wsX6_paid ({ frames := 6, cells := 16, slots := 2000, locals := 90 } : Room) (xP dC dI dA L α σ sz [fO α (some 0), .int a1]) (va_Ql (fun r u => Qm r u.1 u.2) (cX dC dI dA L α (wl dA (Fc ++ L) α σ) sz) (va_A (wl dA (Fc ++ L) α σ) sz)) (xXC dC dI dA L α (wl dA (Fc ++ L) α σ) sz Xm) 16 2000 (va_A (wl dA (Fc ++ L) α σ) sz) := by
  refine m_xstart (own := RX6) (lv := [(0, fO α (some 0)), (1, .int a1)]) (by decide) rfl rfl (by simp only [lgl_O, lgl_I, lgl_J, lgl_N]; decide) (by simp only [lva_O, lva_I, lva_J, lva_N]) ?_
  intro p e s m below meth c hsz hC hr hlk htab hX
  generalize hA : va_A (wl dA (Fc ++ L) α σ) sz = A at hC hX ⊢
  have hA := hA.symm
  generalize hargs : ([fO α (some 0), .int a1] : List Value).toArray = args at hC ⊢
  generalize hQ : vx_MQ below _ _ args s 16 2000 A = Q
  unfold wp_X6_paid at h
  refine r_iload_n hC dX6_paid_0 rfl 1 rfl ?_
  refine r_calli hC [] (m_runS (n := 1) hC [.int a1] [] (fun sz => cm_X6_isOwner l dC dI dA L α σ a1 _ h sz) gX6_paid_X6_isOwner rfl ⟨rfl, rfl⟩ (by decide +kernel) ⟨Nat.le_of_ble_eq_true rfl, Nat.le_of_ble_eq_true rfl⟩ rfl (Nat.le_of_ble_eq_true rfl) (by decide) dX6_paid_1) (fun x2 σ1 hn => ?_)
  clear h
  revert hn
  intro h
  refine r_if_ne (tgt := 17) hC dX6_paid_4 (by decide) (fun q => ?_) (fun q => ?_)
  · replace h := h.1 q
    refine r_aload_n hC dX6_paid_17 rfl 0 rfl ?_
    refine r_get (ci := 6) (f := 15) (v := fO α (some 7)) hC kX6_paid_0 rfl (by decide) rfl kX6_paid_1 fx_0 (ct_6 rfl) rfl dX6_paid_18 ?_
    refine r_iload_n hC dX6_paid_21 rfl 1 rfl ?_
    obtain ⟨c3, h⟩ := h
    refine r_lald hC fx_7 rfl c3 dX6_paid_22 ?_
    subst hQ
    exact r_xlret hC hA hr hlk (fun _ _ => rfl) (by decide) dX6_paid_23 h
  · replace h := h.2 q
    subst hQ
    exact r_throw (ik := 109) (is := 111) (ic := 113) (en := 1) (tx := "no such owner") hC hlf hX hA (by decide +kernel) kX6_paid_2 kX6_paid_3 (by decide +kernel) kX6_paid_4 xh_113_1 xgd_113_1 dX6_paid_7 dX6_paid_10 dX6_paid_11 dX6_paid_13 dX6_paid_16 htab (by decide) hlk (by decide) h
