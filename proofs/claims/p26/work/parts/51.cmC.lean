theorem kX0_init_0 : (Cond.methodLink RX0 1 objectInit) ∈ wsX0_init := by decide +kernel
theorem kX0_init_1 : (Cond.instanceMethod objectInit) ∈ wsX0_init := by decide +kernel
theorem kX0_init_2 : (Cond.code objectInit ⟨#[0xb1]⟩ 1 none) ∈ wsX0_init := by decide +kernel
theorem kX0_init_3 : ∀ w ∈ u_ws RX0 TX0 5, w ∈ wsX0_init := by decide +kernel
theorem kX0_init_4 : (Cond.fieldLink RX0 7 "Divisionorder$Deed" "tract" "LDivisionorder$Tract;") ∈ wsX0_init := by decide +kernel
theorem kX0_init_5 : (Cond.fieldLink RX0 13 "Divisionorder$Deed" "from" "I") ∈ wsX0_init := by decide +kernel
theorem kX0_init_6 : (Cond.fieldLink RX0 17 "Divisionorder$Deed" "to" "I") ∈ wsX0_init := by decide +kernel
theorem kX0_init_7 : (Cond.fieldLink RX0 20 "Divisionorder$Deed" "parts" "I") ∈ wsX0_init := by decide +kernel
theorem kX0_init_8 : (Cond.fieldLink RX0 23 "Divisionorder$Deed" "month" "I") ∈ wsX0_init := by decide +kernel
set_option maxHeartbeats 4000000 in
set_option maxRecDepth 100000 in
theorem cm_X0_init (l : Launch) (dC : Nat → ClassId) (dI : Nat → Nat → Nat) (dA : Nat → ClassId) (L : List Nat) (α : Nat → Nat) (σ : Mm) (k0 : Nat) (a1 : Option Nat) (a2 : Int32) (a3 : Int32) (a4 : Int32) (a5 : Int32) (Qm : Mm → Prop) (h : wp_X0_init L σ k0 a1 a2 a3 a4 a5 Qm) (sz : Nat) : Met l yX0_init wsX0_init ({ frames := 1, cells := 0, slots := 0, locals := 20 } : Room) (cP dC dI dA (Fc ++ L) α σ sz [fO α (some k0), fO α a1, .int a2, .int a3, .int a4, .int a5]) (va_Qv Qm (cB dC dI dA (Fc ++ L) α (wl dA (Fc ++ L) α σ) sz) (va_A (wl dA (Fc ++ L) α σ) sz)) 0 0 (va_A (wl dA (Fc ++ L) α σ) sz) := by
  refine m_startI (own := RX0) (lv := [(0, fO α (some k0)), (1, fO α a1), (2, .int a2), (3, .int a3), (4, .int a4), (5, .int a5)]) (by decide) rfl rfl (by simp only [lgl_O, lgl_I, lgl_J, lgl_N]; decide) (by simp only [lva_O, lva_I, lva_J, lva_N]) ?_
  intro p e s m below meth c hsz hC hr hlk hmn
  generalize hA : va_A (wl dA (Fc ++ L) α σ) sz = A at hC ⊢
  have hA := hA.symm
  generalize hargs : ([fO α (some k0), fO α a1, .int a2, .int a3, .int a4, .int a5] : List Value).toArray = args at hC ⊢
  generalize hQ : MQ below _ args s 0 0 A = Q
  unfold wp_X0_init at h
  refine r_aload_n hC dX0_init_0 rfl 0 rfl ?_
  refine r_objinit hC kX0_init_0 kX0_init_1 kX0_init_2 ⟨Nat.le_of_ble_eq_true rfl, Nat.le_of_ble_eq_true rfl⟩ dX0_init_1 ?_
  refine r_aload_n hC dX0_init_4 rfl 0 rfl ?_
  refine r_aload_n hC dX0_init_5 rfl 1 rfl ?_
  obtain ⟨v1, h⟩ := h
  refine r_putF (ci := 0) (f := 0) (v := fO α a1) (σ' := sR σ k0 0 a1) hC kX0_init_3 tyX0 tyX0_ok nmX0 rfl (by decide) rfl hmn rfl kX0_init_4 v1.1 (ct_0 v1.2) (fO_nar "Divisionorder$Tract") (fO_fit "Divisionorder$Tract") (Nat.le_of_ble_eq_true rfl) (pt_0_0 v1.2) ct_sR dX0_init_6 ?_
  refine r_topm (fun σ2 qσ2 => ?_)
  replace h := h σ2 qσ2
  refine r_aload_n hC dX0_init_9 rfl 0 rfl ?_
  refine r_iload_n hC dX0_init_10 rfl 2 rfl ?_
  refine r_putF (ci := 0) (f := 1) (v := .int a2) (σ' := sI σ2 k0 1 a2) hC kX0_init_3 tyX0 tyX0_ok nmX0 rfl (by decide) rfl hmn rfl kX0_init_5 v1.1 (ct_0 v1.2) rfl rfl (Nat.le_of_ble_eq_true rfl) (pt_0_1 v1.2) ct_sI dX0_init_11 ?_
  refine r_topm (fun σ3 qσ3 => ?_)
  replace h := h σ3 qσ3
  refine r_aload_n hC dX0_init_14 rfl 0 rfl ?_
  refine r_iload_n hC dX0_init_15 rfl 3 rfl ?_
  refine r_putF (ci := 0) (f := 2) (v := .int a3) (σ' := sI σ3 k0 2 a3) hC kX0_init_3 tyX0 tyX0_ok nmX0 rfl (by decide) rfl hmn rfl kX0_init_6 v1.1 (ct_0 v1.2) rfl rfl (Nat.le_of_ble_eq_true rfl) (pt_0_2 v1.2) ct_sI dX0_init_16 ?_
  refine r_topm (fun σ4 qσ4 => ?_)
  replace h := h σ4 qσ4
  refine r_aload_n hC dX0_init_19 rfl 0 rfl ?_
  refine r_iload hC dX0_init_20 4 rfl ?_
  refine r_putF (ci := 0) (f := 3) (v := .int a4) (σ' := sI σ4 k0 3 a4) hC kX0_init_3 tyX0 tyX0_ok nmX0 rfl (by decide) rfl hmn rfl kX0_init_7 v1.1 (ct_0 v1.2) rfl rfl (Nat.le_of_ble_eq_true rfl) (pt_0_3 v1.2) ct_sI dX0_init_22 ?_
  refine r_topm (fun σ5 qσ5 => ?_)
  replace h := h σ5 qσ5
  refine r_aload_n hC dX0_init_25 rfl 0 rfl ?_
  refine r_iload hC dX0_init_26 5 rfl ?_
  refine r_putF (ci := 0) (f := 4) (v := .int a5) (σ' := sI σ5 k0 4 a5) hC kX0_init_3 tyX0 tyX0_ok nmX0 rfl (by decide) rfl hmn rfl kX0_init_8 v1.1 (ct_0 v1.2) rfl rfl (Nat.le_of_ble_eq_true rfl) (pt_0_4 v1.2) ct_sI dX0_init_28 ?_
  refine r_topm (fun σ6 qσ6 => ?_)
  replace h := h σ6 qσ6
  subst hQ
  exact r_vret hC hA hr hlk dX0_init_31 h
theorem kX1_init_0 : (Cond.methodLink RX1 3 objectInit) ∈ wsX1_init := by decide +kernel
theorem kX1_init_1 : (Cond.instanceMethod objectInit) ∈ wsX1_init := by decide +kernel
theorem kX1_init_2 : (Cond.code objectInit ⟨#[0xb1]⟩ 1 none) ∈ wsX1_init := by decide +kernel
theorem kX1_init_3 : ∀ w ∈ u_ws RX1 TX1 6, w ∈ wsX1_init := by decide +kernel
theorem kX1_init_4 : (Cond.fieldLink RX1 9 "Divisionorder$Lease" "firstMonth" "I") ∈ wsX1_init := by decide +kernel
theorem kX1_init_5 : (Cond.fieldLink RX1 15 "Divisionorder$Lease" "lastOfTerm" "I") ∈ wsX1_init := by decide +kernel
theorem kX1_init_6 : (Cond.fieldLink RX1 18 "Divisionorder$Lease" "tract" "LDivisionorder$Tract;") ∈ wsX1_init := by decide +kernel
theorem kX1_init_7 : (Cond.fieldLink RX1 22 "Divisionorder$Lease" "lessor" "I") ∈ wsX1_init := by decide +kernel
theorem kX1_init_8 : (Cond.fieldLink RX1 25 "Divisionorder$Lease" "lessee" "I") ∈ wsX1_init := by decide +kernel
theorem kX1_init_9 : (Cond.fieldLink RX1 28 "Divisionorder$Lease" "royalty" "I") ∈ wsX1_init := by decide +kernel
set_option maxHeartbeats 4000000 in
set_option maxRecDepth 100000 in
theorem cm_X1_init (l : Launch) (dC : Nat → ClassId) (dI : Nat → Nat → Nat) (dA : Nat → ClassId) (L : List Nat) (α : Nat → Nat) (σ : Mm) (k0 : Nat) (a1 : Option Nat) (a2 : Int32) (a3 : Int32) (a4 : Int32) (Qm : Mm → Prop) (h : wp_X1_init L σ k0 a1 a2 a3 a4 Qm) (sz : Nat) : Met l yX1_init wsX1_init ({ frames := 1, cells := 0, slots := 0, locals := 20 } : Room) (cP dC dI dA (Fc ++ L) α σ sz [fO α (some k0), fO α a1, .int a2, .int a3, .int a4]) (va_Qv Qm (cB dC dI dA (Fc ++ L) α (wl dA (Fc ++ L) α σ) sz) (va_A (wl dA (Fc ++ L) α σ) sz)) 0 0 (va_A (wl dA (Fc ++ L) α σ) sz) := by
  refine m_startI (own := RX1) (lv := [(0, fO α (some k0)), (1, fO α a1), (2, .int a2), (3, .int a3), (4, .int a4)]) (by decide) rfl rfl (by simp only [lgl_O, lgl_I, lgl_J, lgl_N]; decide) (by simp only [lva_O, lva_I, lva_J, lva_N]) ?_
  intro p e s m below meth c hsz hC hr hlk hmn
  generalize hA : va_A (wl dA (Fc ++ L) α σ) sz = A at hC ⊢
  have hA := hA.symm
  generalize hargs : ([fO α (some k0), fO α a1, .int a2, .int a3, .int a4] : List Value).toArray = args at hC ⊢
  generalize hQ : MQ below _ args s 0 0 A = Q
  unfold wp_X1_init at h
  refine r_aload_n hC dX1_init_0 rfl 0 rfl ?_
  refine r_objinit hC kX1_init_0 kX1_init_1 kX1_init_2 ⟨Nat.le_of_ble_eq_true rfl, Nat.le_of_ble_eq_true rfl⟩ dX1_init_1 ?_
  refine r_aload_n hC dX1_init_4 rfl 0 rfl ?_
  refine r_iconst (v := 0) hC dX1_init_5 (by decide) ?_
  obtain ⟨v1, h⟩ := h
  refine r_put (ci := 1) (f := 4) (v := .int 0) (σ' := sI σ k0 4 0) hC kX1_init_3 tyX1 tyX1_ok nmX1 rfl (by decide) rfl kX1_init_4 v1.1 (ct_1 v1.2) rfl rfl (Nat.le_of_ble_eq_true rfl) (pt_1_4 v1.2) ct_sI dX1_init_6 ?_
  refine r_topm (fun σ2 qσ2 => ?_)
  replace h := h σ2 qσ2
  refine r_aload_n hC dX1_init_9 rfl 0 rfl ?_
  refine r_iconst (v := 0) hC dX1_init_10 (by decide) ?_
  refine r_put (ci := 1) (f := 5) (v := .int 0) (σ' := sI σ2 k0 5 0) hC kX1_init_3 tyX1 tyX1_ok nmX1 rfl (by decide) rfl kX1_init_5 v1.1 (ct_1 v1.2) rfl rfl (Nat.le_of_ble_eq_true rfl) (pt_1_5 v1.2) ct_sI dX1_init_11 ?_
  refine r_topm (fun σ3 qσ3 => ?_)
  replace h := h σ3 qσ3
  refine r_aload_n hC dX1_init_14 rfl 0 rfl ?_
  refine r_aload_n hC dX1_init_15 rfl 1 rfl ?_
  refine r_putF (ci := 1) (f := 0) (v := fO α a1) (σ' := sR σ3 k0 0 a1) hC kX1_init_3 tyX1 tyX1_ok nmX1 rfl (by decide) rfl hmn rfl kX1_init_6 v1.1 (ct_1 v1.2) (fO_nar "Divisionorder$Tract") (fO_fit "Divisionorder$Tract") (Nat.le_of_ble_eq_true rfl) (pt_1_0 v1.2) ct_sR dX1_init_16 ?_
  refine r_topm (fun σ4 qσ4 => ?_)
  replace h := h σ4 qσ4
  refine r_aload_n hC dX1_init_19 rfl 0 rfl ?_
  refine r_iload_n hC dX1_init_20 rfl 2 rfl ?_
  refine r_putF (ci := 1) (f := 1) (v := .int a2) (σ' := sI σ4 k0 1 a2) hC kX1_init_3 tyX1 tyX1_ok nmX1 rfl (by decide) rfl hmn rfl kX1_init_7 v1.1 (ct_1 v1.2) rfl rfl (Nat.le_of_ble_eq_true rfl) (pt_1_1 v1.2) ct_sI dX1_init_21 ?_
  refine r_topm (fun σ5 qσ5 => ?_)
  replace h := h σ5 qσ5
  refine r_aload_n hC dX1_init_24 rfl 0 rfl ?_
  refine r_iload_n hC dX1_init_25 rfl 3 rfl ?_
  refine r_putF (ci := 1) (f := 2) (v := .int a3) (σ' := sI σ5 k0 2 a3) hC kX1_init_3 tyX1 tyX1_ok nmX1 rfl (by decide) rfl hmn rfl kX1_init_8 v1.1 (ct_1 v1.2) rfl rfl (Nat.le_of_ble_eq_true rfl) (pt_1_2 v1.2) ct_sI dX1_init_26 ?_
  refine r_topm (fun σ6 qσ6 => ?_)
  replace h := h σ6 qσ6
  refine r_aload_n hC dX1_init_29 rfl 0 rfl ?_
  refine r_iload hC dX1_init_30 4 rfl ?_
  refine r_putF (ci := 1) (f := 3) (v := .int a4) (σ' := sI σ6 k0 3 a4) hC kX1_init_3 tyX1 tyX1_ok nmX1 rfl (by decide) rfl hmn rfl kX1_init_9 v1.1 (ct_1 v1.2) rfl rfl (Nat.le_of_ble_eq_true rfl) (pt_1_3 v1.2) ct_sI dX1_init_32 ?_
  refine r_topm (fun σ7 qσ7 => ?_)
  replace h := h σ7 qσ7
  subst hQ
  exact r_vret hC hA hr hlk dX1_init_35 h
theorem kX1_isInForce_0 : ∀ w ∈ u_ws RX1 TX1 6, w ∈ wsX1_isInForce := by decide +kernel
theorem kX1_isInForce_1 : (Cond.fieldLink RX1 9 "Divisionorder$Lease" "firstMonth" "I") ∈ wsX1_isInForce := by decide +kernel
theorem kX1_isInForce_2 : (Cond.fieldLink RX1 18 "Divisionorder$Lease" "tract" "LDivisionorder$Tract;") ∈ wsX1_isInForce := by decide +kernel
theorem kX1_isInForce_3 : ∀ w ∈ u_ws RX3 TX3 3, w ∈ wsX1_isInForce := by decide +kernel
theorem kX1_isInForce_4 : (Cond.fieldLink RX1 31 "Divisionorder$Tract" "unit" "LDivisionorder$Unit;") ∈ wsX1_isInForce := by decide +kernel
theorem kX1_isInForce_5 : (Cond.fieldLink RX1 15 "Divisionorder$Lease" "lastOfTerm" "I") ∈ wsX1_isInForce := by decide +kernel
theorem kX1_isInForce_6 : ∀ w ∈ u_ws RX4 TX4 7, w ∈ wsX1_isInForce := by decide +kernel
theorem kX1_isInForce_7 : (Cond.fieldLink RX1 37 "Divisionorder$Unit" "barrels" "[I") ∈ wsX1_isInForce := by decide +kernel
set_option maxHeartbeats 4000000 in
set_option maxRecDepth 100000 in
theorem cm_X1_isInForce (l : Launch) (dC : Nat → ClassId) (dI : Nat → Nat → Nat) (dA : Nat → ClassId) (L : List Nat) (α : Nat → Nat) (σ : Mm) (k0 : Nat) (a1 : Int32) (Qm : Int32 → Mm → Prop) (h : wp_X1_isInForce L σ k0 a1 Qm) (sz : Nat) : Met l yX1_isInForce wsX1_isInForce ({ frames := 0, cells := 0, slots := 0, locals := 0 } : Room) (cP dC dI dA (Fc ++ L) α σ sz [fO α (some k0), .int a1]) (va_Qi Qm (cB dC dI dA (Fc ++ L) α (wl dA (Fc ++ L) α σ) sz) (va_A (wl dA (Fc ++ L) α σ) sz)) 0 0 (va_A (wl dA (Fc ++ L) α σ) sz) := by
  refine m_start (own := RX1) (lv := [(0, fO α (some k0)), (1, .int a1)]) (by decide) rfl rfl (by simp only [lgl_O, lgl_I, lgl_J, lgl_N]; decide) (by simp only [lva_O, lva_I, lva_J, lva_N]) ?_
  intro p e s m below meth c hsz hC hr hlk
  generalize hA : va_A (wl dA (Fc ++ L) α σ) sz = A at hC ⊢
  have hA := hA.symm
  generalize hargs : ([fO α (some k0), .int a1] : List Value).toArray = args at hC ⊢
  generalize hQ : MQ below _ args s 0 0 A = Q
  unfold wp_X1_isInForce at h
  refine r_iload_n hC dX1_isInForce_0 rfl 1 rfl ?_
  refine r_aload_n hC dX1_isInForce_1 rfl 0 rfl ?_
  obtain ⟨v1, h⟩ := h
  refine r_get (ci := 1) (f := 4) (v := .int (gI σ k0 4)) hC kX1_isInForce_0 rfl (by decide) rfl kX1_isInForce_1 v1.1 (ct_1 v1.2) rfl dX1_isInForce_2 ?_
  refine r_icmp_ge (tgt := 10) hC dX1_isInForce_5 (by decide) (fun q => ?_) (fun q => ?_)
  · replace h := h.1 q
    refine r_aload_n hC dX1_isInForce_10 rfl 0 rfl ?_
    refine r_get (ci := 1) (f := 0) (v := fO α (gR σ k0 0)) hC kX1_isInForce_0 rfl (by decide) rfl kX1_isInForce_2 v1.1 (ct_1 v1.2) rfl dX1_isInForce_11 ?_
    refine r_topo (fun o2 qo2 => ?_)
    replace h := h o2 qo2
    obtain ⟨k3, e4, h⟩ := h
    subst e4
    obtain ⟨v5, h⟩ := h
    refine r_get (ci := 3) (f := 2) (v := fO α (gR σ k3 2)) hC kX1_isInForce_3 rfl (by decide) rfl kX1_isInForce_4 v5.1 (ct_3 v5.2) rfl dX1_isInForce_14 ?_
    refine r_topo (fun o6 qo6 => ?_)
    replace h := h o6 qo6
    refine r_astore_n (lv' := [(2, fO α o6), (0, fO α (some k0)), (1, .int a1)]) hC dX1_isInForce_17 rfl (by decide) rfl ?_
    refine r_aload_n hC dX1_isInForce_18 rfl 0 rfl ?_
    refine r_ifnonnull (tgt := 36) hC dX1_isInForce_19 (by decide) (fun k7 q => ?_) (fun q => ?_)
    · replace h := h.2 k7 q
      subst q
      refine r_aload_n hC dX1_isInForce_36 rfl 1 rfl ?_
      refine r_get (ci := 1) (f := 5) (v := .int (gI σ k0 5)) hC kX1_isInForce_0 rfl (by decide) rfl kX1_isInForce_5 v1.1 (ct_1 v1.2) rfl dX1_isInForce_37 ?_
      refine r_topi (fun x10 qx10 => ?_)
      replace h := h x10 qx10
      refine r_istore_n (lv' := [(3, .int x10), (2, fO α (some k7)), (0, fO α (some k0)), (1, .int a1)]) hC dX1_isInForce_40 rfl (by decide) rfl ?_
      refine r_lvs [3, 1, 0] rfl ?_
      obtain ⟨n, h⟩ := h
      refine lpw_ind (S := Int32) (fun s13 => G p l e ({ frames := 0, cells := 0, slots := 0, locals := 0 } : Room) s m args below meth c 0 0 Q dC dI dA (Fc ++ L) α A 4 σ 41 [(1, .int a1), (2, fO α (some k7)), (3, .int s13)] []) ?_ n x10 h
      clear h
      intro R12 hR12 x11 h
      refine r_iload_n hC dX1_isInForce_41 rfl 2 rfl ?_
      refine r_iload_n hC dX1_isInForce_42 rfl 0 rfl ?_
      obtain ⟨J14, hJ14, h⟩ := h
      have KJ14 : J14 → G p l e ({ frames := 0, cells := 0, slots := 0, locals := 0 } : Room) s m args below meth c 0 0 Q dC dI dA (Fc ++ L) α A 4 σ 69 [] [] := by
        clear h
        intro h
        replace h := hJ14 h
        refine r_iconst (v := 1) hC dX1_isInForce_69 (by decide) ?_
        subst hQ
        exact r_zret hC hA hr hlk dX1_isInForce_70 (show zb 1 from rfl) h
      refine r_icmp_ge (tgt := 69) hC dX1_isInForce_43 (by decide) (fun q => ?_) (fun q => ?_)
      · replace h := h.1 q
        refine r_lvs [] rfl ?_
        exact KJ14 h
      · replace h := h.2 q
        refine r_iload_n hC dX1_isInForce_46 rfl 2 rfl ?_
        refine r_bipush (v := 61) hC dX1_isInForce_47 (by decide) ?_
        refine r_icmp_ge (tgt := 69) hC dX1_isInForce_49 (by decide) (fun q => ?_) (fun q => ?_)
        · replace h := h.1 q
          refine r_lvs [] rfl ?_
          exact KJ14 h
        · replace h := h.2 q
          refine r_aload_n hC dX1_isInForce_52 rfl 1 rfl ?_
          obtain ⟨v15, h⟩ := h
          refine r_get (ci := 4) (f := 2) (v := fO α (some (k7 + 2))) hC kX1_isInForce_6 rfl (by decide) rfl kX1_isInForce_7 v15.1 (ct_4 v15.2) rfl dX1_isInForce_53 ?_
          refine r_iload_n hC dX1_isInForce_56 rfl 2 rfl ?_
          obtain ⟨v16, h⟩ := h
          obtain ⟨c17, h⟩ := h
          refine r_iald hC v16.1 v16.2 c17 dX1_isInForce_57 ?_
          refine r_if_ne (tgt := 63) hC dX1_isInForce_58 (by decide) (fun q => ?_) (fun q => ?_)
          · replace h := h.1 q
            obtain ⟨x18, qx18⟩ : ∃ z : Int32, z = x11 + 1 := ⟨_, rfl⟩
            replace h := h x18 qx18
            refine r_iinc (v := x18) (lv' := [(3, .int x18), (1, .int a1), (2, fO α (some k7))]) hC dX1_isInForce_63 (k := 2) rfl (by rw [qx18]; rfl) (by decide) rfl ?_
            refine r_goto (tgt := 41) hC dX1_isInForce_66 (by decide) ?_
            refine r_lvs [1, 2, 0] rfl ?_
            exact hR12 _ h
          · replace h := h.2 q
            refine r_iconst (v := 0) hC dX1_isInForce_61 (by decide) ?_
            subst hQ
            exact r_zret hC hA hr hlk dX1_isInForce_62 (show zb 0 from rfl) h
    · replace h := h.1 q
      subst q
      refine r_iload_n hC dX1_isInForce_22 rfl 2 rfl ?_
      refine r_aload_n hC dX1_isInForce_23 rfl 1 rfl ?_
      refine r_get (ci := 1) (f := 5) (v := .int (gI σ k0 5)) hC kX1_isInForce_0 rfl (by decide) rfl kX1_isInForce_5 v1.1 (ct_1 v1.2) rfl dX1_isInForce_24 ?_
      obtain ⟨J9, hJ9, h⟩ := h
      have KJ9 : ∀ (x8 : Int32), J9 x8 → G p l e ({ frames := 0, cells := 0, slots := 0, locals := 0 } : Room) s m args below meth c 0 0 Q dC dI dA (Fc ++ L) α A 4 σ 35 [] [.int x8] := by
        clear h
        intro x8 h
        replace h := hJ9 x8 h
        subst hQ
        exact r_zret hC hA hr hlk dX1_isInForce_35 h.1 h.2
      refine r_icmp_gt (tgt := 34) hC dX1_isInForce_27 (by decide) (fun q => ?_) (fun q => ?_)
      · replace h := h.1 q
        refine r_iconst (v := 0) hC dX1_isInForce_34 (by decide) ?_
        refine r_lvs [] rfl ?_
        exact KJ9 0 h
      · replace h := h.2 q
        refine r_iconst (v := 1) hC dX1_isInForce_30 (by decide) ?_
        refine r_goto (tgt := 35) hC dX1_isInForce_31 (by decide) ?_
        refine r_lvs [] rfl ?_
        exact KJ9 1 h
  · replace h := h.2 q
    refine r_iconst (v := 0) hC dX1_isInForce_8 (by decide) ?_
    subst hQ
    exact r_zret hC hA hr hlk dX1_isInForce_9 (show zb 0 from rfl) h
theorem kX2_clear_0 : ∀ w ∈ u_ws RX2 TX2 3, w ∈ wsX2_clear := by decide +kernel
theorem kX2_clear_1 : (Cond.fieldLink RX2 7 "Divisionorder$Parting" "weights" "[J") ∈ wsX2_clear := by decide +kernel
set_option maxHeartbeats 4000000 in
set_option maxRecDepth 100000 in
theorem cm_X2_clear (l : Launch) (dC : Nat → ClassId) (dI : Nat → Nat → Nat) (dA : Nat → ClassId) (L : List Nat) (α : Nat → Nat) (σ : Mm) (k0 : Nat) (Qm : Mm → Prop) (h : wp_X2_clear L σ k0 Qm) (sz : Nat) : Met l yX2_clear wsX2_clear ({ frames := 0, cells := 0, slots := 0, locals := 0 } : Room) (cP dC dI dA (Fc ++ L) α σ sz [fO α (some k0)]) (va_Qv Qm (cB dC dI dA (Fc ++ L) α (wl dA (Fc ++ L) α σ) sz) (va_A (wl dA (Fc ++ L) α σ) sz)) 0 0 (va_A (wl dA (Fc ++ L) α σ) sz) := by
  refine m_start (own := RX2) (lv := [(0, fO α (some k0))]) (by decide) rfl rfl (by simp only [lgl_O, lgl_I, lgl_J, lgl_N]; decide) (by simp only [lva_O, lva_I, lva_J, lva_N]) ?_
  intro p e s m below meth c hsz hC hr hlk
  generalize hA : va_A (wl dA (Fc ++ L) α σ) sz = A at hC ⊢
  have hA := hA.symm
  generalize hargs : ([fO α (some k0)] : List Value).toArray = args at hC ⊢
  generalize hQ : MQ below _ args s 0 0 A = Q
  unfold wp_X2_clear at h
  refine r_iconst (v := 0) hC dX2_clear_0 (by decide) ?_
  refine r_istore_n (lv' := [(1, .int 0), (0, fO α (some k0))]) hC dX2_clear_1 rfl (by decide) rfl ?_
  refine r_lvs [1, 0] rfl ?_
  obtain ⟨n, h⟩ := h
  refine lpw_ind (S := Mm × Int32) (fun s4 => G p l e ({ frames := 0, cells := 0, slots := 0, locals := 0 } : Room) s m args below meth c 0 0 Q dC dI dA (Fc ++ L) α A 2 s4.1 2 [(0, fO α (some k0)), (1, .int s4.2)] []) ?_ n (σ, 0) h
  clear h
  intro R3 hR3 s4 h
  obtain ⟨σ1, x2⟩ := s4
  refine r_iload_n hC dX2_clear_2 rfl 1 rfl ?_
  refine r_aload_n hC dX2_clear_3 rfl 0 rfl ?_
  obtain ⟨v5, h⟩ := h
  refine r_get (ci := 2) (f := 0) (v := fO α (some (k0 + 1))) hC kX2_clear_0 rfl (by decide) rfl kX2_clear_1 v5.1 (ct_2 v5.2) rfl dX2_clear_4 ?_
  obtain ⟨v6, h⟩ := h
  refine r_alen_9 (v := Int32.ofNat (ln (k0 + 1))) hC v6.1 v6.2 rfl dX2_clear_7 ?_
  refine r_icmp_ge (tgt := 24) hC dX2_clear_8 (by decide) (fun q => ?_) (fun q => ?_)
  · replace h := h.1 q
    subst hQ
    exact r_vret hC hA hr hlk dX2_clear_24 h
  · replace h := h.2 q
    refine r_aload_n hC dX2_clear_11 rfl 0 rfl ?_
    refine r_get (ci := 2) (f := 0) (v := fO α (some (k0 + 1))) hC kX2_clear_0 rfl (by decide) rfl kX2_clear_1 v5.1 (ct_2 v5.2) rfl dX2_clear_12 ?_
    refine r_iload_n hC dX2_clear_15 rfl 1 rfl ?_
    refine r_lconst (v := 0) hC dX2_clear_16 (by decide) ?_
    obtain ⟨c7, h⟩ := h
    refine r_last hC v6.1 v6.2 c7 dX2_clear_17 ?_
    refine r_topm (fun σ8 qσ8 => ?_)
    replace h := h σ8 qσ8
    obtain ⟨x9, qx9⟩ : ∃ z : Int32, z = x2 + 1 := ⟨_, rfl⟩
    replace h := h x9 qx9
    refine r_iinc (v := x9) (lv' := [(1, .int x9), (0, fO α (some k0))]) hC dX2_clear_18 (k := 1) rfl (by rw [qx9]; rfl) (by decide) rfl ?_
    refine r_goto (tgt := 2) hC dX2_clear_21 (by decide) ?_
    refine r_lvs [1, 0] rfl ?_
    exact hR3 _ h
theorem kX2_giveOne_0 : ∀ w ∈ u_ws RX2 TX2 3, w ∈ wsX2_giveOne := by decide +kernel
theorem kX2_giveOne_1 : (Cond.fieldLink RX2 16 "Divisionorder$Parting" "rests" "[J") ∈ wsX2_giveOne := by decide +kernel
theorem kX2_giveOne_2 : (Cond.fieldLink RX2 13 "Divisionorder$Parting" "parts" "[J") ∈ wsX2_giveOne := by decide +kernel
theorem kX2_giveOne_3 : (Cond.constantLong RX2 22 (-1)) ∈ wsX2_giveOne := by decide +kernel
set_option maxHeartbeats 4000000 in
set_option maxRecDepth 100000 in
theorem cm_X2_giveOne (l : Launch) (dC : Nat → ClassId) (dI : Nat → Nat → Nat) (dA : Nat → ClassId) (L : List Nat) (α : Nat → Nat) (σ : Mm) (k0 : Nat) (Qm : Mm → Prop) (h : wp_X2_giveOne L σ k0 Qm) (sz : Nat) : Met l yX2_giveOne wsX2_giveOne ({ frames := 0, cells := 0, slots := 0, locals := 0 } : Room) (cP dC dI dA (Fc ++ L) α σ sz [fO α (some k0)]) (va_Qv Qm (cB dC dI dA (Fc ++ L) α (wl dA (Fc ++ L) α σ) sz) (va_A (wl dA (Fc ++ L) α σ) sz)) 0 0 (va_A (wl dA (Fc ++ L) α σ) sz) := by
  refine m_start (own := RX2) (lv := [(0, fO α (some k0))]) (by decide) rfl rfl (by simp only [lgl_O, lgl_I, lgl_J, lgl_N]; decide) (by simp only [lva_O, lva_I, lva_J, lva_N]) ?_
  intro p e s m below meth c hsz hC hr hlk
  generalize hA : va_A (wl dA (Fc ++ L) α σ) sz = A at hC ⊢
  have hA := hA.symm
  generalize hargs : ([fO α (some k0)] : List Value).toArray = args at hC ⊢
  generalize hQ : MQ below _ args s 0 0 A = Q
  unfold wp_X2_giveOne at h
  refine r_iconst (v := 0) hC dX2_giveOne_0 (by decide) ?_
  refine r_istore_n (lv' := [(1, .int 0), (0, fO α (some k0))]) hC dX2_giveOne_1 rfl (by decide) rfl ?_
  refine r_iconst (v := 1) hC dX2_giveOne_2 (by decide) ?_
  refine r_istore_n (lv' := [(2, .int 1), (1, .int 0), (0, fO α (some k0))]) hC dX2_giveOne_3 rfl (by decide) rfl ?_
  refine r_lvs [2, 1, 0] rfl ?_
  obtain ⟨n, h⟩ := h
  refine lpw_ind (S := Int32 × Int32) (fun s4 => G p l e ({ frames := 0, cells := 0, slots := 0, locals := 0 } : Room) s m args below meth c 0 0 Q dC dI dA (Fc ++ L) α A 3 σ 4 [(0, fO α (some k0)), (1, .int s4.1), (2, .int s4.2)] []) ?_ n (0, 1) h
  clear h
  intro R3 hR3 s4 h
  obtain ⟨x1, x2⟩ := s4
  refine r_iload_n hC dX2_giveOne_4 rfl 2 rfl ?_
  refine r_aload_n hC dX2_giveOne_5 rfl 0 rfl ?_
  obtain ⟨v5, h⟩ := h
  refine r_get (ci := 2) (f := 2) (v := fO α (some (k0 + 3))) hC kX2_giveOne_0 rfl (by decide) rfl kX2_giveOne_1 v5.1 (ct_2 v5.2) rfl dX2_giveOne_6 ?_
  obtain ⟨v6, h⟩ := h
  refine r_alen_9 (v := Int32.ofNat (ln (k0 + 3))) hC v6.1 v6.2 rfl dX2_giveOne_9 ?_
  refine r_icmp_ge (tgt := 37) hC dX2_giveOne_10 (by decide) (fun q => ?_) (fun q => ?_)
  · replace h := h.1 q
    refine r_aload_n hC dX2_giveOne_37 rfl 0 rfl ?_
    refine r_get (ci := 2) (f := 1) (v := fO α (some (k0 + 2))) hC kX2_giveOne_0 rfl (by decide) rfl kX2_giveOne_2 v5.1 (ct_2 v5.2) rfl dX2_giveOne_38 ?_
    refine r_iload_n hC dX2_giveOne_41 rfl 1 rfl ?_
    refine r_dup2 hC rfl fO_cat dX2_giveOne_42 ?_
    obtain ⟨v7, h⟩ := h
    obtain ⟨c8, h⟩ := h
    refine r_lald hC v7.1 v7.2 c8 dX2_giveOne_43 ?_
    refine r_lconst (v := 1) hC dX2_giveOne_44 (by decide) ?_
    refine r_ladd hC dX2_giveOne_45 ?_
    obtain ⟨c9, h⟩ := h
    refine r_last hC v7.1 v7.2 c9 dX2_giveOne_46 ?_
    refine r_topm (fun σ10 qσ10 => ?_)
    replace h := h σ10 qσ10
    refine r_aload_n hC dX2_giveOne_47 rfl 0 rfl ?_
    refine r_get (ci := 2) (f := 2) (v := fO α (some (k0 + 3))) hC kX2_giveOne_0 rfl (by decide) rfl kX2_giveOne_1 v5.1 (ct_2 v5.2) rfl dX2_giveOne_48 ?_
    refine r_iload_n hC dX2_giveOne_51 rfl 1 rfl ?_
    refine r_ldc2 (v := (-1)) hC kX2_giveOne_3 dX2_giveOne_52 ?_
    obtain ⟨c11, h⟩ := h
    refine r_last hC v6.1 v6.2 c11 dX2_giveOne_55 ?_
    refine r_topm (fun σ12 qσ12 => ?_)
    replace h := h σ12 qσ12
    subst hQ
    exact r_vret hC hA hr hlk dX2_giveOne_56 h
  · replace h := h.2 q
    refine r_aload_n hC dX2_giveOne_13 rfl 0 rfl ?_
    refine r_get (ci := 2) (f := 2) (v := fO α (some (k0 + 3))) hC kX2_giveOne_0 rfl (by decide) rfl kX2_giveOne_1 v5.1 (ct_2 v5.2) rfl dX2_giveOne_14 ?_
    refine r_iload_n hC dX2_giveOne_17 rfl 2 rfl ?_
    obtain ⟨c13, h⟩ := h
    refine r_lald hC v6.1 v6.2 c13 dX2_giveOne_18 ?_
    refine r_aload_n hC dX2_giveOne_19 rfl 0 rfl ?_
    refine r_get (ci := 2) (f := 2) (v := fO α (some (k0 + 3))) hC kX2_giveOne_0 rfl (by decide) rfl kX2_giveOne_1 v5.1 (ct_2 v5.2) rfl dX2_giveOne_20 ?_
    refine r_iload_n hC dX2_giveOne_23 rfl 1 rfl ?_
    obtain ⟨c14, h⟩ := h
    refine r_lald hC v6.1 v6.2 c14 dX2_giveOne_24 ?_
    obtain ⟨J16, hJ16, h⟩ := h
    have KJ16 : ∀ (x15 : Int32), J16 x15 → G p l e ({ frames := 0, cells := 0, slots := 0, locals := 0 } : Room) s m args below meth c 0 0 Q dC dI dA (Fc ++ L) α A 3 σ 31 [(0, fO α (some k0)), (1, .int x15), (2, .int x2)] [] := by
      clear h
      intro x15 h
      replace h := hJ16 x15 h
      obtain ⟨x17, qx17⟩ : ∃ z : Int32, z = x2 + 1 := ⟨_, rfl⟩
      replace h := h x17 qx17
      refine r_iinc (v := x17) (lv' := [(2, .int x17), (0, fO α (some k0)), (1, .int x15)]) hC dX2_giveOne_31 (k := 2) rfl (by rw [qx17]; rfl) (by decide) rfl ?_
      refine r_goto (tgt := 4) hC dX2_giveOne_34 (by decide) ?_
      refine r_lvs [1, 2, 0] rfl ?_
      exact hR3 _ h
    refine r_lcmp_le (tgt := 31) hC dX2_giveOne_25 dX2_giveOne_26 (by decide) (fun q => ?_) (fun q => ?_)
    · replace h := h.1 q
      exact KJ16 x1 h
    · replace h := h.2 q
      refine r_iload_n hC dX2_giveOne_29 rfl 2 rfl ?_
      refine r_istore_n (lv' := [(1, .int x2), (0, fO α (some k0)), (2, .int x2)]) hC dX2_giveOne_30 rfl (by decide) rfl ?_
      refine r_lvs [1, 0, 2] rfl ?_
      exact KJ16 x2 h
theorem kX2_partOut_0 : ∀ w ∈ u_ws RX2 TX2 3, w ∈ wsX2_partOut := by decide +kernel
theorem kX2_partOut_1 : (Cond.fieldLink RX2 7 "Divisionorder$Parting" "weights" "[J") ∈ wsX2_partOut := by decide +kernel
theorem kX2_partOut_2 : (Cond.fieldLink RX2 13 "Divisionorder$Parting" "parts" "[J") ∈ wsX2_partOut := by decide +kernel
theorem kX2_partOut_3 : (Cond.fieldLink RX2 16 "Divisionorder$Parting" "rests" "[J") ∈ wsX2_partOut := by decide +kernel
set_option maxHeartbeats 4000000 in
set_option maxRecDepth 100000 in
theorem cm_X2_partOut (l : Launch) (dC : Nat → ClassId) (dI : Nat → Nat → Nat) (dA : Nat → ClassId) (L : List Nat) (α : Nat → Nat) (σ : Mm) (k0 : Nat) (a1 : Int64) (Qm : Mm → Prop) (h : wp_X2_partOut L σ k0 a1 Qm) (sz : Nat) : Met l yX2_partOut wsX2_partOut ({ frames := 1, cells := 0, slots := 0, locals := 22 } : Room) (cP dC dI dA (Fc ++ L) α σ sz [fO α (some k0), .long a1]) (va_Qv Qm (cB dC dI dA (Fc ++ L) α (wl dA (Fc ++ L) α σ) sz) (va_A (wl dA (Fc ++ L) α σ) sz)) 0 0 (va_A (wl dA (Fc ++ L) α σ) sz) := by
  refine m_start (own := RX2) (lv := [(0, fO α (some k0)), (1, .long a1)]) (by decide) rfl rfl (by simp only [lgl_O, lgl_I, lgl_J, lgl_N]; decide) (by simp only [lva_O, lva_I, lva_J, lva_N]) ?_
  intro p e s m below meth c hsz hC hr hlk
  generalize hA : va_A (wl dA (Fc ++ L) α σ) sz = A at hC ⊢
  have hA := hA.symm
  generalize hargs : ([fO α (some k0), .long a1] : List Value).toArray = args at hC ⊢
  generalize hQ : MQ below _ args s 0 0 A = Q
  unfold wp_X2_partOut at h
  refine r_lconst (v := 0) hC dX2_partOut_0 (by decide) ?_
  refine r_lstore_n (lv' := [(3, .long 0), (0, fO α (some k0)), (1, .long a1)]) hC dX2_partOut_1 rfl (by decide) rfl ?_
  refine r_aload_n hC dX2_partOut_2 rfl 1 rfl ?_
  obtain ⟨v1, h⟩ := h
  refine r_get (ci := 2) (f := 0) (v := fO α (some (k0 + 1))) hC kX2_partOut_0 rfl (by decide) rfl kX2_partOut_1 v1.1 (ct_2 v1.2) rfl dX2_partOut_3 ?_
  refine r_astore (lv' := [(5, fO α (some (k0 + 1))), (3, .long 0), (0, fO α (some k0)), (1, .long a1)]) hC dX2_partOut_6 (by decide) rfl ?_
  refine r_aload hC dX2_partOut_8 0 rfl ?_
  obtain ⟨v2, h⟩ := h
  refine r_alen_9 (v := Int32.ofNat (ln (k0 + 1))) hC v2.1 v2.2 rfl dX2_partOut_10 ?_
  refine r_topi (fun x3 qx3 => ?_)
  replace h := h x3 qx3
  refine r_istore (lv' := [(6, .int x3), (5, fO α (some (k0 + 1))), (3, .long 0), (0, fO α (some k0)), (1, .long a1)]) hC dX2_partOut_11 (by decide) rfl ?_
  refine r_iconst (v := 0) hC dX2_partOut_13 (by decide) ?_
  refine r_istore (lv' := [(7, .int 0), (6, .int x3), (5, fO α (some (k0 + 1))), (3, .long 0), (0, fO α (some k0)), (1, .long a1)]) hC dX2_partOut_14 (by decide) rfl ?_
  refine r_lvs [4, 5, 3, 2, 1, 0] rfl ?_
  obtain ⟨n, h⟩ := h
  refine lpw_ind (S := Int64 × Int32) (fun s7 => G p l e ({ frames := 1, cells := 0, slots := 0, locals := 22 } : Room) s m args below meth c 0 0 Q dC dI dA (Fc ++ L) α A 10 σ 16 [(0, fO α (some k0)), (1, .long a1), (3, .long s7.1), (5, fO α (some (k0 + 1))), (6, .int x3), (7, .int s7.2)] []) ?_ n (0, 0) h
  clear h
  intro R6 hR6 s7 h
  obtain ⟨y4, x5⟩ := s7
  refine r_iload hC dX2_partOut_16 5 rfl ?_
  refine r_iload hC dX2_partOut_18 4 rfl ?_
  refine r_icmp_ge (tgt := 41) hC dX2_partOut_20 (by decide) (fun q => ?_) (fun q => ?_)
  · replace h := h.1 q
    refine r_lload_n hC dX2_partOut_41 rfl 1 rfl ?_
    refine r_lstore (lv' := [(5, .long a1), (0, fO α (some k0)), (1, .long a1), (3, .long y4), (7, .int x5)]) hC dX2_partOut_42 (by decide) rfl ?_
    refine r_iconst (v := 0) hC dX2_partOut_44 (by decide) ?_
    refine r_istore (lv' := [(7, .int 0), (5, .long a1), (0, fO α (some k0)), (1, .long a1), (3, .long y4)]) hC dX2_partOut_45 (by decide) rfl ?_
    refine r_lvs [2, 3, 4, 1, 0] rfl ?_
    obtain ⟨n, h⟩ := h
    refine lpw_ind (S := Mm × Int64 × Int32) (fun s12 => G p l e ({ frames := 1, cells := 0, slots := 0, locals := 22 } : Room) s m args below meth c 0 0 Q dC dI dA (Fc ++ L) α A 10 s12.1 47 [(0, fO α (some k0)), (1, .long a1), (3, .long y4), (5, .long s12.2.1), (7, .int s12.2.2)] []) ?_ n (σ, a1, 0) h
    clear h
    intro R11 hR11 s12 h
    obtain ⟨σ8, y9, x10⟩ := s12
    refine r_iload hC dX2_partOut_47 4 rfl ?_
    refine r_aload_n hC dX2_partOut_49 rfl 0 rfl ?_
    refine r_get (ci := 2) (f := 0) (v := fO α (some (k0 + 1))) hC kX2_partOut_0 rfl (by decide) rfl kX2_partOut_1 v1.1 (ct_2 v1.2) rfl dX2_partOut_50 ?_
    refine r_alen_9 (v := Int32.ofNat (ln (k0 + 1))) hC v2.1 v2.2 rfl dX2_partOut_53 ?_
    refine r_icmp_ge (tgt := 128) hC dX2_partOut_54 (by decide) (fun q => ?_) (fun q => ?_)
    · replace h := h.1 q
      refine r_iconst (v := 0) hC dX2_partOut_128 (by decide) ?_
      refine r_istore (lv' := [(7, .int 0), (0, fO α (some k0)), (1, .long a1), (3, .long y4), (5, .long y9)]) hC dX2_partOut_129 (by decide) rfl ?_
      refine r_lvs [1, 4, 0] rfl ?_
      obtain ⟨n, h⟩ := h
      refine lpw_ind (S := Mm × Int32) (fun s16 => G p l e ({ frames := 1, cells := 0, slots := 0, locals := 22 } : Room) s m args below meth c 0 0 Q dC dI dA (Fc ++ L) α A 10 s16.1 131 [(0, fO α (some k0)), (5, .long y9), (7, .int s16.2)] []) ?_ n (σ8, 0) h
      clear h
      intro R15 hR15 s16 h
      obtain ⟨σ13, x14⟩ := s16
      refine r_iload hC dX2_partOut_131 2 rfl ?_
      refine r_i2l hC dX2_partOut_133 ?_
      refine r_lload hC dX2_partOut_134 1 rfl ?_
      obtain ⟨J17, hJ17, h⟩ := h
      have KJ17 : J17 → G p l e ({ frames := 1, cells := 0, slots := 0, locals := 22 } : Room) s m args below meth c 0 0 Q dC dI dA (Fc ++ L) α A 10 σ13 160 [] [] := by
        clear h
        intro h
        replace h := hJ17 h
        subst hQ
        exact r_vret hC hA hr hlk dX2_partOut_160 h
      refine r_lcmp_ge (tgt := 160) hC dX2_partOut_136 dX2_partOut_137 (by decide) (fun q => ?_) (fun q => ?_)
      · replace h := h.1 q
        refine r_lvs [] rfl ?_
        exact KJ17 h
      · replace h := h.2 q
        refine r_iload hC dX2_partOut_140 2 rfl ?_
        refine r_aload_n hC dX2_partOut_142 rfl 0 rfl ?_
        refine r_get (ci := 2) (f := 0) (v := fO α (some (k0 + 1))) hC kX2_partOut_0 rfl (by decide) rfl kX2_partOut_1 v1.1 (ct_2 v1.2) rfl dX2_partOut_143 ?_
        refine r_alen_9 (v := Int32.ofNat (ln (k0 + 1))) hC v2.1 v2.2 rfl dX2_partOut_146 ?_
        refine r_icmp_ge (tgt := 160) hC dX2_partOut_147 (by decide) (fun q => ?_) (fun q => ?_)
        · replace h := h.1 q
          refine r_lvs [] rfl ?_
          exact KJ17 h
        · replace h := h.2 q
          refine r_aload_n hC dX2_partOut_150 rfl 0 rfl ?_
          refine r_callv hC [] (m_runV (n := 0) (ci := 2) hC [] [] (fun sz => cm_X2_giveOne l dC dI dA L α σ13 k0 _ h sz) gX2_partOut_X2_giveOne rfl ⟨rfl, rfl⟩ (by decide +kernel) ⟨Nat.le_of_ble_eq_true rfl, Nat.le_of_ble_eq_true rfl⟩ v1.1 (ct_2 v1.2) rfl rfl (Nat.le_of_ble_eq_true rfl) (by decide) dX2_partOut_151) (fun σ18 hn => ?_)
          clear h
          revert hn
          intro h
          obtain ⟨x19, qx19⟩ : ∃ z : Int32, z = x14 + 1 := ⟨_, rfl⟩
          replace h := h x19 qx19
          refine r_iinc (v := x19) (lv' := [(7, .int x19), (0, fO α (some k0)), (5, .long y9)]) hC dX2_partOut_154 (k := 2) rfl (by rw [qx19]; rfl) (by decide) rfl ?_
          refine r_goto (tgt := 131) hC dX2_partOut_157 (by decide) ?_
          refine r_lvs [1, 2, 0] rfl ?_
          exact hR15 _ h
    · replace h := h.2 q
      refine r_lload_n hC dX2_partOut_57 rfl 1 rfl ?_
      refine r_aload_n hC dX2_partOut_58 rfl 0 rfl ?_
      refine r_get (ci := 2) (f := 0) (v := fO α (some (k0 + 1))) hC kX2_partOut_0 rfl (by decide) rfl kX2_partOut_1 v1.1 (ct_2 v1.2) rfl dX2_partOut_59 ?_
      refine r_iload hC dX2_partOut_62 4 rfl ?_
      obtain ⟨c20, h⟩ := h
      refine r_lald hC v2.1 v2.2 c20 dX2_partOut_64 ?_
      refine r_lmul hC dX2_partOut_65 ?_
      refine r_topl (fun y21 qy21 => ?_)
      replace h := h y21 qy21
      refine r_lstore (lv' := [(8, .long y21), (0, fO α (some k0)), (1, .long a1), (3, .long y4), (5, .long y9), (7, .int x10)]) hC dX2_partOut_66 (by decide) rfl ?_
      refine r_aload_n hC dX2_partOut_68 rfl 1 rfl ?_
      refine r_get (ci := 2) (f := 1) (v := fO α (some (k0 + 2))) hC kX2_partOut_0 rfl (by decide) rfl kX2_partOut_2 v1.1 (ct_2 v1.2) rfl dX2_partOut_69 ?_
      refine r_iload hC dX2_partOut_72 5 rfl ?_
      refine r_lload_n hC dX2_partOut_74 rfl 3 rfl ?_
      refine r_lconst (v := 0) hC dX2_partOut_75 (by decide) ?_
      obtain ⟨J23, hJ23, h⟩ := h
      have KJ23 : ∀ (y22 : Int64), J23 y22 → G p l e ({ frames := 1, cells := 0, slots := 0, locals := 22 } : Room) s m args below meth c 0 0 Q dC dI dA (Fc ++ L) α A 10 σ8 88 [(0, fO α (some k0)), (1, .long a1), (3, .long y4), (5, .long y9), (7, .int x10), (8, .long y21)] [.long y22, .int x10, fO α (some (k0 + 2))] := by
        clear h
        intro y22 h
        replace h := hJ23 y22 h
        obtain ⟨v24, h⟩ := h
        obtain ⟨c25, h⟩ := h
        refine r_last hC v24.1 v24.2 c25 dX2_partOut_88 ?_
        refine r_topm (fun σ26 qσ26 => ?_)
        replace h := h σ26 qσ26
        refine r_aload_n hC dX2_partOut_89 rfl 0 rfl ?_
        refine r_get (ci := 2) (f := 2) (v := fO α (some (k0 + 3))) hC kX2_partOut_0 rfl (by decide) rfl kX2_partOut_3 v1.1 (ct_2 v1.2) rfl dX2_partOut_90 ?_
        refine r_iload hC dX2_partOut_93 4 rfl ?_
        refine r_lload_n hC dX2_partOut_95 rfl 2 rfl ?_
        refine r_lconst (v := 0) hC dX2_partOut_96 (by decide) ?_
        obtain ⟨J28, hJ28, h⟩ := h
        have KJ28 : ∀ (y27 : Int64), J28 y27 → G p l e ({ frames := 1, cells := 0, slots := 0, locals := 22 } : Room) s m args below meth c 0 0 Q dC dI dA (Fc ++ L) α A 10 σ26 109 [(0, fO α (some k0)), (1, .long a1), (3, .long y4), (5, .long y9), (7, .int x10)] [.long y27, .int x10, fO α (some (k0 + 3))] := by
          clear h
          intro y27 h
          replace h := hJ28 y27 h
          obtain ⟨v29, h⟩ := h
          obtain ⟨c30, h⟩ := h
          refine r_last hC v29.1 v29.2 c30 dX2_partOut_109 ?_
          refine r_topm (fun σ31 qσ31 => ?_)
          replace h := h σ31 qσ31
          refine r_lload hC dX2_partOut_110 3 rfl ?_
          refine r_aload_n hC dX2_partOut_112 rfl 0 rfl ?_
          refine r_get (ci := 2) (f := 1) (v := fO α (some (k0 + 2))) hC kX2_partOut_0 rfl (by decide) rfl kX2_partOut_2 v1.1 (ct_2 v1.2) rfl dX2_partOut_113 ?_
          refine r_iload hC dX2_partOut_116 4 rfl ?_
          obtain ⟨c32, h⟩ := h
          refine r_lald hC v24.1 v24.2 c32 dX2_partOut_118 ?_
          refine r_lsub hC dX2_partOut_119 ?_
          refine r_topl (fun y33 qy33 => ?_)
          replace h := h y33 qy33
          refine r_lstore (lv' := [(5, .long y33), (0, fO α (some k0)), (1, .long a1), (3, .long y4), (7, .int x10)]) hC dX2_partOut_120 (by decide) rfl ?_
          obtain ⟨x34, qx34⟩ : ∃ z : Int32, z = x10 + 1 := ⟨_, rfl⟩
          replace h := h x34 qx34
          refine r_iinc (v := x34) (lv' := [(7, .int x34), (5, .long y33), (0, fO α (some k0)), (1, .long a1), (3, .long y4)]) hC dX2_partOut_122 (k := 4) rfl (by rw [qx34]; rfl) (by decide) rfl ?_
          refine r_goto (tgt := 47) hC dX2_partOut_125 (by decide) ?_
          refine r_lvs [2, 3, 4, 1, 0] rfl ?_
          exact hR11 _ h
        refine r_lcmp_le (tgt := 108) hC dX2_partOut_97 dX2_partOut_98 (by decide) (fun q => ?_) (fun q => ?_)
        · replace h := h.1 q
          refine r_lconst (v := 0) hC dX2_partOut_108 (by decide) ?_
          refine r_lvs [0, 1, 2, 3, 4] rfl ?_
          exact KJ28 0 h
        · replace h := h.2 q
          refine r_lload hC dX2_partOut_101 5 rfl ?_
          refine r_lload_n hC dX2_partOut_103 rfl 2 rfl ?_
          obtain ⟨c35, h⟩ := h
          refine r_lrem hC c35 dX2_partOut_104 ?_
          refine r_goto (tgt := 109) hC dX2_partOut_105 (by decide) ?_
          refine r_lvs [0, 1, 2, 3, 4] rfl ?_
          exact KJ28 (y21 - y21 / y4 * y4) h
      refine r_lcmp_le (tgt := 87) hC dX2_partOut_76 dX2_partOut_77 (by decide) (fun q => ?_) (fun q => ?_)
      · replace h := h.1 q
        refine r_lconst (v := 0) hC dX2_partOut_87 (by decide) ?_
        refine r_lvs [1, 2, 3, 4, 5, 0] rfl ?_
        exact KJ23 0 h
      · replace h := h.2 q
        refine r_lload hC dX2_partOut_80 0 rfl ?_
        refine r_lload_n hC dX2_partOut_82 rfl 3 rfl ?_
        obtain ⟨c36, h⟩ := h
        refine r_ldiv hC c36 dX2_partOut_83 ?_
        refine r_goto (tgt := 88) hC dX2_partOut_84 (by decide) ?_
        refine r_lvs [1, 2, 3, 4, 5, 0] rfl ?_
        exact KJ23 (y21 / y4) h
  · replace h := h.2 q
    refine r_aload hC dX2_partOut_23 3 rfl ?_
    refine r_iload hC dX2_partOut_25 5 rfl ?_
    obtain ⟨c37, h⟩ := h
    refine r_lald hC v2.1 v2.2 c37 dX2_partOut_27 ?_
    refine r_topl (fun y38 qy38 => ?_)
    replace h := h y38 qy38
    refine r_lstore (lv' := [(8, .long y38), (0, fO α (some k0)), (1, .long a1), (3, .long y4), (5, fO α (some (k0 + 1))), (6, .int x3), (7, .int x5)]) hC dX2_partOut_28 (by decide) rfl ?_
    refine r_lload_n hC dX2_partOut_30 rfl 3 rfl ?_
    refine r_lload hC dX2_partOut_31 0 rfl ?_
    refine r_ladd hC dX2_partOut_33 ?_
    refine r_topl (fun y39 qy39 => ?_)
    replace h := h y39 qy39
    refine r_lstore_n (lv' := [(3, .long y39), (8, .long y38), (0, fO α (some k0)), (1, .long a1), (5, fO α (some (k0 + 1))), (6, .int x3), (7, .int x5)]) hC dX2_partOut_34 rfl (by decide) rfl ?_
    obtain ⟨x40, qx40⟩ : ∃ z : Int32, z = x5 + 1 := ⟨_, rfl⟩
    replace h := h x40 qx40
    refine r_iinc (v := x40) (lv' := [(7, .int x40), (3, .long y39), (8, .long y38), (0, fO α (some k0)), (1, .long a1), (5, fO α (some (k0 + 1))), (6, .int x3)]) hC dX2_partOut_35 (k := 6) rfl (by rw [qx40]; rfl) (by decide) rfl ?_
    refine r_goto (tgt := 16) hC dX2_partOut_38 (by decide) ?_
    refine r_lvs [3, 4, 1, 5, 6, 0] rfl ?_
    exact hR6 _ h
theorem kX3_init_0 : (Cond.methodLink RX3 1 objectInit) ∈ wsX3_init := by decide +kernel
theorem kX3_init_1 : (Cond.instanceMethod objectInit) ∈ wsX3_init := by decide +kernel
theorem kX3_init_2 : (Cond.code objectInit ⟨#[0xb1]⟩ 1 none) ∈ wsX3_init := by decide +kernel
theorem kX3_init_3 : ∀ w ∈ u_ws RX3 TX3 3, w ∈ wsX3_init := by decide +kernel
theorem kX3_init_4 : (Cond.fieldLink RX3 7 "Divisionorder$Tract" "unit" "LDivisionorder$Unit;") ∈ wsX3_init := by decide +kernel
theorem kX3_init_5 : (Cond.fieldLink RX3 13 "Divisionorder$Tract" "acres" "I") ∈ wsX3_init := by decide +kernel
theorem kX3_init_6 : (Cond.fieldLink RX3 17 "Divisionorder$Tract" "firstOwner" "I") ∈ wsX3_init := by decide +kernel
set_option maxHeartbeats 4000000 in
set_option maxRecDepth 100000 in
theorem cm_X3_init (l : Launch) (dC : Nat → ClassId) (dI : Nat → Nat → Nat) (dA : Nat → ClassId) (L : List Nat) (α : Nat → Nat) (σ : Mm) (k0 : Nat) (a1 : Int32) (a2 : Int32) (Qm : Mm → Prop) (h : wp_X3_init L σ k0 a1 a2 Qm) (sz : Nat) : Met l yX3_init wsX3_init ({ frames := 1, cells := 0, slots := 0, locals := 20 } : Room) (cP dC dI dA (Fc ++ L) α σ sz [fO α (some k0), .int a1, .int a2]) (va_Qv Qm (cB dC dI dA (Fc ++ L) α (wl dA (Fc ++ L) α σ) sz) (va_A (wl dA (Fc ++ L) α σ) sz)) 0 0 (va_A (wl dA (Fc ++ L) α σ) sz) := by
  refine m_startI (own := RX3) (lv := [(0, fO α (some k0)), (1, .int a1), (2, .int a2)]) (by decide) rfl rfl (by simp only [lgl_O, lgl_I, lgl_J, lgl_N]; decide) (by simp only [lva_O, lva_I, lva_J, lva_N]) ?_
  intro p e s m below meth c hsz hC hr hlk hmn
  generalize hA : va_A (wl dA (Fc ++ L) α σ) sz = A at hC ⊢
  have hA := hA.symm
  generalize hargs : ([fO α (some k0), .int a1, .int a2] : List Value).toArray = args at hC ⊢
  generalize hQ : MQ below _ args s 0 0 A = Q
  unfold wp_X3_init at h
  refine r_aload_n hC dX3_init_0 rfl 0 rfl ?_
  refine r_objinit hC kX3_init_0 kX3_init_1 kX3_init_2 ⟨Nat.le_of_ble_eq_true rfl, Nat.le_of_ble_eq_true rfl⟩ dX3_init_1 ?_
  refine r_aload_n hC dX3_init_4 rfl 0 rfl ?_
  refine r_null hC dX3_init_5 ?_
  obtain ⟨v1, h⟩ := h
  refine r_put (ci := 3) (f := 2) (v := fO α none) (σ' := sR σ k0 2 none) hC kX3_init_3 tyX3 tyX3_ok nmX3 rfl (by decide) rfl kX3_init_4 v1.1 (ct_3 v1.2) (fO_nar "Divisionorder$Unit") (fO_fit "Divisionorder$Unit") (Nat.le_of_ble_eq_true rfl) (pt_3_2 v1.2) ct_sR dX3_init_6 ?_
  refine r_topm (fun σ2 qσ2 => ?_)
  replace h := h σ2 qσ2
  refine r_aload_n hC dX3_init_9 rfl 0 rfl ?_
  refine r_iload_n hC dX3_init_10 rfl 1 rfl ?_
  refine r_putF (ci := 3) (f := 0) (v := .int a1) (σ' := sI σ2 k0 0 a1) hC kX3_init_3 tyX3 tyX3_ok nmX3 rfl (by decide) rfl hmn rfl kX3_init_5 v1.1 (ct_3 v1.2) rfl rfl (Nat.le_of_ble_eq_true rfl) (pt_3_0 v1.2) ct_sI dX3_init_11 ?_
  refine r_topm (fun σ3 qσ3 => ?_)
  replace h := h σ3 qσ3
  refine r_aload_n hC dX3_init_14 rfl 0 rfl ?_
  refine r_iload_n hC dX3_init_15 rfl 2 rfl ?_
  refine r_putF (ci := 3) (f := 1) (v := .int a2) (σ' := sI σ3 k0 1 a2) hC kX3_init_3 tyX3 tyX3_ok nmX3 rfl (by decide) rfl hmn rfl kX3_init_6 v1.1 (ct_3 v1.2) rfl rfl (Nat.le_of_ble_eq_true rfl) (pt_3_1 v1.2) ct_sI dX3_init_16 ?_
  refine r_topm (fun σ4 qσ4 => ?_)
  replace h := h σ4 qσ4
  subst hQ
  exact r_vret hC hA hr hlk dX3_init_19 h
theorem kX4_openMonth_0 : ∀ w ∈ u_ws RX4 TX4 7, w ∈ wsX4_openMonth := by decide +kernel
theorem kX4_openMonth_1 : (Cond.fieldLink RX4 24 "Divisionorder$Unit" "dues" "[J") ∈ wsX4_openMonth := by decide +kernel
theorem kX4_openMonth_2 : (Cond.fieldLink RX4 28 "Divisionorder$Unit" "balances" "[J") ∈ wsX4_openMonth := by decide +kernel
theorem kX4_openMonth_3 : (Cond.fieldLink RX4 31 "Divisionorder$Unit" "firstMonth" "I") ∈ wsX4_openMonth := by decide +kernel
set_option maxHeartbeats 4000000 in
set_option maxRecDepth 100000 in
theorem cm_X4_openMonth (l : Launch) (dC : Nat → ClassId) (dI : Nat → Nat → Nat) (dA : Nat → ClassId) (L : List Nat) (α : Nat → Nat) (σ : Mm) (k0 : Nat) (a1 : Int32) (Qm : Mm → Prop) (h : wp_X4_openMonth L σ k0 a1 Qm) (sz : Nat) : Met l yX4_openMonth wsX4_openMonth ({ frames := 0, cells := 0, slots := 0, locals := 0 } : Room) (cP dC dI dA (Fc ++ L) α σ sz [fO α (some k0), .int a1]) (va_Qv Qm (cB dC dI dA (Fc ++ L) α (wl dA (Fc ++ L) α σ) sz) (va_A (wl dA (Fc ++ L) α σ) sz)) 0 0 (va_A (wl dA (Fc ++ L) α σ) sz) := by
  refine m_start (own := RX4) (lv := [(0, fO α (some k0)), (1, .int a1)]) (by decide) rfl rfl (by simp only [lgl_O, lgl_I, lgl_J, lgl_N]; decide) (by simp only [lva_O, lva_I, lva_J, lva_N]) ?_
  intro p e s m below meth c hsz hC hr hlk
  generalize hA : va_A (wl dA (Fc ++ L) α σ) sz = A at hC ⊢
  have hA := hA.symm
  generalize hargs : ([fO α (some k0), .int a1] : List Value).toArray = args at hC ⊢
  generalize hQ : MQ below _ args s 0 0 A = Q
  unfold wp_X4_openMonth at h
  refine r_iload_n hC dX4_openMonth_0 rfl 1 rfl ?_
  refine r_bipush (v := 10) hC dX4_openMonth_1 (by decide) ?_
  refine r_imul hC dX4_openMonth_3 ?_
  refine r_topi (fun x1 qx1 => ?_)
  replace h := h x1 qx1
  refine r_istore_n (lv' := [(2, .int x1), (0, fO α (some k0)), (1, .int a1)]) hC dX4_openMonth_4 rfl (by decide) rfl ?_
  refine r_iload_n hC dX4_openMonth_5 rfl 0 rfl ?_
  refine r_bipush (v := 10) hC dX4_openMonth_6 (by decide) ?_
  refine r_isub hC dX4_openMonth_8 ?_
  refine r_topi (fun x2 qx2 => ?_)
  replace h := h x2 qx2
  refine r_istore_n (lv' := [(3, .int x2), (2, .int x1), (0, fO α (some k0)), (1, .int a1)]) hC dX4_openMonth_9 rfl (by decide) rfl ?_
  refine r_iconst (v := 0) hC dX4_openMonth_10 (by decide) ?_
  refine r_istore (lv' := [(4, .int 0), (3, .int x2), (2, .int x1), (0, fO α (some k0)), (1, .int a1)]) hC dX4_openMonth_11 (by decide) rfl ?_
  refine r_lvs [3, 4, 2, 1, 0] rfl ?_
  obtain ⟨n, h⟩ := h
  refine lpw_ind (S := Mm × Int32) (fun s6 => G p l e ({ frames := 0, cells := 0, slots := 0, locals := 0 } : Room) s m args below meth c 0 0 Q dC dI dA (Fc ++ L) α A 5 s6.1 13 [(0, fO α (some k0)), (1, .int a1), (2, .int x1), (3, .int x2), (4, .int s6.2)] []) ?_ n (σ, 0) h
  clear h
  intro R5 hR5 s6 h
  obtain ⟨σ3, x4⟩ := s6
  refine r_iload hC dX4_openMonth_13 4 rfl ?_
  refine r_bipush (v := 10) hC dX4_openMonth_15 (by decide) ?_
  refine r_icmp_ge (tgt := 66) hC dX4_openMonth_17 (by decide) (fun q => ?_) (fun q => ?_)
  · replace h := h.1 q
    subst hQ
    exact r_vret hC hA hr hlk dX4_openMonth_66 h
  · replace h := h.2 q
    refine r_aload_n hC dX4_openMonth_20 rfl 0 rfl ?_
    obtain ⟨v7, h⟩ := h
    refine r_get (ci := 4) (f := 5) (v := fO α (some (k0 + 5))) hC kX4_openMonth_0 rfl (by decide) rfl kX4_openMonth_1 v7.1 (ct_4 v7.2) rfl dX4_openMonth_21 ?_
    refine r_iload_n hC dX4_openMonth_24 rfl 2 rfl ?_
    refine r_iload hC dX4_openMonth_25 4 rfl ?_
    refine r_iadd hC dX4_openMonth_27 ?_
    refine r_lconst (v := 0) hC dX4_openMonth_28 (by decide) ?_
    obtain ⟨v8, h⟩ := h
    obtain ⟨c9, h⟩ := h
    refine r_last hC v8.1 v8.2 c9 dX4_openMonth_29 ?_
    refine r_topm (fun σ10 qσ10 => ?_)
    replace h := h σ10 qσ10
    refine r_aload_n hC dX4_openMonth_30 rfl 0 rfl ?_
    refine r_get (ci := 4) (f := 6) (v := fO α (some (k0 + 6))) hC kX4_openMonth_0 rfl (by decide) rfl kX4_openMonth_2 v7.1 (ct_4 v7.2) rfl dX4_openMonth_31 ?_
    refine r_iload_n hC dX4_openMonth_34 rfl 2 rfl ?_
    refine r_iload hC dX4_openMonth_35 4 rfl ?_
    refine r_iadd hC dX4_openMonth_37 ?_
    refine r_iload_n hC dX4_openMonth_38 rfl 1 rfl ?_
    refine r_aload_n hC dX4_openMonth_39 rfl 0 rfl ?_
    refine r_get (ci := 4) (f := 0) (v := .int (gI σ10 k0 0)) hC kX4_openMonth_0 rfl (by decide) rfl kX4_openMonth_3 v7.1 (ct_4 v7.2) rfl dX4_openMonth_40 ?_
    obtain ⟨J12, hJ12, h⟩ := h
    have KJ12 : ∀ (y11 : Int64), J12 y11 → G p l e ({ frames := 0, cells := 0, slots := 0, locals := 0 } : Room) s m args below meth c 0 0 Q dC dI dA (Fc ++ L) α A 5 σ10 59 [(0, fO α (some k0)), (1, .int a1), (2, .int x1), (3, .int x2), (4, .int x4)] [.long y11, .int (x1 + x4), fO α (some (k0 + 6))] := by
      clear h
      intro y11 h
      replace h := hJ12 y11 h
      obtain ⟨v13, h⟩ := h
      obtain ⟨c14, h⟩ := h
      refine r_last hC v13.1 v13.2 c14 dX4_openMonth_59 ?_
      refine r_topm (fun σ15 qσ15 => ?_)
      replace h := h σ15 qσ15
      obtain ⟨x16, qx16⟩ : ∃ z : Int32, z = x4 + 1 := ⟨_, rfl⟩
      replace h := h x16 qx16
      refine r_iinc (v := x16) (lv' := [(4, .int x16), (0, fO α (some k0)), (1, .int a1), (2, .int x1), (3, .int x2)]) hC dX4_openMonth_60 (k := 4) rfl (by rw [qx16]; rfl) (by decide) rfl ?_
      refine r_goto (tgt := 13) hC dX4_openMonth_63 (by decide) ?_
      refine r_lvs [1, 2, 3, 4, 0] rfl ?_
      exact hR5 _ h
    refine r_icmp_le (tgt := 58) hC dX4_openMonth_43 (by decide) (fun q => ?_) (fun q => ?_)
    · replace h := h.1 q
      refine r_lconst (v := 0) hC dX4_openMonth_58 (by decide) ?_
      exact KJ12 0 h
    · replace h := h.2 q
      refine r_aload_n hC dX4_openMonth_46 rfl 0 rfl ?_
      refine r_get (ci := 4) (f := 6) (v := fO α (some (k0 + 6))) hC kX4_openMonth_0 rfl (by decide) rfl kX4_openMonth_2 v7.1 (ct_4 v7.2) rfl dX4_openMonth_47 ?_
      refine r_iload_n hC dX4_openMonth_50 rfl 3 rfl ?_
      refine r_iload hC dX4_openMonth_51 4 rfl ?_
      refine r_iadd hC dX4_openMonth_53 ?_
      obtain ⟨v17, h⟩ := h
      obtain ⟨c18, h⟩ := h
      refine r_lald hC v17.1 v17.2 c18 dX4_openMonth_54 ?_
      refine r_goto (tgt := 59) hC dX4_openMonth_55 (by decide) ?_
      exact KJ12 (gJ σ10 (k0 + 6) (x2 + x4).toNatClampNeg) h
theorem kX5_tellOil_0 : ∀ w ∈ u_ws RX5 TX5 4, w ∈ wsX5_tellOil := by decide +kernel
theorem kX5_tellOil_1 : (Cond.fieldLink RX5 21 "Divisionorder$Well" "unit" "LDivisionorder$Unit;") ∈ wsX5_tellOil := by decide +kernel
theorem kX5_tellOil_2 : ∀ w ∈ u_ws RX4 TX4 7, w ∈ wsX5_tellOil := by decide +kernel
theorem kX5_tellOil_3 : (Cond.fieldLink RX5 25 "Divisionorder$Unit" "barrels" "[I") ∈ wsX5_tellOil := by decide +kernel
theorem kX5_tellOil_4 : (Cond.fieldLink RX5 9 "Divisionorder$Well" "barrels" "[I") ∈ wsX5_tellOil := by decide +kernel
theorem kX5_tellOil_5 : (Cond.fieldLink RX5 28 "Divisionorder$Unit" "gross" "[I") ∈ wsX5_tellOil := by decide +kernel
theorem kX5_tellOil_6 : (Cond.fieldLink RX5 15 "Divisionorder$Well" "prices" "[I") ∈ wsX5_tellOil := by decide +kernel
set_option maxHeartbeats 4000000 in
set_option maxRecDepth 100000 in
theorem cm_X5_tellOil (l : Launch) (dC : Nat → ClassId) (dI : Nat → Nat → Nat) (dA : Nat → ClassId) (L : List Nat) (α : Nat → Nat) (σ : Mm) (k0 : Nat) (a1 : Int32) (a2 : Int32) (a3 : Int32) (Qm : Mm → Prop) (h : wp_X5_tellOil L σ k0 a1 a2 a3 Qm) (sz : Nat) : Met l yX5_tellOil wsX5_tellOil ({ frames := 0, cells := 0, slots := 0, locals := 0 } : Room) (cP dC dI dA (Fc ++ L) α σ sz [fO α (some k0), .int a1, .int a2, .int a3]) (va_Qv Qm (cB dC dI dA (Fc ++ L) α (wl dA (Fc ++ L) α σ) sz) (va_A (wl dA (Fc ++ L) α σ) sz)) 0 0 (va_A (wl dA (Fc ++ L) α σ) sz) := by
  refine m_start (own := RX5) (lv := [(0, fO α (some k0)), (1, .int a1), (2, .int a2), (3, .int a3)]) (by decide) rfl rfl (by simp only [lgl_O, lgl_I, lgl_J, lgl_N]; decide) (by simp only [lva_O, lva_I, lva_J, lva_N]) ?_
  intro p e s m below meth c hsz hC hr hlk
  generalize hA : va_A (wl dA (Fc ++ L) α σ) sz = A at hC ⊢
  have hA := hA.symm
  generalize hargs : ([fO α (some k0), .int a1, .int a2, .int a3] : List Value).toArray = args at hC ⊢
  generalize hQ : MQ below _ args s 0 0 A = Q
  unfold wp_X5_tellOil at h
  refine r_aload_n hC dX5_tellOil_0 rfl 0 rfl ?_
  obtain ⟨v1, h⟩ := h
  refine r_get (ci := 5) (f := 0) (v := fO α (gR σ k0 0)) hC kX5_tellOil_0 rfl (by decide) rfl kX5_tellOil_1 v1.1 (ct_5 v1.2) rfl dX5_tellOil_1 ?_
  refine r_topo (fun o2 qo2 => ?_)
  replace h := h o2 qo2
  obtain ⟨k3, e4, h⟩ := h
  subst e4
  obtain ⟨v5, h⟩ := h
  refine r_get (ci := 4) (f := 2) (v := fO α (some (k3 + 2))) hC kX5_tellOil_2 rfl (by decide) rfl kX5_tellOil_3 v5.1 (ct_4 v5.2) rfl dX5_tellOil_4 ?_
  refine r_iload_n hC dX5_tellOil_7 rfl 1 rfl ?_
  refine r_dup2 hC rfl fO_cat dX5_tellOil_8 ?_
  obtain ⟨v6, h⟩ := h
  obtain ⟨c7, h⟩ := h
  refine r_iald hC v6.1 v6.2 c7 dX5_tellOil_9 ?_
  refine r_iload_n hC dX5_tellOil_10 rfl 2 rfl ?_
  refine r_aload_n hC dX5_tellOil_11 rfl 0 rfl ?_
  refine r_get (ci := 5) (f := 1) (v := fO α (some (k0 + 1))) hC kX5_tellOil_0 rfl (by decide) rfl kX5_tellOil_4 v1.1 (ct_5 v1.2) rfl dX5_tellOil_12 ?_
  refine r_iload_n hC dX5_tellOil_15 rfl 1 rfl ?_
  obtain ⟨v8, h⟩ := h
  obtain ⟨c9, h⟩ := h
  refine r_iald hC v8.1 v8.2 c9 dX5_tellOil_16 ?_
  refine r_isub hC dX5_tellOil_17 ?_
  refine r_iadd hC dX5_tellOil_18 ?_
  obtain ⟨c10, h⟩ := h
  refine r_iast hC v6.1 v6.2 c10 dX5_tellOil_19 ?_
  refine r_topm (fun σ11 qσ11 => ?_)
  replace h := h σ11 qσ11
  refine r_aload_n hC dX5_tellOil_20 rfl 0 rfl ?_
  refine r_get (ci := 5) (f := 0) (v := fO α (gR σ11 k0 0)) hC kX5_tellOil_0 rfl (by decide) rfl kX5_tellOil_1 v1.1 (ct_5 v1.2) rfl dX5_tellOil_21 ?_
  refine r_topo (fun o12 qo12 => ?_)
  replace h := h o12 qo12
  obtain ⟨k13, e14, h⟩ := h
  subst e14
  obtain ⟨v15, h⟩ := h
  refine r_get (ci := 4) (f := 3) (v := fO α (some (k13 + 3))) hC kX5_tellOil_2 rfl (by decide) rfl kX5_tellOil_5 v15.1 (ct_4 v15.2) rfl dX5_tellOil_24 ?_
  refine r_iload_n hC dX5_tellOil_27 rfl 1 rfl ?_
  refine r_dup2 hC rfl fO_cat dX5_tellOil_28 ?_
  obtain ⟨v16, h⟩ := h
  obtain ⟨c17, h⟩ := h
  refine r_iald hC v16.1 v16.2 c17 dX5_tellOil_29 ?_
  refine r_iload_n hC dX5_tellOil_30 rfl 2 rfl ?_
  refine r_iload_n hC dX5_tellOil_31 rfl 3 rfl ?_
  refine r_imul hC dX5_tellOil_32 ?_
  refine r_aload_n hC dX5_tellOil_33 rfl 0 rfl ?_
  refine r_get (ci := 5) (f := 1) (v := fO α (some (k0 + 1))) hC kX5_tellOil_0 rfl (by decide) rfl kX5_tellOil_4 v1.1 (ct_5 v1.2) rfl dX5_tellOil_34 ?_
  refine r_iload_n hC dX5_tellOil_37 rfl 1 rfl ?_
  obtain ⟨c18, h⟩ := h
  refine r_iald hC v8.1 v8.2 c18 dX5_tellOil_38 ?_
  refine r_aload_n hC dX5_tellOil_39 rfl 0 rfl ?_
  refine r_get (ci := 5) (f := 2) (v := fO α (some (k0 + 2))) hC kX5_tellOil_0 rfl (by decide) rfl kX5_tellOil_6 v1.1 (ct_5 v1.2) rfl dX5_tellOil_40 ?_
  refine r_iload_n hC dX5_tellOil_43 rfl 1 rfl ?_
  obtain ⟨v19, h⟩ := h
  obtain ⟨c20, h⟩ := h
  refine r_iald hC v19.1 v19.2 c20 dX5_tellOil_44 ?_
  refine r_imul hC dX5_tellOil_45 ?_
  refine r_isub hC dX5_tellOil_46 ?_
  refine r_iadd hC dX5_tellOil_47 ?_
  obtain ⟨c21, h⟩ := h
  refine r_iast hC v16.1 v16.2 c21 dX5_tellOil_48 ?_
  refine r_topm (fun σ22 qσ22 => ?_)
  replace h := h σ22 qσ22
  refine r_aload_n hC dX5_tellOil_49 rfl 0 rfl ?_
  refine r_get (ci := 5) (f := 1) (v := fO α (some (k0 + 1))) hC kX5_tellOil_0 rfl (by decide) rfl kX5_tellOil_4 v1.1 (ct_5 v1.2) rfl dX5_tellOil_50 ?_
  refine r_iload_n hC dX5_tellOil_53 rfl 1 rfl ?_
  refine r_iload_n hC dX5_tellOil_54 rfl 2 rfl ?_
  obtain ⟨c23, h⟩ := h
  refine r_iast hC v8.1 v8.2 c23 dX5_tellOil_55 ?_
  refine r_topm (fun σ24 qσ24 => ?_)
  replace h := h σ24 qσ24
  refine r_aload_n hC dX5_tellOil_56 rfl 0 rfl ?_
  refine r_get (ci := 5) (f := 2) (v := fO α (some (k0 + 2))) hC kX5_tellOil_0 rfl (by decide) rfl kX5_tellOil_6 v1.1 (ct_5 v1.2) rfl dX5_tellOil_57 ?_
  refine r_iload_n hC dX5_tellOil_60 rfl 1 rfl ?_
  refine r_iload_n hC dX5_tellOil_61 rfl 3 rfl ?_
  obtain ⟨c25, h⟩ := h
  refine r_iast hC v19.1 v19.2 c25 dX5_tellOil_62 ?_
  refine r_topm (fun σ26 qσ26 => ?_)
  replace h := h σ26 qσ26
  subst hQ
  exact r_vret hC hA hr hlk dX5_tellOil_63 h
theorem kX6_readTitles_0 : ∀ w ∈ u_ws RX6 TX6 20, w ∈ wsX6_readTitles := by decide +kernel
theorem kX6_readTitles_1 : (Cond.fieldLink RX6 24 "Divisionorder" "deeds" "[LDivisionorder$Deed;") ∈ wsX6_readTitles := by decide +kernel
theorem kX6_readTitles_2 : ∀ w ∈ u_ws RX0 TX0 5, w ∈ wsX6_readTitles := by decide +kernel
theorem kX6_readTitles_3 : (Cond.fieldLink RX6 282 "Divisionorder$Deed" "tract" "LDivisionorder$Tract;") ∈ wsX6_readTitles := by decide +kernel
theorem kX6_readTitles_4 : (Cond.fieldLink RX6 286 "Divisionorder$Deed" "month" "I") ∈ wsX6_readTitles := by decide +kernel
theorem kX6_readTitles_5 : (Cond.fieldLink RX6 78 "Divisionorder" "titles" "[I") ∈ wsX6_readTitles := by decide +kernel
theorem kX6_readTitles_6 : (Cond.fieldLink RX6 294 "Divisionorder$Deed" "from" "I") ∈ wsX6_readTitles := by decide +kernel
theorem kX6_readTitles_7 : (Cond.fieldLink RX6 292 "Divisionorder$Deed" "parts" "I") ∈ wsX6_readTitles := by decide +kernel
theorem kX6_readTitles_8 : (Cond.fieldLink RX6 289 "Divisionorder$Deed" "to" "I") ∈ wsX6_readTitles := by decide +kernel
theorem kX6_readTitles_9 : ∀ w ∈ u_ws RX3 TX3 3, w ∈ wsX6_readTitles := by decide +kernel
theorem kX6_readTitles_10 : (Cond.fieldLink RX6 279 "Divisionorder$Tract" "firstOwner" "I") ∈ wsX6_readTitles := by decide +kernel
set_option maxHeartbeats 4000000 in
set_option maxRecDepth 100000 in
theorem cm_X6_readTitles (l : Launch) (dC : Nat → ClassId) (dI : Nat → Nat → Nat) (dA : Nat → ClassId) (L : List Nat) (α : Nat → Nat) (σ : Mm) (a1 : Option Nat) (a2 : Int32) (Qm : Mm → Prop) (h : wp_X6_readTitles L σ a1 a2 Qm) (sz : Nat) : Met l yX6_readTitles wsX6_readTitles ({ frames := 0, cells := 0, slots := 0, locals := 0 } : Room) (cP dC dI dA (Fc ++ L) α σ sz [fO α (some 0), fO α a1, .int a2]) (va_Qv Qm (cB dC dI dA (Fc ++ L) α (wl dA (Fc ++ L) α σ) sz) (va_A (wl dA (Fc ++ L) α σ) sz)) 0 0 (va_A (wl dA (Fc ++ L) α σ) sz) := by
  refine m_start (own := RX6) (lv := [(0, fO α (some 0)), (1, fO α a1), (2, .int a2)]) (by decide) rfl rfl (by simp only [lgl_O, lgl_I, lgl_J, lgl_N]; decide) (by simp only [lva_O, lva_I, lva_J, lva_N]) ?_
  intro p e s m below meth c hsz hC hr hlk
  generalize hA : va_A (wl dA (Fc ++ L) α σ) sz = A at hC ⊢
  have hA := hA.symm
  generalize hargs : ([fO α (some 0), fO α a1, .int a2] : List Value).toArray = args at hC ⊢
  generalize hQ : MQ below _ args s 0 0 A = Q
  unfold wp_X6_readTitles at h
  refine r_iconst (v := 0) hC dX6_readTitles_0 (by decide) ?_
  refine r_istore_n (lv' := [(3, .int 0), (0, fO α (some 0)), (1, fO α a1), (2, .int a2)]) hC dX6_readTitles_1 rfl (by decide) rfl ?_
  refine r_lvs [1, 2, 3, 0] rfl ?_
  obtain ⟨n, h⟩ := h
  refine lpw_ind (S := Mm × Int32) (fun s4 => G p l e ({ frames := 0, cells := 0, slots := 0, locals := 0 } : Room) s m args below meth c 0 0 Q dC dI dA (Fc ++ L) α A 7 s4.1 2 [(0, fO α (some 0)), (1, fO α a1), (2, .int a2), (3, .int s4.2)] []) ?_ n (σ, 0) h
  clear h
  intro R3 hR3 s4 h
  obtain ⟨σ1, x2⟩ := s4
  refine r_iload_n hC dX6_readTitles_2 rfl 3 rfl ?_
  refine r_bipush (v := 10) hC dX6_readTitles_3 (by decide) ?_
  refine r_icmp_ge (tgt := 35) hC dX6_readTitles_5 (by decide) (fun q => ?_) (fun q => ?_)
  · replace h := h.1 q
    refine r_aload_n hC dX6_readTitles_35 rfl 0 rfl ?_
    refine r_get (ci := 6) (f := 3) (v := fO α (some 2)) hC kX6_readTitles_0 rfl (by decide) rfl kX6_readTitles_1 fx_0 (ct_6 rfl) rfl dX6_readTitles_36 ?_
    refine r_astore_n (lv' := [(3, fO α (some 2)), (0, fO α (some 0)), (1, fO α a1), (2, .int a2)]) hC dX6_readTitles_39 rfl (by decide) rfl ?_
    refine r_aload_n hC dX6_readTitles_40 rfl 0 rfl ?_
    refine r_alen_11 (v := 40) hC fx_2 rfl (by decide) dX6_readTitles_41 ?_
    refine r_istore (lv' := [(4, .int 40), (3, fO α (some 2)), (0, fO α (some 0)), (1, fO α a1), (2, .int a2)]) hC dX6_readTitles_42 (by decide) rfl ?_
    refine r_iconst (v := 0) hC dX6_readTitles_44 (by decide) ?_
    refine r_istore (lv' := [(5, .int 0), (4, .int 40), (3, fO α (some 2)), (0, fO α (some 0)), (1, fO α a1), (2, .int a2)]) hC dX6_readTitles_45 (by decide) rfl ?_
    refine r_lvs [3, 4, 5, 2, 1, 0] rfl ?_
    obtain ⟨n, h⟩ := h
    refine lpw_ind (S := Mm × Int32) (fun s8 => G p l e ({ frames := 0, cells := 0, slots := 0, locals := 0 } : Room) s m args below meth c 0 0 Q dC dI dA (Fc ++ L) α A 7 s8.1 47 [(0, fO α (some 0)), (1, fO α a1), (2, .int a2), (3, fO α (some 2)), (4, .int 40), (5, .int s8.2)] []) ?_ n (σ1, 0) h
    clear h
    intro R7 hR7 s8 h
    obtain ⟨σ5, x6⟩ := s8
    refine r_iload hC dX6_readTitles_47 5 rfl ?_
    refine r_iload hC dX6_readTitles_49 4 rfl ?_
    obtain ⟨J9, hJ9, h⟩ := h
    have KJ9 : J9 → G p l e ({ frames := 0, cells := 0, slots := 0, locals := 0 } : Room) s m args below meth c 0 0 Q dC dI dA (Fc ++ L) α A 7 σ5 128 [] [] := by
      clear h
      intro h
      replace h := hJ9 h
      subst hQ
      exact r_vret hC hA hr hlk dX6_readTitles_128 h
    refine r_icmp_ge (tgt := 128) hC dX6_readTitles_51 (by decide) (fun q => ?_) (fun q => ?_)
    · replace h := h.1 q
      refine r_lvs [] rfl ?_
      exact KJ9 h
    · replace h := h.2 q
      refine r_aload_n hC dX6_readTitles_54 rfl 3 rfl ?_
      refine r_iload hC dX6_readTitles_55 5 rfl ?_
      obtain ⟨c10, h⟩ := h
      refine r_aald_11 hC fx_2 rfl c10 dX6_readTitles_57 ?_
      refine r_topo (fun o11 qo11 => ?_)
      replace h := h o11 qo11
      refine r_astore (lv' := [(6, fO α o11), (0, fO α (some 0)), (1, fO α a1), (2, .int a2), (3, fO α (some 2)), (4, .int 40), (5, .int x6)]) hC dX6_readTitles_58 (by decide) rfl ?_
      refine r_aload hC dX6_readTitles_60 0 rfl ?_
      refine r_ifnonnull (tgt := 68) hC dX6_readTitles_62 (by decide) (fun k12 q => ?_) (fun q => ?_)
      · replace h := h.2 k12 q
        subst q
        refine r_aload hC dX6_readTitles_68 0 rfl ?_
        obtain ⟨v13, h⟩ := h
        refine r_get (ci := 0) (f := 0) (v := fO α (gR σ5 k12 0)) hC kX6_readTitles_2 rfl (by decide) rfl kX6_readTitles_3 v13.1 (ct_0 v13.2) rfl dX6_readTitles_70 ?_
        refine r_topo (fun o14 qo14 => ?_)
        replace h := h o14 qo14
        refine r_aload_n hC dX6_readTitles_73 rfl 2 rfl ?_
        obtain ⟨v15, h⟩ := h
        obtain ⟨v16, h⟩ := h
        obtain ⟨J18, hJ18, h⟩ := h
        have KJ18 : ∀ (σ17 : Mm), J18 σ17 → G p l e ({ frames := 0, cells := 0, slots := 0, locals := 0 } : Room) s m args below meth c 0 0 Q dC dI dA (Fc ++ L) α A 7 σ17 122 [(0, fO α (some 0)), (1, fO α a1), (2, .int a2), (3, fO α (some 2)), (4, .int 40), (5, .int x6)] [] := by
          clear h
          intro σ17 h
          replace h := hJ18 σ17 h
          obtain ⟨x19, qx19⟩ : ∃ z : Int32, z = x6 + 1 := ⟨_, rfl⟩
          replace h := h x19 qx19
          refine r_iinc (v := x19) (lv' := [(5, .int x19), (0, fO α (some 0)), (1, fO α a1), (2, .int a2), (3, fO α (some 2)), (4, .int 40)]) hC dX6_readTitles_122 (k := 5) rfl (by rw [qx19]; rfl) (by decide) rfl ?_
          refine r_goto (tgt := 47) hC dX6_readTitles_125 (by decide) ?_
          refine r_lvs [1, 2, 3, 4, 5, 0] rfl ?_
          exact hR7 _ h
        refine r_acmp_ne (tgt := 122) hC v15 v16 dX6_readTitles_74 (by decide) (fun q => ?_) (fun q => ?_)
        · replace h := h.1 q
          refine r_lvs [1, 2, 3, 4, 5, 6] rfl ?_
          exact KJ18 σ5 h
        · replace h := h.2 q
          refine r_aload hC dX6_readTitles_77 0 rfl ?_
          refine r_get (ci := 0) (f := 4) (v := .int (gI σ5 k12 4)) hC kX6_readTitles_2 rfl (by decide) rfl kX6_readTitles_4 v13.1 (ct_0 v13.2) rfl dX6_readTitles_79 ?_
          refine r_iload_n hC dX6_readTitles_82 rfl 3 rfl ?_
          refine r_icmp_gt (tgt := 122) hC dX6_readTitles_83 (by decide) (fun q => ?_) (fun q => ?_)
          · replace h := h.1 q
            refine r_lvs [1, 2, 3, 4, 5, 6] rfl ?_
            exact KJ18 σ5 h
          · replace h := h.2 q
            refine r_aload_n hC dX6_readTitles_86 rfl 1 rfl ?_
            refine r_get (ci := 6) (f := 17) (v := fO α (some 8)) hC kX6_readTitles_0 rfl (by decide) rfl kX6_readTitles_5 fx_0 (ct_6 rfl) rfl dX6_readTitles_87 ?_
            refine r_aload hC dX6_readTitles_90 0 rfl ?_
            refine r_get (ci := 0) (f := 1) (v := .int (gI σ5 k12 1)) hC kX6_readTitles_2 rfl (by decide) rfl kX6_readTitles_6 v13.1 (ct_0 v13.2) rfl dX6_readTitles_92 ?_
            refine r_dup2 hC rfl fO_cat dX6_readTitles_95 ?_
            obtain ⟨c20, h⟩ := h
            refine r_iald hC fx_8 rfl c20 dX6_readTitles_96 ?_
            refine r_aload hC dX6_readTitles_97 0 rfl ?_
            refine r_get (ci := 0) (f := 3) (v := .int (gI σ5 k12 3)) hC kX6_readTitles_2 rfl (by decide) rfl kX6_readTitles_7 v13.1 (ct_0 v13.2) rfl dX6_readTitles_99 ?_
            refine r_isub hC dX6_readTitles_102 ?_
            obtain ⟨c21, h⟩ := h
            refine r_iast hC fx_8 rfl c21 dX6_readTitles_103 ?_
            refine r_topm (fun σ22 qσ22 => ?_)
            replace h := h σ22 qσ22
            refine r_aload_n hC dX6_readTitles_104 rfl 1 rfl ?_
            refine r_get (ci := 6) (f := 17) (v := fO α (some 8)) hC kX6_readTitles_0 rfl (by decide) rfl kX6_readTitles_5 fx_0 (ct_6 rfl) rfl dX6_readTitles_105 ?_
            refine r_aload hC dX6_readTitles_108 0 rfl ?_
            refine r_get (ci := 0) (f := 2) (v := .int (gI σ22 k12 2)) hC kX6_readTitles_2 rfl (by decide) rfl kX6_readTitles_8 v13.1 (ct_0 v13.2) rfl dX6_readTitles_110 ?_
            refine r_dup2 hC rfl fO_cat dX6_readTitles_113 ?_
            obtain ⟨c23, h⟩ := h
            refine r_iald hC fx_8 rfl c23 dX6_readTitles_114 ?_
            refine r_aload hC dX6_readTitles_115 0 rfl ?_
            refine r_get (ci := 0) (f := 3) (v := .int (gI σ22 k12 3)) hC kX6_readTitles_2 rfl (by decide) rfl kX6_readTitles_7 v13.1 (ct_0 v13.2) rfl dX6_readTitles_117 ?_
            refine r_iadd hC dX6_readTitles_120 ?_
            obtain ⟨c24, h⟩ := h
            refine r_iast hC fx_8 rfl c24 dX6_readTitles_121 ?_
            refine r_topm (fun σ25 qσ25 => ?_)
            replace h := h σ25 qσ25
            refine r_lvs [1, 2, 3, 4, 5, 6] rfl ?_
            exact KJ18 σ25 h
      · replace h := h.1 q
        subst q
        refine r_goto (tgt := 128) hC dX6_readTitles_65 (by decide) ?_
        refine r_lvs [] rfl ?_
        exact KJ9 h
  · replace h := h.2 q
    refine r_aload_n hC dX6_readTitles_8 rfl 0 rfl ?_
    refine r_get (ci := 6) (f := 17) (v := fO α (some 8)) hC kX6_readTitles_0 rfl (by decide) rfl kX6_readTitles_5 fx_0 (ct_6 rfl) rfl dX6_readTitles_9 ?_
    refine r_iload_n hC dX6_readTitles_12 rfl 3 rfl ?_
    refine r_aload_n hC dX6_readTitles_13 rfl 1 rfl ?_
    obtain ⟨k26, e27, h⟩ := h
    subst e27
    obtain ⟨v28, h⟩ := h
    refine r_get (ci := 3) (f := 1) (v := .int (gI σ1 k26 1)) hC kX6_readTitles_9 rfl (by decide) rfl kX6_readTitles_10 v28.1 (ct_3 v28.2) rfl dX6_readTitles_14 ?_
    refine r_iload_n hC dX6_readTitles_17 rfl 3 rfl ?_
    obtain ⟨J30, hJ30, h⟩ := h
    have KJ30 : ∀ (x29 : Int32), J30 x29 → G p l e ({ frames := 0, cells := 0, slots := 0, locals := 0 } : Room) s m args below meth c 0 0 Q dC dI dA (Fc ++ L) α A 7 σ1 28 [(0, fO α (some 0)), (1, fO α (some k26)), (2, .int a2), (3, .int x2)] [.int x29, .int x2, fO α (some 8)] := by
      clear h
      intro x29 h
      replace h := hJ30 x29 h
      obtain ⟨c31, h⟩ := h
      refine r_iast hC fx_8 rfl c31 dX6_readTitles_28 ?_
      refine r_topm (fun σ32 qσ32 => ?_)
      replace h := h σ32 qσ32
      obtain ⟨x33, qx33⟩ : ∃ z : Int32, z = x2 + 1 := ⟨_, rfl⟩
      replace h := h x33 qx33
      refine r_iinc (v := x33) (lv' := [(3, .int x33), (0, fO α (some 0)), (1, fO α (some k26)), (2, .int a2)]) hC dX6_readTitles_29 (k := 3) rfl (by rw [qx33]; rfl) (by decide) rfl ?_
      refine r_goto (tgt := 2) hC dX6_readTitles_32 (by decide) ?_
      refine r_lvs [1, 2, 3, 0] rfl ?_
      exact hR3 _ h
    refine r_icmp_ne (tgt := 27) hC dX6_readTitles_18 (by decide) (fun q => ?_) (fun q => ?_)
    · replace h := h.1 q
      refine r_iconst (v := 0) hC dX6_readTitles_27 (by decide) ?_
      exact KJ30 0 h
    · replace h := h.2 q
      refine r_sipush (v := 10000) hC dX6_readTitles_21 (by decide) ?_
      refine r_goto (tgt := 28) hC dX6_readTitles_24 (by decide) ?_
      exact KJ30 10000 h
theorem kX6_leaseThatCounts_0 : ∀ w ∈ u_ws RX6 TX6 20, w ∈ wsX6_leaseThatCounts := by decide +kernel
theorem kX6_leaseThatCounts_1 : (Cond.fieldLink RX6 33 "Divisionorder" "leases" "[LDivisionorder$Lease;") ∈ wsX6_leaseThatCounts := by decide +kernel
theorem kX6_leaseThatCounts_2 : ∀ w ∈ u_ws RX1 TX1 6, w ∈ wsX6_leaseThatCounts := by decide +kernel
theorem kX6_leaseThatCounts_3 : (Cond.fieldLink RX6 336 "Divisionorder$Lease" "tract" "LDivisionorder$Tract;") ∈ wsX6_leaseThatCounts := by decide +kernel
theorem kX6_leaseThatCounts_4 : (Cond.fieldLink RX6 337 "Divisionorder$Lease" "lessor" "I") ∈ wsX6_leaseThatCounts := by decide +kernel
set_option maxHeartbeats 4000000 in
set_option maxRecDepth 100000 in
theorem cm_X6_leaseThatCounts (l : Launch) (dC : Nat → ClassId) (dI : Nat → Nat → Nat) (dA : Nat → ClassId) (L : List Nat) (α : Nat → Nat) (σ : Mm) (a1 : Option Nat) (a2 : Int32) (a3 : Int32) (Qm : Option Nat → Mm → Prop) (h : wp_X6_leaseThatCounts L σ a1 a2 a3 Qm) (sz : Nat) : Met l yX6_leaseThatCounts wsX6_leaseThatCounts ({ frames := 1, cells := 0, slots := 0, locals := 23 } : Room) (cP dC dI dA (Fc ++ L) α σ sz [fO α (some 0), fO α a1, .int a2, .int a3]) (va_Qe α Qm (cB dC dI dA (Fc ++ L) α (wl dA (Fc ++ L) α σ) sz) (va_A (wl dA (Fc ++ L) α σ) sz)) 0 0 (va_A (wl dA (Fc ++ L) α σ) sz) := by
  refine m_start (own := RX6) (lv := [(0, fO α (some 0)), (1, fO α a1), (2, .int a2), (3, .int a3)]) (by decide) rfl rfl (by simp only [lgl_O, lgl_I, lgl_J, lgl_N]; decide) (by simp only [lva_O, lva_I, lva_J, lva_N]) ?_
  intro p e s m below meth c hsz hC hr hlk
  generalize hA : va_A (wl dA (Fc ++ L) α σ) sz = A at hC ⊢
  have hA := hA.symm
  generalize hargs : ([fO α (some 0), fO α a1, .int a2, .int a3] : List Value).toArray = args at hC ⊢
  generalize hQ : MQ below _ args s 0 0 A = Q
  unfold wp_X6_leaseThatCounts at h
  refine r_aload_n hC dX6_leaseThatCounts_0 rfl 0 rfl ?_
  refine r_get (ci := 6) (f := 5) (v := fO α (some 3)) hC kX6_leaseThatCounts_0 rfl (by decide) rfl kX6_leaseThatCounts_1 fx_0 (ct_6 rfl) rfl dX6_leaseThatCounts_1 ?_
  refine r_astore (lv' := [(4, fO α (some 3)), (0, fO α (some 0)), (1, fO α a1), (2, .int a2), (3, .int a3)]) hC dX6_leaseThatCounts_4 (by decide) rfl ?_
  refine r_aload hC dX6_leaseThatCounts_6 0 rfl ?_
  refine r_alen_12 (v := 16) hC fx_3 rfl (by decide) dX6_leaseThatCounts_8 ?_
  refine r_istore (lv' := [(5, .int 16), (4, fO α (some 3)), (0, fO α (some 0)), (1, fO α a1), (2, .int a2), (3, .int a3)]) hC dX6_leaseThatCounts_9 (by decide) rfl ?_
  refine r_iconst (v := 0) hC dX6_leaseThatCounts_11 (by decide) ?_
  refine r_istore (lv' := [(6, .int 0), (5, .int 16), (4, fO α (some 3)), (0, fO α (some 0)), (1, fO α a1), (2, .int a2), (3, .int a3)]) hC dX6_leaseThatCounts_12 (by decide) rfl ?_
  refine r_lvs [4, 5, 6, 2, 1, 0] rfl ?_
  obtain ⟨n, h⟩ := h
  refine lpw_ind (S := Mm × Int32) (fun s4 => G p l e ({ frames := 1, cells := 0, slots := 0, locals := 23 } : Room) s m args below meth c 0 0 Q dC dI dA (Fc ++ L) α A 8 s4.1 14 [(1, fO α a1), (2, .int a2), (3, .int a3), (4, fO α (some 3)), (5, .int 16), (6, .int s4.2)] []) ?_ n (σ, 0) h
  clear h
  intro R3 hR3 s4 h
  obtain ⟨σ1, x2⟩ := s4
  refine r_iload hC dX6_leaseThatCounts_14 5 rfl ?_
  refine r_iload hC dX6_leaseThatCounts_16 4 rfl ?_
  obtain ⟨J5, hJ5, h⟩ := h
  have KJ5 : J5 → G p l e ({ frames := 1, cells := 0, slots := 0, locals := 23 } : Room) s m args below meth c 0 0 Q dC dI dA (Fc ++ L) α A 8 σ1 72 [] [] := by
    clear h
    intro h
    replace h := hJ5 h
    refine r_null hC dX6_leaseThatCounts_72 ?_
    subst hQ
    exact r_aret hC hA hr hlk dX6_leaseThatCounts_73 h
  refine r_icmp_ge (tgt := 72) hC dX6_leaseThatCounts_18 (by decide) (fun q => ?_) (fun q => ?_)
  · replace h := h.1 q
    refine r_lvs [] rfl ?_
    exact KJ5 h
  · replace h := h.2 q
    refine r_aload hC dX6_leaseThatCounts_21 3 rfl ?_
    refine r_iload hC dX6_leaseThatCounts_23 5 rfl ?_
    obtain ⟨c6, h⟩ := h
    refine r_aald_12 hC fx_3 rfl c6 dX6_leaseThatCounts_25 ?_
    refine r_topo (fun o7 qo7 => ?_)
    replace h := h o7 qo7
    refine r_astore (lv' := [(7, fO α o7), (1, fO α a1), (2, .int a2), (3, .int a3), (4, fO α (some 3)), (5, .int 16), (6, .int x2)]) hC dX6_leaseThatCounts_26 (by decide) rfl ?_
    refine r_aload hC dX6_leaseThatCounts_28 0 rfl ?_
    refine r_ifnonnull (tgt := 36) hC dX6_leaseThatCounts_30 (by decide) (fun k8 q => ?_) (fun q => ?_)
    · replace h := h.2 k8 q
      subst q
      refine r_aload hC dX6_leaseThatCounts_36 0 rfl ?_
      obtain ⟨v9, h⟩ := h
      refine r_get (ci := 1) (f := 0) (v := fO α (gR σ1 k8 0)) hC kX6_leaseThatCounts_2 rfl (by decide) rfl kX6_leaseThatCounts_3 v9.1 (ct_1 v9.2) rfl dX6_leaseThatCounts_38 ?_
      refine r_topo (fun o10 qo10 => ?_)
      replace h := h o10 qo10
      refine r_aload_n hC dX6_leaseThatCounts_41 rfl 1 rfl ?_
      obtain ⟨v11, h⟩ := h
      obtain ⟨v12, h⟩ := h
      obtain ⟨J14, hJ14, h⟩ := h
      have KJ14 : ∀ (σ13 : Mm), J14 σ13 → G p l e ({ frames := 1, cells := 0, slots := 0, locals := 23 } : Room) s m args below meth c 0 0 Q dC dI dA (Fc ++ L) α A 8 σ13 66 [(1, fO α a1), (2, .int a2), (3, .int a3), (4, fO α (some 3)), (5, .int 16), (6, .int x2)] [] := by
        clear h
        intro σ13 h
        replace h := hJ14 σ13 h
        obtain ⟨x15, qx15⟩ : ∃ z : Int32, z = x2 + 1 := ⟨_, rfl⟩
        replace h := h x15 qx15
        refine r_iinc (v := x15) (lv' := [(6, .int x15), (1, fO α a1), (2, .int a2), (3, .int a3), (4, fO α (some 3)), (5, .int 16)]) hC dX6_leaseThatCounts_66 (k := 5) rfl (by rw [qx15]; rfl) (by decide) rfl ?_
        refine r_goto (tgt := 14) hC dX6_leaseThatCounts_69 (by decide) ?_
        refine r_lvs [1, 2, 3, 4, 5, 0] rfl ?_
        exact hR3 _ h
      refine r_acmp_ne (tgt := 66) hC v11 v12 dX6_leaseThatCounts_42 (by decide) (fun q => ?_) (fun q => ?_)
      · replace h := h.1 q
        refine r_lvs [1, 2, 3, 4, 5, 6] rfl ?_
        exact KJ14 σ1 h
      · replace h := h.2 q
        refine r_aload hC dX6_leaseThatCounts_45 0 rfl ?_
        refine r_get (ci := 1) (f := 1) (v := .int (gI σ1 k8 1)) hC kX6_leaseThatCounts_2 rfl (by decide) rfl kX6_leaseThatCounts_4 v9.1 (ct_1 v9.2) rfl dX6_leaseThatCounts_47 ?_
        refine r_iload_n hC dX6_leaseThatCounts_50 rfl 2 rfl ?_
        refine r_icmp_ne (tgt := 66) hC dX6_leaseThatCounts_51 (by decide) (fun q => ?_) (fun q => ?_)
        · replace h := h.1 q
          refine r_lvs [1, 2, 3, 4, 5, 6] rfl ?_
          exact KJ14 σ1 h
        · replace h := h.2 q
          refine r_aload hC dX6_leaseThatCounts_54 0 rfl ?_
          refine r_iload_n hC dX6_leaseThatCounts_56 rfl 3 rfl ?_
          refine r_calli hC [] (m_runV (n := 1) (ci := 1) hC [.int a3] [] (fun sz => cm_X1_isInForce l dC dI dA L α σ1 k8 a3 _ h sz) gX6_leaseThatCounts_X1_isInForce rfl ⟨rfl, rfl⟩ (by decide +kernel) ⟨Nat.le_of_ble_eq_true rfl, Nat.le_of_ble_eq_true rfl⟩ v9.1 (ct_1 v9.2) rfl rfl (Nat.le_of_ble_eq_true rfl) (by decide) dX6_leaseThatCounts_57) (fun x17 σ16 hn => ?_)
          clear h
          revert hn
          intro h
          refine r_if_eq (tgt := 66) hC dX6_leaseThatCounts_60 (by decide) (fun q => ?_) (fun q => ?_)
          · replace h := h.1 q
            refine r_lvs [1, 2, 3, 4, 5, 6] rfl ?_
            exact KJ14 σ16 h
          · replace h := h.2 q
            refine r_aload hC dX6_leaseThatCounts_63 0 rfl ?_
            subst hQ
            exact r_aret hC hA hr hlk dX6_leaseThatCounts_65 h
    · replace h := h.1 q
      subst q
      refine r_goto (tgt := 72) hC dX6_leaseThatCounts_33 (by decide) ?_
      refine r_lvs [] rfl ?_
      exact KJ5 h
theorem kX6_layTract_0 : ∀ w ∈ u_ws RX6 TX6 20, w ∈ wsX6_layTract := by decide +kernel
theorem kX6_layTract_1 : (Cond.fieldLink RX6 78 "Divisionorder" "titles" "[I") ∈ wsX6_layTract := by decide +kernel
theorem kX6_layTract_2 : ∀ w ∈ u_ws RX3 TX3 3, w ∈ wsX6_layTract := by decide +kernel
theorem kX6_layTract_3 : (Cond.fieldLink RX6 318 "Divisionorder$Tract" "acres" "I") ∈ wsX6_layTract := by decide +kernel
theorem kX6_layTract_4 : (Cond.fieldLink RX6 86 "Divisionorder" "deck" "LDivisionorder$Parting;") ∈ wsX6_layTract := by decide +kernel
theorem kX6_layTract_5 : ∀ w ∈ u_ws RX2 TX2 3, w ∈ wsX6_layTract := by decide +kernel
theorem kX6_layTract_6 : (Cond.fieldLink RX6 325 "Divisionorder$Parting" "weights" "[J") ∈ wsX6_layTract := by decide +kernel
theorem kX6_layTract_7 : (Cond.constantLong RX6 328 (1000)) ∈ wsX6_layTract := by decide +kernel
theorem kX6_layTract_8 : ∀ w ∈ u_ws RX1 TX1 6, w ∈ wsX6_layTract := by decide +kernel
theorem kX6_layTract_9 : (Cond.fieldLink RX6 330 "Divisionorder$Lease" "royalty" "I") ∈ wsX6_layTract := by decide +kernel
theorem kX6_layTract_10 : (Cond.fieldLink RX6 333 "Divisionorder$Lease" "lessee" "I") ∈ wsX6_layTract := by decide +kernel
set_option maxHeartbeats 4000000 in
set_option maxRecDepth 100000 in
theorem cm_X6_layTract (l : Launch) (dC : Nat → ClassId) (dI : Nat → Nat → Nat) (dA : Nat → ClassId) (L : List Nat) (α : Nat → Nat) (σ : Mm) (a1 : Option Nat) (a2 : Int32) (Qm : Mm → Prop) (h : wp_X6_layTract L σ a1 a2 Qm) (sz : Nat) : Met l yX6_layTract wsX6_layTract ({ frames := 2, cells := 0, slots := 0, locals := 50 } : Room) (cP dC dI dA (Fc ++ L) α σ sz [fO α (some 0), fO α a1, .int a2]) (va_Qv Qm (cB dC dI dA (Fc ++ L) α (wl dA (Fc ++ L) α σ) sz) (va_A (wl dA (Fc ++ L) α σ) sz)) 0 0 (va_A (wl dA (Fc ++ L) α σ) sz) := by
  refine m_start (own := RX6) (lv := [(0, fO α (some 0)), (1, fO α a1), (2, .int a2)]) (by decide) rfl rfl (by simp only [lgl_O, lgl_I, lgl_J, lgl_N]; decide) (by simp only [lva_O, lva_I, lva_J, lva_N]) ?_
  intro p e s m below meth c hsz hC hr hlk
  generalize hA : va_A (wl dA (Fc ++ L) α σ) sz = A at hC ⊢
  have hA := hA.symm
  generalize hargs : ([fO α (some 0), fO α a1, .int a2] : List Value).toArray = args at hC ⊢
  generalize hQ : MQ below _ args s 0 0 A = Q
  unfold wp_X6_layTract at h
  refine r_aload_n hC dX6_layTract_0 rfl 0 rfl ?_
  refine r_aload_n hC dX6_layTract_1 rfl 1 rfl ?_
  refine r_iload_n hC dX6_layTract_2 rfl 2 rfl ?_
  refine r_callv hC [] (m_runV (n := 2) (ci := 6) hC [fO α a1, .int a2] [] (fun sz => cm_X6_readTitles l dC dI dA L α σ a1 a2 _ h sz) gX6_layTract_X6_readTitles rfl ⟨rfl, rfl⟩ (by decide +kernel) ⟨Nat.le_of_ble_eq_true rfl, Nat.le_of_ble_eq_true rfl⟩ fx_0 (ct_6 rfl) rfl rfl (Nat.le_of_ble_eq_true rfl) (by decide) dX6_layTract_3) (fun σ1 hn => ?_)
  clear h
  revert hn
  intro h
  refine r_iconst (v := 0) hC dX6_layTract_6 (by decide) ?_
  refine r_istore_n (lv' := [(3, .int 0), (0, fO α (some 0)), (1, fO α a1), (2, .int a2)]) hC dX6_layTract_7 rfl (by decide) rfl ?_
  refine r_lvs [1, 2, 3, 0] rfl ?_
  obtain ⟨n, h⟩ := h
  refine lpw_ind (S := Mm × Int32) (fun s5 => G p l e ({ frames := 2, cells := 0, slots := 0, locals := 50 } : Room) s m args below meth c 0 0 Q dC dI dA (Fc ++ L) α A 7 s5.1 8 [(0, fO α (some 0)), (1, fO α a1), (2, .int a2), (3, .int s5.2)] []) ?_ n (σ1, 0) h
  clear h
  intro R4 hR4 s5 h
  obtain ⟨σ2, x3⟩ := s5
  refine r_iload_n hC dX6_layTract_8 rfl 3 rfl ?_
  refine r_bipush (v := 10) hC dX6_layTract_9 (by decide) ?_
  refine r_icmp_ge (tgt := 135) hC dX6_layTract_11 (by decide) (fun q => ?_) (fun q => ?_)
  · replace h := h.1 q
    subst hQ
    exact r_vret hC hA hr hlk dX6_layTract_135 h
  · replace h := h.2 q
    refine r_aload_n hC dX6_layTract_14 rfl 0 rfl ?_
    refine r_get (ci := 6) (f := 17) (v := fO α (some 8)) hC kX6_layTract_0 rfl (by decide) rfl kX6_layTract_1 fx_0 (ct_6 rfl) rfl dX6_layTract_15 ?_
    refine r_iload_n hC dX6_layTract_18 rfl 3 rfl ?_
    obtain ⟨c6, h⟩ := h
    refine r_iald hC fx_8 rfl c6 dX6_layTract_19 ?_
    obtain ⟨J8, hJ8, h⟩ := h
    have KJ8 : ∀ (σ7 : Mm), J8 σ7 → G p l e ({ frames := 2, cells := 0, slots := 0, locals := 50 } : Room) s m args below meth c 0 0 Q dC dI dA (Fc ++ L) α A 7 σ7 129 [(0, fO α (some 0)), (1, fO α a1), (2, .int a2), (3, .int x3)] [] := by
      clear h
      intro σ7 h
      replace h := hJ8 σ7 h
      obtain ⟨x9, qx9⟩ : ∃ z : Int32, z = x3 + 1 := ⟨_, rfl⟩
      replace h := h x9 qx9
      refine r_iinc (v := x9) (lv' := [(3, .int x9), (0, fO α (some 0)), (1, fO α a1), (2, .int a2)]) hC dX6_layTract_129 (k := 3) rfl (by rw [qx9]; rfl) (by decide) rfl ?_
      refine r_goto (tgt := 8) hC dX6_layTract_132 (by decide) ?_
      refine r_lvs [1, 2, 3, 0] rfl ?_
      exact hR4 _ h
    refine r_if_le (tgt := 129) hC dX6_layTract_20 (by decide) (fun q => ?_) (fun q => ?_)
    · replace h := h.1 q
      exact KJ8 σ2 h
    · replace h := h.2 q
      refine r_aload_n hC dX6_layTract_23 rfl 1 rfl ?_
      obtain ⟨k10, e11, h⟩ := h
      subst e11
      obtain ⟨v12, h⟩ := h
      refine r_get (ci := 3) (f := 0) (v := .int (gI σ2 k10 0)) hC kX6_layTract_2 rfl (by decide) rfl kX6_layTract_3 v12.1 (ct_3 v12.2) rfl dX6_layTract_24 ?_
      refine r_i2l hC dX6_layTract_27 ?_
      refine r_aload_n hC dX6_layTract_28 rfl 0 rfl ?_
      refine r_get (ci := 6) (f := 17) (v := fO α (some 8)) hC kX6_layTract_0 rfl (by decide) rfl kX6_layTract_1 fx_0 (ct_6 rfl) rfl dX6_layTract_29 ?_
      refine r_iload_n hC dX6_layTract_32 rfl 3 rfl ?_
      obtain ⟨c13, h⟩ := h
      refine r_iald hC fx_8 rfl c13 dX6_layTract_33 ?_
      refine r_i2l hC dX6_layTract_34 ?_
      refine r_lmul hC dX6_layTract_35 ?_
      refine r_topl (fun y14 qy14 => ?_)
      replace h := h y14 qy14
      refine r_lstore (lv' := [(4, .long y14), (0, fO α (some 0)), (1, fO α (some k10)), (2, .int a2), (3, .int x3)]) hC dX6_layTract_36 (by decide) rfl ?_
      refine r_aload_n hC dX6_layTract_38 rfl 1 rfl ?_
      refine r_aload_n hC dX6_layTract_39 rfl 2 rfl ?_
      refine r_iload_n hC dX6_layTract_40 rfl 4 rfl ?_
      refine r_iload_n hC dX6_layTract_41 rfl 3 rfl ?_
      refine r_callo hC [] (m_runV (n := 3) (ci := 6) hC [fO α (some k10), .int x3, .int a2] [] (fun sz => cm_X6_leaseThatCounts l dC dI dA L α σ2 (some k10) x3 a2 _ h sz) gX6_layTract_X6_leaseThatCounts rfl ⟨rfl, rfl⟩ (by decide +kernel) ⟨Nat.le_of_ble_eq_true rfl, Nat.le_of_ble_eq_true rfl⟩ fx_0 (ct_6 rfl) rfl rfl (Nat.le_of_ble_eq_true rfl) (by decide) dX6_layTract_42) (fun o16 σ15 hn => ?_)
      clear h
      revert hn
      intro h
      refine r_astore (lv' := [(6, fO α o16), (4, .long y14), (0, fO α (some 0)), (1, fO α (some k10)), (2, .int a2), (3, .int x3)]) hC dX6_layTract_45 (by decide) rfl ?_
      refine r_aload hC dX6_layTract_47 0 rfl ?_
      refine r_ifnonnull (tgt := 76) hC dX6_layTract_49 (by decide) (fun k17 q => ?_) (fun q => ?_)
      · replace h := h.2 k17 q
        subst q
        refine r_aload_n hC dX6_layTract_76 rfl 2 rfl ?_
        refine r_get (ci := 6) (f := 18) (v := fO α (some 9)) hC kX6_layTract_0 rfl (by decide) rfl kX6_layTract_4 fx_0 (ct_6 rfl) rfl dX6_layTract_77 ?_
        refine r_get (ci := 2) (f := 0) (v := fO α (some 10)) hC kX6_layTract_5 rfl (by decide) rfl kX6_layTract_6 fx_9 (ct_2 rfl) rfl dX6_layTract_80 ?_
        refine r_iload_n hC dX6_layTract_83 rfl 5 rfl ?_
        refine r_dup2 hC rfl fO_cat dX6_layTract_84 ?_
        obtain ⟨c21, h⟩ := h
        refine r_lald hC fx_10 rfl c21 dX6_layTract_85 ?_
        refine r_lload hC dX6_layTract_86 1 rfl ?_
        refine r_aload hC dX6_layTract_88 0 rfl ?_
        obtain ⟨v22, h⟩ := h
        refine r_get (ci := 1) (f := 3) (v := .int (gI σ15 k17 3)) hC kX6_layTract_8 rfl (by decide) rfl kX6_layTract_9 v22.1 (ct_1 v22.2) rfl dX6_layTract_90 ?_
        refine r_i2l hC dX6_layTract_93 ?_
        refine r_lmul hC dX6_layTract_94 ?_
        refine r_ladd hC dX6_layTract_95 ?_
        obtain ⟨c23, h⟩ := h
        refine r_last hC fx_10 rfl c23 dX6_layTract_96 ?_
        refine r_topm (fun σ24 qσ24 => ?_)
        replace h := h σ24 qσ24
        refine r_aload_n hC dX6_layTract_97 rfl 2 rfl ?_
        refine r_get (ci := 6) (f := 18) (v := fO α (some 9)) hC kX6_layTract_0 rfl (by decide) rfl kX6_layTract_4 fx_0 (ct_6 rfl) rfl dX6_layTract_98 ?_
        refine r_get (ci := 2) (f := 0) (v := fO α (some 10)) hC kX6_layTract_5 rfl (by decide) rfl kX6_layTract_6 fx_9 (ct_2 rfl) rfl dX6_layTract_101 ?_
        refine r_bipush (v := 10) hC dX6_layTract_104 (by decide) ?_
        refine r_aload hC dX6_layTract_106 0 rfl ?_
        refine r_get (ci := 1) (f := 2) (v := .int (gI σ24 k17 2)) hC kX6_layTract_8 rfl (by decide) rfl kX6_layTract_10 v22.1 (ct_1 v22.2) rfl dX6_layTract_108 ?_
        refine r_iadd hC dX6_layTract_111 ?_
        refine r_dup2 hC rfl fO_cat dX6_layTract_112 ?_
        obtain ⟨c25, h⟩ := h
        refine r_lald hC fx_10 rfl c25 dX6_layTract_113 ?_
        refine r_lload hC dX6_layTract_114 1 rfl ?_
        refine r_sipush (v := 1000) hC dX6_layTract_116 (by decide) ?_
        refine r_aload hC dX6_layTract_119 0 rfl ?_
        refine r_get (ci := 1) (f := 3) (v := .int (gI σ24 k17 3)) hC kX6_layTract_8 rfl (by decide) rfl kX6_layTract_9 v22.1 (ct_1 v22.2) rfl dX6_layTract_121 ?_
        refine r_isub hC dX6_layTract_124 ?_
        refine r_i2l hC dX6_layTract_125 ?_
        refine r_lmul hC dX6_layTract_126 ?_
        refine r_ladd hC dX6_layTract_127 ?_
        obtain ⟨c26, h⟩ := h
        refine r_last hC fx_10 rfl c26 dX6_layTract_128 ?_
        refine r_topm (fun σ27 qσ27 => ?_)
        replace h := h σ27 qσ27
        refine r_lvs [2, 3, 4, 5] rfl ?_
        exact KJ8 σ27 h
      · replace h := h.1 q
        subst q
        refine r_aload_n hC dX6_layTract_52 rfl 2 rfl ?_
        refine r_get (ci := 6) (f := 18) (v := fO α (some 9)) hC kX6_layTract_0 rfl (by decide) rfl kX6_layTract_4 fx_0 (ct_6 rfl) rfl dX6_layTract_53 ?_
        refine r_get (ci := 2) (f := 0) (v := fO α (some 10)) hC kX6_layTract_5 rfl (by decide) rfl kX6_layTract_6 fx_9 (ct_2 rfl) rfl dX6_layTract_56 ?_
        refine r_bipush (v := 10) hC dX6_layTract_59 (by decide) ?_
        refine r_iload_n hC dX6_layTract_61 rfl 5 rfl ?_
        refine r_iadd hC dX6_layTract_62 ?_
        refine r_dup2 hC rfl fO_cat dX6_layTract_63 ?_
        obtain ⟨c18, h⟩ := h
        refine r_lald hC fx_10 rfl c18 dX6_layTract_64 ?_
        refine r_lload hC dX6_layTract_65 1 rfl ?_
        refine r_ldc2 (v := 1000) hC kX6_layTract_7 dX6_layTract_67 ?_
        refine r_lmul hC dX6_layTract_70 ?_
        refine r_ladd hC dX6_layTract_71 ?_
        obtain ⟨c19, h⟩ := h
        refine r_last hC fx_10 rfl c19 dX6_layTract_72 ?_
        refine r_topm (fun σ20 qσ20 => ?_)
        replace h := h σ20 qσ20
        refine r_goto (tgt := 129) hC dX6_layTract_73 (by decide) ?_
        refine r_lvs [2, 3, 4, 5] rfl ?_
        exact KJ8 σ20 h
theorem kX6_layDeck_0 : ∀ w ∈ u_ws RX6 TX6 20, w ∈ wsX6_layDeck := by decide +kernel
theorem kX6_layDeck_1 : (Cond.fieldLink RX6 86 "Divisionorder" "deck" "LDivisionorder$Parting;") ∈ wsX6_layDeck := by decide +kernel
theorem kX6_layDeck_2 : (Cond.fieldLink RX6 15 "Divisionorder" "tracts" "[LDivisionorder$Tract;") ∈ wsX6_layDeck := by decide +kernel
theorem kX6_layDeck_3 : ∀ w ∈ u_ws RX3 TX3 3, w ∈ wsX6_layDeck := by decide +kernel
theorem kX6_layDeck_4 : (Cond.fieldLink RX6 179 "Divisionorder$Tract" "unit" "LDivisionorder$Unit;") ∈ wsX6_layDeck := by decide +kernel
set_option maxHeartbeats 4000000 in
set_option maxRecDepth 100000 in
theorem cm_X6_layDeck (l : Launch) (dC : Nat → ClassId) (dI : Nat → Nat → Nat) (dA : Nat → ClassId) (L : List Nat) (α : Nat → Nat) (σ : Mm) (a1 : Option Nat) (a2 : Int32) (Qm : Mm → Prop) (h : wp_X6_layDeck L σ a1 a2 Qm) (sz : Nat) : Met l yX6_layDeck wsX6_layDeck ({ frames := 3, cells := 0, slots := 0, locals := 76 } : Room) (cP dC dI dA (Fc ++ L) α σ sz [fO α (some 0), fO α a1, .int a2]) (va_Qv Qm (cB dC dI dA (Fc ++ L) α (wl dA (Fc ++ L) α σ) sz) (va_A (wl dA (Fc ++ L) α σ) sz)) 0 0 (va_A (wl dA (Fc ++ L) α σ) sz) := by
  refine m_start (own := RX6) (lv := [(0, fO α (some 0)), (1, fO α a1), (2, .int a2)]) (by decide) rfl rfl (by simp only [lgl_O, lgl_I, lgl_J, lgl_N]; decide) (by simp only [lva_O, lva_I, lva_J, lva_N]) ?_
  intro p e s m below meth c hsz hC hr hlk
  generalize hA : va_A (wl dA (Fc ++ L) α σ) sz = A at hC ⊢
  have hA := hA.symm
  generalize hargs : ([fO α (some 0), fO α a1, .int a2] : List Value).toArray = args at hC ⊢
  generalize hQ : MQ below _ args s 0 0 A = Q
  unfold wp_X6_layDeck at h
  refine r_aload_n hC dX6_layDeck_0 rfl 0 rfl ?_
  refine r_get (ci := 6) (f := 18) (v := fO α (some 9)) hC kX6_layDeck_0 rfl (by decide) rfl kX6_layDeck_1 fx_0 (ct_6 rfl) rfl dX6_layDeck_1 ?_
  refine r_callv hC [] (m_runV (n := 0) (ci := 2) hC [] [] (fun sz => cm_X2_clear l dC dI dA L α σ 9 _ h sz) gX6_layDeck_X2_clear rfl ⟨rfl, rfl⟩ (by decide +kernel) ⟨Nat.le_of_ble_eq_true rfl, Nat.le_of_ble_eq_true rfl⟩ fx_9 (ct_2 rfl) rfl rfl (Nat.le_of_ble_eq_true rfl) (by decide) dX6_layDeck_4) (fun σ1 hn => ?_)
  clear h
  revert hn
  intro h
  refine r_aload_n hC dX6_layDeck_7 rfl 0 rfl ?_
  refine r_get (ci := 6) (f := 1) (v := fO α (some 1)) hC kX6_layDeck_0 rfl (by decide) rfl kX6_layDeck_2 fx_0 (ct_6 rfl) rfl dX6_layDeck_8 ?_
  refine r_astore_n (lv' := [(3, fO α (some 1)), (0, fO α (some 0)), (1, fO α a1), (2, .int a2)]) hC dX6_layDeck_11 rfl (by decide) rfl ?_
  refine r_aload_n hC dX6_layDeck_12 rfl 0 rfl ?_
  refine r_alen_13 (v := 8) hC fx_1 rfl (by decide) dX6_layDeck_13 ?_
  refine r_istore (lv' := [(4, .int 8), (3, fO α (some 1)), (0, fO α (some 0)), (1, fO α a1), (2, .int a2)]) hC dX6_layDeck_14 (by decide) rfl ?_
  refine r_iconst (v := 0) hC dX6_layDeck_16 (by decide) ?_
  refine r_istore (lv' := [(5, .int 0), (4, .int 8), (3, fO α (some 1)), (0, fO α (some 0)), (1, fO α a1), (2, .int a2)]) hC dX6_layDeck_17 (by decide) rfl ?_
  refine r_lvs [3, 4, 5, 2, 1, 0] rfl ?_
  obtain ⟨n, h⟩ := h
  refine lpw_ind (S := Mm × Int32) (fun s5 => G p l e ({ frames := 3, cells := 0, slots := 0, locals := 76 } : Room) s m args below meth c 0 0 Q dC dI dA (Fc ++ L) α A 7 s5.1 19 [(0, fO α (some 0)), (1, fO α a1), (2, .int a2), (3, fO α (some 1)), (4, .int 8), (5, .int s5.2)] []) ?_ n (σ1, 0) h
  clear h
  intro R4 hR4 s5 h
  obtain ⟨σ2, x3⟩ := s5
  refine r_iload hC dX6_layDeck_19 5 rfl ?_
  refine r_iload hC dX6_layDeck_21 4 rfl ?_
  obtain ⟨J6, hJ6, h⟩ := h
  have KJ6 : J6 → G p l e ({ frames := 3, cells := 0, slots := 0, locals := 76 } : Room) s m args below meth c 0 0 Q dC dI dA (Fc ++ L) α A 7 σ2 62 [] [] := by
    clear h
    intro h
    replace h := hJ6 h
    subst hQ
    exact r_vret hC hA hr hlk dX6_layDeck_62 h
  refine r_icmp_ge (tgt := 62) hC dX6_layDeck_23 (by decide) (fun q => ?_) (fun q => ?_)
  · replace h := h.1 q
    refine r_lvs [] rfl ?_
    exact KJ6 h
  · replace h := h.2 q
    refine r_aload_n hC dX6_layDeck_26 rfl 3 rfl ?_
    refine r_iload hC dX6_layDeck_27 5 rfl ?_
    obtain ⟨c7, h⟩ := h
    refine r_aald_13 hC fx_1 rfl c7 dX6_layDeck_29 ?_
    refine r_topo (fun o8 qo8 => ?_)
    replace h := h o8 qo8
    refine r_astore (lv' := [(6, fO α o8), (0, fO α (some 0)), (1, fO α a1), (2, .int a2), (3, fO α (some 1)), (4, .int 8), (5, .int x3)]) hC dX6_layDeck_30 (by decide) rfl ?_
    refine r_aload hC dX6_layDeck_32 0 rfl ?_
    refine r_ifnonnull (tgt := 40) hC dX6_layDeck_34 (by decide) (fun k9 q => ?_) (fun q => ?_)
    · replace h := h.2 k9 q
      subst q
      refine r_aload hC dX6_layDeck_40 0 rfl ?_
      obtain ⟨v10, h⟩ := h
      refine r_get (ci := 3) (f := 2) (v := fO α (gR σ2 k9 2)) hC kX6_layDeck_3 rfl (by decide) rfl kX6_layDeck_4 v10.1 (ct_3 v10.2) rfl dX6_layDeck_42 ?_
      refine r_topo (fun o11 qo11 => ?_)
      replace h := h o11 qo11
      refine r_aload_n hC dX6_layDeck_45 rfl 2 rfl ?_
      obtain ⟨v12, h⟩ := h
      obtain ⟨v13, h⟩ := h
      obtain ⟨J15, hJ15, h⟩ := h
      have KJ15 : ∀ (σ14 : Mm), J15 σ14 → G p l e ({ frames := 3, cells := 0, slots := 0, locals := 76 } : Room) s m args below meth c 0 0 Q dC dI dA (Fc ++ L) α A 7 σ14 56 [(0, fO α (some 0)), (1, fO α a1), (2, .int a2), (3, fO α (some 1)), (4, .int 8), (5, .int x3)] [] := by
        clear h
        intro σ14 h
        replace h := hJ15 σ14 h
        obtain ⟨x16, qx16⟩ : ∃ z : Int32, z = x3 + 1 := ⟨_, rfl⟩
        replace h := h x16 qx16
        refine r_iinc (v := x16) (lv' := [(5, .int x16), (0, fO α (some 0)), (1, fO α a1), (2, .int a2), (3, fO α (some 1)), (4, .int 8)]) hC dX6_layDeck_56 (k := 5) rfl (by rw [qx16]; rfl) (by decide) rfl ?_
        refine r_goto (tgt := 19) hC dX6_layDeck_59 (by decide) ?_
        refine r_lvs [1, 2, 3, 4, 5, 0] rfl ?_
        exact hR4 _ h
      refine r_acmp_ne (tgt := 56) hC v12 v13 dX6_layDeck_46 (by decide) (fun q => ?_) (fun q => ?_)
      · replace h := h.1 q
        refine r_lvs [1, 2, 3, 4, 5, 6] rfl ?_
        exact KJ15 σ2 h
      · replace h := h.2 q
        refine r_aload_n hC dX6_layDeck_49 rfl 1 rfl ?_
        refine r_aload hC dX6_layDeck_50 0 rfl ?_
        refine r_iload_n hC dX6_layDeck_52 rfl 3 rfl ?_
        refine r_callv hC [] (m_runV (n := 2) (ci := 6) hC [fO α (some k9), .int a2] [] (fun sz => cm_X6_layTract l dC dI dA L α σ2 (some k9) a2 _ h sz) gX6_layDeck_X6_layTract rfl ⟨rfl, rfl⟩ (by decide +kernel) ⟨Nat.le_of_ble_eq_true rfl, Nat.le_of_ble_eq_true rfl⟩ fx_0 (ct_6 rfl) rfl rfl (Nat.le_of_ble_eq_true rfl) (by decide) dX6_layDeck_53) (fun σ17 hn => ?_)
        clear h
        revert hn
        intro h
        refine r_lvs [1, 2, 3, 4, 5, 6] rfl ?_
        exact KJ15 σ17 h
    · replace h := h.1 q
      subst q
      refine r_goto (tgt := 62) hC dX6_layDeck_37 (by decide) ?_
      refine r_lvs [] rfl ?_
      exact KJ6 h
set_option maxHeartbeats 4000000 in
set_option maxRecDepth 100000 in
theorem cm_X6_hasBit (l : Launch) (dC : Nat → ClassId) (dI : Nat → Nat → Nat) (dA : Nat → ClassId) (L : List Nat) (α : Nat → Nat) (σ : Mm) (a0 : Int32) (a1 : Int32) (Qm : Int32 → Mm → Prop) (h : wp_X6_hasBit L σ a0 a1 Qm) (sz : Nat) : Met l yX6_hasBit wsX6_hasBit ({ frames := 0, cells := 0, slots := 0, locals := 0 } : Room) (cP dC dI dA (Fc ++ L) α σ sz [.int a0, .int a1]) (va_Qi Qm (cB dC dI dA (Fc ++ L) α (wl dA (Fc ++ L) α σ) sz) (va_A (wl dA (Fc ++ L) α σ) sz)) 0 0 (va_A (wl dA (Fc ++ L) α σ) sz) := by
  refine m_start (own := RX6) (lv := [(0, .int a0), (1, .int a1)]) (by decide) rfl rfl (by simp only [lgl_O, lgl_I, lgl_J, lgl_N]; decide) (by simp only [lva_O, lva_I, lva_J, lva_N]) ?_
  intro p e s m below meth c hsz hC hr hlk
  generalize hA : va_A (wl dA (Fc ++ L) α σ) sz = A at hC ⊢
  have hA := hA.symm
  generalize hargs : ([.int a0, .int a1] : List Value).toArray = args at hC ⊢
  generalize hQ : MQ below _ args s 0 0 A = Q
  unfold wp_X6_hasBit at h
  refine r_iload_n hC dX6_hasBit_0 rfl 0 rfl ?_
  refine r_iload_n hC dX6_hasBit_1 rfl 1 rfl ?_
  refine r_ishr hC dX6_hasBit_2 ?_
  refine r_iconst (v := 1) hC dX6_hasBit_3 (by decide) ?_
  refine r_iand hC dX6_hasBit_4 ?_
  obtain ⟨J2, hJ2, h⟩ := h
  have KJ2 : ∀ (x1 : Int32), J2 x1 → G p l e ({ frames := 0, cells := 0, slots := 0, locals := 0 } : Room) s m args below meth c 0 0 Q dC dI dA (Fc ++ L) α A 2 σ 13 [] [.int x1] := by
    clear h
    intro x1 h
    replace h := hJ2 x1 h
    subst hQ
    exact r_zret hC hA hr hlk dX6_hasBit_13 h.1 h.2
  refine r_if_eq (tgt := 12) hC dX6_hasBit_5 (by decide) (fun q => ?_) (fun q => ?_)
  · replace h := h.1 q
    refine r_iconst (v := 0) hC dX6_hasBit_12 (by decide) ?_
    refine r_lvs [] rfl ?_
    exact KJ2 0 h
  · replace h := h.2 q
    refine r_iconst (v := 1) hC dX6_hasBit_8 (by decide) ?_
    refine r_goto (tgt := 13) hC dX6_hasBit_9 (by decide) ?_
    refine r_lvs [] rfl ?_
    exact KJ2 1 h
set_option maxHeartbeats 4000000 in
set_option maxRecDepth 100000 in
theorem cm_X6_withBit (l : Launch) (dC : Nat → ClassId) (dI : Nat → Nat → Nat) (dA : Nat → ClassId) (L : List Nat) (α : Nat → Nat) (σ : Mm) (a0 : Int32) (a1 : Int32) (a2 : Int32) (Qm : Int32 → Mm → Prop) (h : wp_X6_withBit L σ a0 a1 a2 Qm) (sz : Nat) : Met l yX6_withBit wsX6_withBit ({ frames := 0, cells := 0, slots := 0, locals := 0 } : Room) (cP dC dI dA (Fc ++ L) α σ sz [.int a0, .int a1, .int a2]) (va_Qi Qm (cB dC dI dA (Fc ++ L) α (wl dA (Fc ++ L) α σ) sz) (va_A (wl dA (Fc ++ L) α σ) sz)) 0 0 (va_A (wl dA (Fc ++ L) α σ) sz) := by
  refine m_start (own := RX6) (lv := [(0, .int a0), (1, .int a1), (2, .int a2)]) (by decide) rfl rfl (by simp only [lgl_O, lgl_I, lgl_J, lgl_N]; decide) (by simp only [lva_O, lva_I, lva_J, lva_N]) ?_
  intro p e s m below meth c hsz hC hr hlk
  generalize hA : va_A (wl dA (Fc ++ L) α σ) sz = A at hC ⊢
  have hA := hA.symm
  generalize hargs : ([.int a0, .int a1, .int a2] : List Value).toArray = args at hC ⊢
  generalize hQ : MQ below _ args s 0 0 A = Q
  unfold wp_X6_withBit at h
  refine r_iload_n hC dX6_withBit_0 rfl 2 rfl ?_
  obtain ⟨J2, hJ2, h⟩ := h
  have KJ2 : ∀ (x1 : Int32), J2 x1 → G p l e ({ frames := 0, cells := 0, slots := 0, locals := 0 } : Room) s m args below meth c 0 0 Q dC dI dA (Fc ++ L) α A 3 σ 19 [] [.int x1] := by
    clear h
    intro x1 h
    replace h := hJ2 x1 h
    subst hQ
    exact r_iret hC hA hr hlk dX6_withBit_19 h
  refine r_if_eq (tgt := 12) hC dX6_withBit_1 (by decide) (fun q => ?_) (fun q => ?_)
  · replace h := h.1 q
    refine r_iload_n hC dX6_withBit_12 rfl 0 rfl ?_
    refine r_iconst (v := 1) hC dX6_withBit_13 (by decide) ?_
    refine r_iload_n hC dX6_withBit_14 rfl 1 rfl ?_
    refine r_ishl hC dX6_withBit_15 ?_
    refine r_iconst (v := (-1)) hC dX6_withBit_16 (by decide) ?_
    refine r_ixor hC dX6_withBit_17 ?_
    refine r_iand hC dX6_withBit_18 ?_
    refine r_lvs [] rfl ?_
    exact KJ2 (a0 &&& ((1 <<< (a1 &&& 31)) ^^^ (-1))) h
  · replace h := h.2 q
    refine r_iload_n hC dX6_withBit_4 rfl 0 rfl ?_
    refine r_iconst (v := 1) hC dX6_withBit_5 (by decide) ?_
    refine r_iload_n hC dX6_withBit_6 rfl 1 rfl ?_
    refine r_ishl hC dX6_withBit_7 ?_
    refine r_ior hC dX6_withBit_8 ?_
    refine r_goto (tgt := 19) hC dX6_withBit_9 (by decide) ?_
    refine r_lvs [] rfl ?_
    exact KJ2 (a0 ||| (1 <<< (a1 &&& 31))) h
theorem kX6_carriedOwners_0 : ∀ w ∈ u_ws RX6 TX6 20, w ∈ wsX6_carriedOwners := by decide +kernel
theorem kX6_carriedOwners_1 : (Cond.fieldLink RX6 86 "Divisionorder" "deck" "LDivisionorder$Parting;") ∈ wsX6_carriedOwners := by decide +kernel
theorem kX6_carriedOwners_2 : ∀ w ∈ u_ws RX2 TX2 3, w ∈ wsX6_carriedOwners := by decide +kernel
theorem kX6_carriedOwners_3 : (Cond.fieldLink RX6 325 "Divisionorder$Parting" "weights" "[J") ∈ wsX6_carriedOwners := by decide +kernel
theorem kX6_carriedOwners_4 : ∀ w ∈ u_ws RX4 TX4 7, w ∈ wsX6_carriedOwners := by decide +kernel
theorem kX6_carriedOwners_5 : (Cond.fieldLink RX6 233 "Divisionorder$Unit" "refusing" "[I") ∈ wsX6_carriedOwners := by decide +kernel
theorem kX6_carriedOwners_6 : (Cond.fieldLink RX6 271 "Divisionorder$Unit" "balances" "[J") ∈ wsX6_carriedOwners := by decide +kernel
set_option maxHeartbeats 4000000 in
set_option maxRecDepth 100000 in
theorem cm_X6_carriedOwners (l : Launch) (dC : Nat → ClassId) (dI : Nat → Nat → Nat) (dA : Nat → ClassId) (L : List Nat) (α : Nat → Nat) (σ : Mm) (a1 : Option Nat) (a2 : Int32) (Qm : Int32 → Mm → Prop) (h : wp_X6_carriedOwners L σ a1 a2 Qm) (sz : Nat) : Met l yX6_carriedOwners wsX6_carriedOwners ({ frames := 1, cells := 0, slots := 0, locals := 22 } : Room) (cP dC dI dA (Fc ++ L) α σ sz [fO α (some 0), fO α a1, .int a2]) (va_Qi Qm (cB dC dI dA (Fc ++ L) α (wl dA (Fc ++ L) α σ) sz) (va_A (wl dA (Fc ++ L) α σ) sz)) 0 0 (va_A (wl dA (Fc ++ L) α σ) sz) := by
  refine m_start (own := RX6) (lv := [(0, fO α (some 0)), (1, fO α a1), (2, .int a2)]) (by decide) rfl rfl (by simp only [lgl_O, lgl_I, lgl_J, lgl_N]; decide) (by simp only [lva_O, lva_I, lva_J, lva_N]) ?_
  intro p e s m below meth c hsz hC hr hlk
  generalize hA : va_A (wl dA (Fc ++ L) α σ) sz = A at hC ⊢
  have hA := hA.symm
  generalize hargs : ([fO α (some 0), fO α a1, .int a2] : List Value).toArray = args at hC ⊢
  generalize hQ : MQ below _ args s 0 0 A = Q
  unfold wp_X6_carriedOwners at h
  refine r_iconst (v := 0) hC dX6_carriedOwners_0 (by decide) ?_
  refine r_istore_n (lv' := [(3, .int 0), (0, fO α (some 0)), (1, fO α a1), (2, .int a2)]) hC dX6_carriedOwners_1 rfl (by decide) rfl ?_
  refine r_iconst (v := 0) hC dX6_carriedOwners_2 (by decide) ?_
  refine r_istore (lv' := [(4, .int 0), (3, .int 0), (0, fO α (some 0)), (1, fO α a1), (2, .int a2)]) hC dX6_carriedOwners_3 (by decide) rfl ?_
  refine r_iconst (v := 0) hC dX6_carriedOwners_5 (by decide) ?_
  refine r_istore (lv' := [(5, .int 0), (4, .int 0), (3, .int 0), (0, fO α (some 0)), (1, fO α a1), (2, .int a2)]) hC dX6_carriedOwners_6 (by decide) rfl ?_
  refine r_lvs [3, 4, 5, 2, 1, 0] rfl ?_
  obtain ⟨n, h⟩ := h
  refine lpw_ind (S := Mm × Int32 × Int32 × Int32) (fun s6 => G p l e ({ frames := 1, cells := 0, slots := 0, locals := 22 } : Room) s m args below meth c 0 0 Q dC dI dA (Fc ++ L) α A 7 s6.1 8 [(0, fO α (some 0)), (1, fO α a1), (2, .int a2), (3, .int s6.2.1), (4, .int s6.2.2.1), (5, .int s6.2.2.2)] []) ?_ n (σ, 0, 0, 0) h
  clear h
  intro R5 hR5 s6 h
  obtain ⟨σ1, x2, x3, x4⟩ := s6
  refine r_iload hC dX6_carriedOwners_8 5 rfl ?_
  refine r_bipush (v := 10) hC dX6_carriedOwners_10 (by decide) ?_
  refine r_icmp_ge (tgt := 96) hC dX6_carriedOwners_12 (by decide) (fun q => ?_) (fun q => ?_)
  · replace h := h.1 q
    refine r_iload hC dX6_carriedOwners_96 4 rfl ?_
    refine r_iload_n hC dX6_carriedOwners_98 rfl 3 rfl ?_
    obtain ⟨J8, hJ8, h⟩ := h
    have KJ8 : ∀ (x7 : Int32), J8 x7 → G p l e ({ frames := 1, cells := 0, slots := 0, locals := 22 } : Room) s m args below meth c 0 0 Q dC dI dA (Fc ++ L) α A 7 σ1 108 [] [.int x7] := by
      clear h
      intro x7 h
      replace h := hJ8 x7 h
      subst hQ
      exact r_iret hC hA hr hlk dX6_carriedOwners_108 h
    refine r_icmp_ne (tgt := 106) hC dX6_carriedOwners_99 (by decide) (fun q => ?_) (fun q => ?_)
    · replace h := h.1 q
      refine r_iload hC dX6_carriedOwners_106 4 rfl ?_
      refine r_lvs [] rfl ?_
      exact KJ8 x3 h
    · replace h := h.2 q
      refine r_iconst (v := 0) hC dX6_carriedOwners_102 (by decide) ?_
      refine r_goto (tgt := 108) hC dX6_carriedOwners_103 (by decide) ?_
      refine r_lvs [] rfl ?_
      exact KJ8 0 h
  · replace h := h.2 q
    refine r_aload_n hC dX6_carriedOwners_15 rfl 0 rfl ?_
    refine r_get (ci := 6) (f := 18) (v := fO α (some 9)) hC kX6_carriedOwners_0 rfl (by decide) rfl kX6_carriedOwners_1 fx_0 (ct_6 rfl) rfl dX6_carriedOwners_16 ?_
    refine r_get (ci := 2) (f := 0) (v := fO α (some 10)) hC kX6_carriedOwners_2 rfl (by decide) rfl kX6_carriedOwners_3 fx_9 (ct_2 rfl) rfl dX6_carriedOwners_19 ?_
    refine r_bipush (v := 10) hC dX6_carriedOwners_22 (by decide) ?_
    refine r_iload hC dX6_carriedOwners_24 5 rfl ?_
    refine r_iadd hC dX6_carriedOwners_26 ?_
    obtain ⟨c9, h⟩ := h
    refine r_lald hC fx_10 rfl c9 dX6_carriedOwners_27 ?_
    refine r_lconst (v := 0) hC dX6_carriedOwners_28 (by decide) ?_
    obtain ⟨J13, hJ13, h⟩ := h
    have KJ13 : ∀ (σ10 : Mm) (x11 : Int32) (x12 : Int32), J13 σ10 x11 x12 → G p l e ({ frames := 1, cells := 0, slots := 0, locals := 22 } : Room) s m args below meth c 0 0 Q dC dI dA (Fc ++ L) α A 7 σ10 90 [(0, fO α (some 0)), (1, fO α a1), (2, .int a2), (3, .int x11), (4, .int x12), (5, .int x4)] [] := by
      clear h
      intro σ10 x11 x12 h
      replace h := hJ13 σ10 x11 x12 h
      obtain ⟨x14, qx14⟩ : ∃ z : Int32, z = x4 + 1 := ⟨_, rfl⟩
      replace h := h x14 qx14
      refine r_iinc (v := x14) (lv' := [(5, .int x14), (0, fO α (some 0)), (1, fO α a1), (2, .int a2), (3, .int x11), (4, .int x12)]) hC dX6_carriedOwners_90 (k := 5) rfl (by rw [qx14]; rfl) (by decide) rfl ?_
      refine r_goto (tgt := 8) hC dX6_carriedOwners_93 (by decide) ?_
      refine r_lvs [1, 2, 3, 4, 5, 0] rfl ?_
      exact hR5 _ h
    refine r_lcmp_le (tgt := 90) hC dX6_carriedOwners_29 dX6_carriedOwners_30 (by decide) (fun q => ?_) (fun q => ?_)
    · replace h := h.1 q
      exact KJ13 σ1 x2 x3 h
    · replace h := h.2 q
      refine r_aload_n hC dX6_carriedOwners_33 rfl 1 rfl ?_
      obtain ⟨k15, e16, h⟩ := h
      subst e16
      obtain ⟨v17, h⟩ := h
      refine r_get (ci := 4) (f := 1) (v := fO α (some (k15 + 1))) hC kX6_carriedOwners_4 rfl (by decide) rfl kX6_carriedOwners_5 v17.1 (ct_4 v17.2) rfl dX6_carriedOwners_34 ?_
      refine r_iload_n hC dX6_carriedOwners_37 rfl 2 rfl ?_
      obtain ⟨v18, h⟩ := h
      obtain ⟨c19, h⟩ := h
      refine r_iald hC v18.1 v18.2 c19 dX6_carriedOwners_38 ?_
      refine r_iload hC dX6_carriedOwners_39 5 rfl ?_
      refine r_calli hC [] (m_runS (n := 2) hC [.int (gI σ1 (k15 + 1) a2.toNatClampNeg), .int x4] [] (fun sz => cm_X6_hasBit l dC dI dA L α σ1 (gI σ1 (k15 + 1) a2.toNatClampNeg) x4 _ h sz) gX6_carriedOwners_X6_hasBit rfl ⟨rfl, rfl⟩ (by decide +kernel) ⟨Nat.le_of_ble_eq_true rfl, Nat.le_of_ble_eq_true rfl⟩ rfl (Nat.le_of_ble_eq_true rfl) (by decide) dX6_carriedOwners_41) (fun x21 σ20 hn => ?_)
      clear h
      revert hn
      intro h
      obtain ⟨J23, hJ23, h⟩ := h
      have KJ23 : ∀ (x22 : Int32), J23 x22 → G p l e ({ frames := 1, cells := 0, slots := 0, locals := 22 } : Room) s m args below meth c 0 0 Q dC dI dA (Fc ++ L) α A 7 σ20 69 [(0, fO α (some 0)), (1, fO α (some k15)), (2, .int a2), (3, .int x2), (4, .int x3), (5, .int x4)] [.int x22] := by
        clear h
        intro x22 h
        replace h := hJ23 x22 h
        refine r_istore (lv' := [(6, .int x22), (0, fO α (some 0)), (1, fO α (some k15)), (2, .int a2), (3, .int x2), (4, .int x3), (5, .int x4)]) hC dX6_carriedOwners_69 (by decide) rfl ?_
        refine r_iload_n hC dX6_carriedOwners_71 rfl 4 rfl ?_
        refine r_iload hC dX6_carriedOwners_72 6 rfl ?_
        refine r_iconst (v := 1) hC dX6_carriedOwners_74 (by decide) ?_
        refine r_calli hC [] (m_runS (n := 3) hC [.int x2, .int x4, .int 1] [] (fun sz => cm_X6_withBit l dC dI dA L α σ20 x2 x4 1 _ h sz) gX6_carriedOwners_X6_withBit rfl ⟨rfl, rfl⟩ (by decide +kernel) ⟨Nat.le_of_ble_eq_true rfl, Nat.le_of_ble_eq_true rfl⟩ rfl (Nat.le_of_ble_eq_true rfl) (by decide) dX6_carriedOwners_75) (fun x25 σ24 hn => ?_)
        clear h
        revert hn
        intro h
        refine r_istore_n (lv' := [(3, .int x25), (6, .int x22), (0, fO α (some 0)), (1, fO α (some k15)), (2, .int a2), (4, .int x3), (5, .int x4)]) hC dX6_carriedOwners_78 rfl (by decide) rfl ?_
        refine r_iload hC dX6_carriedOwners_79 5 rfl ?_
        refine r_iload hC dX6_carriedOwners_81 6 rfl ?_
        refine r_iload hC dX6_carriedOwners_83 1 rfl ?_
        refine r_calli hC [] (m_runS (n := 3) hC [.int x3, .int x4, .int x22] [] (fun sz => cm_X6_withBit l dC dI dA L α σ24 x3 x4 x22 _ h sz) gX6_carriedOwners_X6_withBit rfl ⟨rfl, rfl⟩ (by decide +kernel) ⟨Nat.le_of_ble_eq_true rfl, Nat.le_of_ble_eq_true rfl⟩ rfl (Nat.le_of_ble_eq_true rfl) (by decide) dX6_carriedOwners_85) (fun x27 σ26 hn => ?_)
        clear h
        revert hn
        intro h
        refine r_istore (lv' := [(4, .int x27), (3, .int x25), (6, .int x22), (0, fO α (some 0)), (1, fO α (some k15)), (2, .int a2), (5, .int x4)]) hC dX6_carriedOwners_88 (by decide) rfl ?_
        refine r_lvs [3, 4, 5, 1, 0, 6] rfl ?_
        exact KJ13 σ26 x25 x27 h
      obtain ⟨J28, hJ28, h⟩ := h
      have KJ28 : J28 → G p l e ({ frames := 1, cells := 0, slots := 0, locals := 22 } : Room) s m args below meth c 0 0 Q dC dI dA (Fc ++ L) α A 7 σ20 64 [(0, fO α (some 0)), (1, fO α (some k15)), (2, .int a2), (3, .int x2), (4, .int x3), (5, .int x4)] [] := by
        clear h
        intro h
        replace h := hJ28 h
        refine r_iconst (v := 1) hC dX6_carriedOwners_64 (by decide) ?_
        refine r_goto (tgt := 69) hC dX6_carriedOwners_65 (by decide) ?_
        exact KJ23 1 h
      refine r_if_ne (tgt := 64) hC dX6_carriedOwners_44 (by decide) (fun q => ?_) (fun q => ?_)
      · replace h := h.1 q
        exact KJ28 h
      · replace h := h.2 q
        refine r_aload_n hC dX6_carriedOwners_47 rfl 1 rfl ?_
        refine r_get (ci := 4) (f := 6) (v := fO α (some (k15 + 6))) hC kX6_carriedOwners_4 rfl (by decide) rfl kX6_carriedOwners_6 v17.1 (ct_4 v17.2) rfl dX6_carriedOwners_48 ?_
        refine r_iload_n hC dX6_carriedOwners_51 rfl 2 rfl ?_
        refine r_bipush (v := 10) hC dX6_carriedOwners_52 (by decide) ?_
        refine r_imul hC dX6_carriedOwners_54 ?_
        refine r_iload hC dX6_carriedOwners_55 5 rfl ?_
        refine r_iadd hC dX6_carriedOwners_57 ?_
        obtain ⟨v29, h⟩ := h
        obtain ⟨c30, h⟩ := h
        refine r_lald hC v29.1 v29.2 c30 dX6_carriedOwners_58 ?_
        refine r_lconst (v := 0) hC dX6_carriedOwners_59 (by decide) ?_
        refine r_lcmp_le (tgt := 68) hC dX6_carriedOwners_60 dX6_carriedOwners_61 (by decide) (fun q => ?_) (fun q => ?_)
        · replace h := h.1 q
          refine r_iconst (v := 0) hC dX6_carriedOwners_68 (by decide) ?_
          exact KJ23 0 h
        · replace h := h.2 q
          exact KJ28 h
theorem kX6_partByWorking_0 : ∀ w ∈ u_ws RX6 TX6 20, w ∈ wsX6_partByWorking := by decide +kernel
theorem kX6_partByWorking_1 : (Cond.fieldLink RX6 90 "Divisionorder" "sharers" "LDivisionorder$Parting;") ∈ wsX6_partByWorking := by decide +kernel
theorem kX6_partByWorking_2 : ∀ w ∈ u_ws RX2 TX2 3, w ∈ wsX6_partByWorking := by decide +kernel
theorem kX6_partByWorking_3 : (Cond.fieldLink RX6 325 "Divisionorder$Parting" "weights" "[J") ∈ wsX6_partByWorking := by decide +kernel
theorem kX6_partByWorking_4 : (Cond.fieldLink RX6 86 "Divisionorder" "deck" "LDivisionorder$Parting;") ∈ wsX6_partByWorking := by decide +kernel
set_option maxHeartbeats 4000000 in
set_option maxRecDepth 100000 in
theorem cm_X6_partByWorking (l : Launch) (dC : Nat → ClassId) (dI : Nat → Nat → Nat) (dA : Nat → ClassId) (L : List Nat) (α : Nat → Nat) (σ : Mm) (a1 : Int64) (a3 : Int32) (Qm : Mm → Prop) (h : wp_X6_partByWorking L σ a1 a3 Qm) (sz : Nat) : Met l yX6_partByWorking wsX6_partByWorking ({ frames := 2, cells := 0, slots := 0, locals := 51 } : Room) (cP dC dI dA (Fc ++ L) α σ sz [fO α (some 0), .long a1, .int a3]) (va_Qv Qm (cB dC dI dA (Fc ++ L) α (wl dA (Fc ++ L) α σ) sz) (va_A (wl dA (Fc ++ L) α σ) sz)) 0 0 (va_A (wl dA (Fc ++ L) α σ) sz) := by
  refine m_start (own := RX6) (lv := [(0, fO α (some 0)), (1, .long a1), (3, .int a3)]) (by decide) rfl rfl (by simp only [lgl_O, lgl_I, lgl_J, lgl_N]; decide) (by simp only [lva_O, lva_I, lva_J, lva_N]) ?_
  intro p e s m below meth c hsz hC hr hlk
  generalize hA : va_A (wl dA (Fc ++ L) α σ) sz = A at hC ⊢
  have hA := hA.symm
  generalize hargs : ([fO α (some 0), .long a1, .int a3] : List Value).toArray = args at hC ⊢
  generalize hQ : MQ below _ args s 0 0 A = Q
  unfold wp_X6_partByWorking at h
  refine r_iconst (v := 0) hC dX6_partByWorking_0 (by decide) ?_
  refine r_istore (lv' := [(4, .int 0), (0, fO α (some 0)), (1, .long a1), (3, .int a3)]) hC dX6_partByWorking_1 (by decide) rfl ?_
  refine r_lvs [1, 2, 3, 0] rfl ?_
  obtain ⟨n, h⟩ := h
  refine lpw_ind (S := Mm × Int32) (fun s4 => G p l e ({ frames := 2, cells := 0, slots := 0, locals := 51 } : Room) s m args below meth c 0 0 Q dC dI dA (Fc ++ L) α A 5 s4.1 3 [(0, fO α (some 0)), (1, .long a1), (3, .int a3), (4, .int s4.2)] []) ?_ n (σ, 0) h
  clear h
  intro R3 hR3 s4 h
  obtain ⟨σ1, x2⟩ := s4
  refine r_iload hC dX6_partByWorking_3 3 rfl ?_
  refine r_bipush (v := 10) hC dX6_partByWorking_5 (by decide) ?_
  refine r_icmp_ge (tgt := 52) hC dX6_partByWorking_7 (by decide) (fun q => ?_) (fun q => ?_)
  · replace h := h.1 q
    refine r_aload_n hC dX6_partByWorking_52 rfl 0 rfl ?_
    refine r_get (ci := 6) (f := 19) (v := fO α (some 13)) hC kX6_partByWorking_0 rfl (by decide) rfl kX6_partByWorking_1 fx_0 (ct_6 rfl) rfl dX6_partByWorking_53 ?_
    refine r_lload_n hC dX6_partByWorking_56 rfl 1 rfl ?_
    refine r_callv hC [] (m_runV (n := 1) (ci := 2) hC [.long a1] [] (fun sz => cm_X2_partOut l dC dI dA L α σ1 13 a1 _ h sz) gX6_partByWorking_X2_partOut rfl ⟨rfl, rfl⟩ (by decide +kernel) ⟨Nat.le_of_ble_eq_true rfl, Nat.le_of_ble_eq_true rfl⟩ fx_13 (ct_2 rfl) rfl rfl (Nat.le_of_ble_eq_true rfl) (by decide) dX6_partByWorking_57) (fun σ5 hn => ?_)
    clear h
    revert hn
    intro h
    subst hQ
    exact r_vret hC hA hr hlk dX6_partByWorking_60 h
  · replace h := h.2 q
    refine r_aload_n hC dX6_partByWorking_10 rfl 0 rfl ?_
    refine r_get (ci := 6) (f := 19) (v := fO α (some 13)) hC kX6_partByWorking_0 rfl (by decide) rfl kX6_partByWorking_1 fx_0 (ct_6 rfl) rfl dX6_partByWorking_11 ?_
    refine r_get (ci := 2) (f := 0) (v := fO α (some 14)) hC kX6_partByWorking_2 rfl (by decide) rfl kX6_partByWorking_3 fx_13 (ct_2 rfl) rfl dX6_partByWorking_14 ?_
    refine r_iload hC dX6_partByWorking_17 3 rfl ?_
    refine r_iload_n hC dX6_partByWorking_19 rfl 2 rfl ?_
    refine r_iload hC dX6_partByWorking_20 3 rfl ?_
    refine r_calli hC [.int x2, fO α (some 14)] (m_runS (n := 2) hC [.int a3, .int x2] [.int x2, fO α (some 14)] (fun sz => cm_X6_hasBit l dC dI dA L α σ1 a3 x2 _ h sz) gX6_partByWorking_X6_hasBit rfl ⟨rfl, rfl⟩ (by decide +kernel) ⟨Nat.le_of_ble_eq_true rfl, Nat.le_of_ble_eq_true rfl⟩ rfl (Nat.le_of_ble_eq_true rfl) (by decide) dX6_partByWorking_22) (fun x7 σ6 hn => ?_)
    clear h
    revert hn
    intro h
    obtain ⟨J9, hJ9, h⟩ := h
    have KJ9 : ∀ (y8 : Int64), J9 y8 → G p l e ({ frames := 2, cells := 0, slots := 0, locals := 51 } : Room) s m args below meth c 0 0 Q dC dI dA (Fc ++ L) α A 5 σ6 45 [(0, fO α (some 0)), (1, .long a1), (3, .int a3), (4, .int x2)] [.long y8, .int x2, fO α (some 14)] := by
      clear h
      intro y8 h
      replace h := hJ9 y8 h
      obtain ⟨c10, h⟩ := h
      refine r_last hC fx_14 rfl c10 dX6_partByWorking_45 ?_
      refine r_topm (fun σ11 qσ11 => ?_)
      replace h := h σ11 qσ11
      obtain ⟨x12, qx12⟩ : ∃ z : Int32, z = x2 + 1 := ⟨_, rfl⟩
      replace h := h x12 qx12
      refine r_iinc (v := x12) (lv' := [(4, .int x12), (0, fO α (some 0)), (1, .long a1), (3, .int a3)]) hC dX6_partByWorking_46 (k := 3) rfl (by rw [qx12]; rfl) (by decide) rfl ?_
      refine r_goto (tgt := 3) hC dX6_partByWorking_49 (by decide) ?_
      refine r_lvs [1, 2, 3, 0] rfl ?_
      exact hR3 _ h
    refine r_if_eq (tgt := 32) hC dX6_partByWorking_25 (by decide) (fun q => ?_) (fun q => ?_)
    · replace h := h.1 q
      refine r_aload_n hC dX6_partByWorking_32 rfl 0 rfl ?_
      refine r_get (ci := 6) (f := 18) (v := fO α (some 9)) hC kX6_partByWorking_0 rfl (by decide) rfl kX6_partByWorking_4 fx_0 (ct_6 rfl) rfl dX6_partByWorking_33 ?_
      refine r_get (ci := 2) (f := 0) (v := fO α (some 10)) hC kX6_partByWorking_2 rfl (by decide) rfl kX6_partByWorking_3 fx_9 (ct_2 rfl) rfl dX6_partByWorking_36 ?_
      refine r_bipush (v := 10) hC dX6_partByWorking_39 (by decide) ?_
      refine r_iload hC dX6_partByWorking_41 3 rfl ?_
      refine r_iadd hC dX6_partByWorking_43 ?_
      obtain ⟨c13, h⟩ := h
      refine r_lald hC fx_10 rfl c13 dX6_partByWorking_44 ?_
      exact KJ9 (gJ σ6 10 (10 + x2).toNatClampNeg) h
    · replace h := h.2 q
      refine r_lconst (v := 0) hC dX6_partByWorking_28 (by decide) ?_
      refine r_goto (tgt := 45) hC dX6_partByWorking_29 (by decide) ?_
      exact KJ9 0 h
theorem kX6_bookCosts_0 : ∀ w ∈ u_ws RX4 TX4 7, w ∈ wsX6_bookCosts := by decide +kernel
theorem kX6_bookCosts_1 : (Cond.fieldLink RX6 222 "Divisionorder$Unit" "costs" "[I") ∈ wsX6_bookCosts := by decide +kernel
theorem kX6_bookCosts_2 : (Cond.fieldLink RX6 268 "Divisionorder$Unit" "dues" "[J") ∈ wsX6_bookCosts := by decide +kernel
theorem kX6_bookCosts_3 : ∀ w ∈ u_ws RX6 TX6 20, w ∈ wsX6_bookCosts := by decide +kernel
theorem kX6_bookCosts_4 : (Cond.fieldLink RX6 90 "Divisionorder" "sharers" "LDivisionorder$Parting;") ∈ wsX6_bookCosts := by decide +kernel
theorem kX6_bookCosts_5 : ∀ w ∈ u_ws RX2 TX2 3, w ∈ wsX6_bookCosts := by decide +kernel
theorem kX6_bookCosts_6 : (Cond.fieldLink RX6 256 "Divisionorder$Parting" "parts" "[J") ∈ wsX6_bookCosts := by decide +kernel
theorem kX6_bookCosts_7 : (Cond.fieldLink RX6 271 "Divisionorder$Unit" "balances" "[J") ∈ wsX6_bookCosts := by decide +kernel
theorem kX6_bookCosts_8 : (Cond.fieldLink RX6 62 "Divisionorder" "penaltyHundredths" "I") ∈ wsX6_bookCosts := by decide +kernel
theorem kX6_bookCosts_9 : (Cond.constantLong RX6 306 (100)) ∈ wsX6_bookCosts := by decide +kernel
set_option maxHeartbeats 4000000 in
set_option maxRecDepth 100000 in
theorem cm_X6_bookCosts (l : Launch) (dC : Nat → ClassId) (dI : Nat → Nat → Nat) (dA : Nat → ClassId) (L : List Nat) (α : Nat → Nat) (σ : Mm) (a1 : Option Nat) (a2 : Int32) (a3 : Int32) (Qm : Mm → Prop) (h : wp_X6_bookCosts L σ a1 a2 a3 Qm) (sz : Nat) : Met l yX6_bookCosts wsX6_bookCosts ({ frames := 3, cells := 0, slots := 0, locals := 75 } : Room) (cP dC dI dA (Fc ++ L) α σ sz [fO α (some 0), fO α a1, .int a2, .int a3]) (va_Qv Qm (cB dC dI dA (Fc ++ L) α (wl dA (Fc ++ L) α σ) sz) (va_A (wl dA (Fc ++ L) α σ) sz)) 0 0 (va_A (wl dA (Fc ++ L) α σ) sz) := by
  refine m_start (own := RX6) (lv := [(0, fO α (some 0)), (1, fO α a1), (2, .int a2), (3, .int a3)]) (by decide) rfl rfl (by simp only [lgl_O, lgl_I, lgl_J, lgl_N]; decide) (by simp only [lva_O, lva_I, lva_J, lva_N]) ?_
  intro p e s m below meth c hsz hC hr hlk
  generalize hA : va_A (wl dA (Fc ++ L) α σ) sz = A at hC ⊢
  have hA := hA.symm
  generalize hargs : ([fO α (some 0), fO α a1, .int a2, .int a3] : List Value).toArray = args at hC ⊢
  generalize hQ : MQ below _ args s 0 0 A = Q
  unfold wp_X6_bookCosts at h
  refine r_iload_n hC dX6_bookCosts_0 rfl 2 rfl ?_
  refine r_bipush (v := 10) hC dX6_bookCosts_1 (by decide) ?_
  refine r_imul hC dX6_bookCosts_3 ?_
  refine r_topi (fun x1 qx1 => ?_)
  replace h := h x1 qx1
  refine r_istore (lv' := [(4, .int x1), (0, fO α (some 0)), (1, fO α a1), (2, .int a2), (3, .int a3)]) hC dX6_bookCosts_4 (by decide) rfl ?_
  refine r_aload_n hC dX6_bookCosts_6 rfl 1 rfl ?_
  refine r_aload_n hC dX6_bookCosts_7 rfl 2 rfl ?_
  obtain ⟨k2, e3, h⟩ := h
  subst e3
  obtain ⟨v4, h⟩ := h
  refine r_get (ci := 4) (f := 4) (v := fO α (some (k2 + 4))) hC kX6_bookCosts_0 rfl (by decide) rfl kX6_bookCosts_1 v4.1 (ct_4 v4.2) rfl dX6_bookCosts_8 ?_
  refine r_iload_n hC dX6_bookCosts_11 rfl 3 rfl ?_
  obtain ⟨v5, h⟩ := h
  obtain ⟨c6, h⟩ := h
  refine r_iald hC v5.1 v5.2 c6 dX6_bookCosts_12 ?_
  refine r_i2l hC dX6_bookCosts_13 ?_
  refine r_iconst (v := 0) hC dX6_bookCosts_14 (by decide) ?_
  refine r_callv hC [] (m_runV (n := 2) (ci := 6) hC [.long ((gI σ (k2 + 4) a2.toNatClampNeg).toInt64), .int 0] [] (fun sz => cm_X6_partByWorking l dC dI dA L α σ ((gI σ (k2 + 4) a2.toNatClampNeg).toInt64) 0 _ h sz) gX6_bookCosts_X6_partByWorking rfl ⟨rfl, rfl⟩ (by decide +kernel) ⟨Nat.le_of_ble_eq_true rfl, Nat.le_of_ble_eq_true rfl⟩ fx_0 (ct_6 rfl) rfl rfl (Nat.le_of_ble_eq_true rfl) (by decide) dX6_bookCosts_15) (fun σ7 hn => ?_)
  clear h
  revert hn
  intro h
  refine r_iconst (v := 0) hC dX6_bookCosts_18 (by decide) ?_
  refine r_istore (lv' := [(5, .int 0), (4, .int x1), (0, fO α (some 0)), (1, fO α (some k2)), (2, .int a2), (3, .int a3)]) hC dX6_bookCosts_19 (by decide) rfl ?_
  refine r_lvs [2, 3, 4, 5, 1, 0] rfl ?_
  obtain ⟨n, h⟩ := h
  refine lpw_ind (S := Mm × Int32) (fun s11 => G p l e ({ frames := 3, cells := 0, slots := 0, locals := 75 } : Room) s m args below meth c 0 0 Q dC dI dA (Fc ++ L) α A 6 s11.1 21 [(0, fO α (some 0)), (1, fO α (some k2)), (2, .int a2), (3, .int a3), (4, .int x1), (5, .int s11.2)] []) ?_ n (σ7, 0) h
  clear h
  intro R10 hR10 s11 h
  obtain ⟨σ8, x9⟩ := s11
  refine r_iload hC dX6_bookCosts_21 5 rfl ?_
  refine r_bipush (v := 10) hC dX6_bookCosts_23 (by decide) ?_
  refine r_icmp_ge (tgt := 76) hC dX6_bookCosts_25 (by decide) (fun q => ?_) (fun q => ?_)
  · replace h := h.1 q
    refine r_aload_n hC dX6_bookCosts_76 rfl 0 rfl ?_
    refine r_aload_n hC dX6_bookCosts_77 rfl 1 rfl ?_
    refine r_get (ci := 4) (f := 4) (v := fO α (some (k2 + 4))) hC kX6_bookCosts_0 rfl (by decide) rfl kX6_bookCosts_1 v4.1 (ct_4 v4.2) rfl dX6_bookCosts_78 ?_
    refine r_iload_n hC dX6_bookCosts_81 rfl 2 rfl ?_
    obtain ⟨c12, h⟩ := h
    refine r_iald hC v5.1 v5.2 c12 dX6_bookCosts_82 ?_
    refine r_i2l hC dX6_bookCosts_83 ?_
    refine r_iload_n hC dX6_bookCosts_84 rfl 3 rfl ?_
    refine r_callv hC [] (m_runV (n := 2) (ci := 6) hC [.long ((gI σ8 (k2 + 4) a2.toNatClampNeg).toInt64), .int a3] [] (fun sz => cm_X6_partByWorking l dC dI dA L α σ8 ((gI σ8 (k2 + 4) a2.toNatClampNeg).toInt64) a3 _ h sz) gX6_bookCosts_X6_partByWorking rfl ⟨rfl, rfl⟩ (by decide +kernel) ⟨Nat.le_of_ble_eq_true rfl, Nat.le_of_ble_eq_true rfl⟩ fx_0 (ct_6 rfl) rfl rfl (Nat.le_of_ble_eq_true rfl) (by decide) dX6_bookCosts_85) (fun σ13 hn => ?_)
    clear h
    revert hn
    intro h
    refine r_iconst (v := 0) hC dX6_bookCosts_88 (by decide) ?_
    refine r_istore (lv' := [(5, .int 0), (0, fO α (some 0)), (1, fO α (some k2)), (2, .int a2), (3, .int a3), (4, .int x1)]) hC dX6_bookCosts_89 (by decide) rfl ?_
    refine r_lvs [1, 2, 5, 0] rfl ?_
    obtain ⟨n, h⟩ := h
    refine lpw_ind (S := Mm × Int32) (fun s17 => G p l e ({ frames := 3, cells := 0, slots := 0, locals := 75 } : Room) s m args below meth c 0 0 Q dC dI dA (Fc ++ L) α A 6 s17.1 91 [(0, fO α (some 0)), (1, fO α (some k2)), (4, .int x1), (5, .int s17.2)] []) ?_ n (σ13, 0) h
    clear h
    intro R16 hR16 s17 h
    obtain ⟨σ14, x15⟩ := s17
    refine r_iload hC dX6_bookCosts_91 3 rfl ?_
    refine r_bipush (v := 10) hC dX6_bookCosts_93 (by decide) ?_
    refine r_icmp_ge (tgt := 127) hC dX6_bookCosts_95 (by decide) (fun q => ?_) (fun q => ?_)
    · replace h := h.1 q
      subst hQ
      exact r_vret hC hA hr hlk dX6_bookCosts_127 h
    · replace h := h.2 q
      refine r_aload_n hC dX6_bookCosts_98 rfl 1 rfl ?_
      refine r_get (ci := 4) (f := 5) (v := fO α (some (k2 + 5))) hC kX6_bookCosts_0 rfl (by decide) rfl kX6_bookCosts_2 v4.1 (ct_4 v4.2) rfl dX6_bookCosts_99 ?_
      refine r_iload hC dX6_bookCosts_102 2 rfl ?_
      refine r_iload hC dX6_bookCosts_104 3 rfl ?_
      refine r_iadd hC dX6_bookCosts_106 ?_
      refine r_dup2 hC rfl fO_cat dX6_bookCosts_107 ?_
      obtain ⟨v18, h⟩ := h
      obtain ⟨c19, h⟩ := h
      refine r_lald hC v18.1 v18.2 c19 dX6_bookCosts_108 ?_
      refine r_aload_n hC dX6_bookCosts_109 rfl 0 rfl ?_
      refine r_get (ci := 6) (f := 19) (v := fO α (some 13)) hC kX6_bookCosts_3 rfl (by decide) rfl kX6_bookCosts_4 fx_0 (ct_6 rfl) rfl dX6_bookCosts_110 ?_
      refine r_get (ci := 2) (f := 1) (v := fO α (some 15)) hC kX6_bookCosts_5 rfl (by decide) rfl kX6_bookCosts_6 fx_13 (ct_2 rfl) rfl dX6_bookCosts_113 ?_
      refine r_iload hC dX6_bookCosts_116 3 rfl ?_
      obtain ⟨c20, h⟩ := h
      refine r_lald hC fx_15 rfl c20 dX6_bookCosts_118 ?_
      refine r_lsub hC dX6_bookCosts_119 ?_
      obtain ⟨c21, h⟩ := h
      refine r_last hC v18.1 v18.2 c21 dX6_bookCosts_120 ?_
      refine r_topm (fun σ22 qσ22 => ?_)
      replace h := h σ22 qσ22
      obtain ⟨x23, qx23⟩ : ∃ z : Int32, z = x15 + 1 := ⟨_, rfl⟩
      replace h := h x23 qx23
      refine r_iinc (v := x23) (lv' := [(5, .int x23), (0, fO α (some 0)), (1, fO α (some k2)), (4, .int x1)]) hC dX6_bookCosts_121 (k := 3) rfl (by rw [qx23]; rfl) (by decide) rfl ?_
      refine r_goto (tgt := 91) hC dX6_bookCosts_124 (by decide) ?_
      refine r_lvs [1, 2, 3, 0] rfl ?_
      exact hR16 _ h
  · replace h := h.2 q
    refine r_iload_n hC dX6_bookCosts_28 rfl 3 rfl ?_
    refine r_iload hC dX6_bookCosts_29 5 rfl ?_
    refine r_calli hC [] (m_runS (n := 2) hC [.int a3, .int x9] [] (fun sz => cm_X6_hasBit l dC dI dA L α σ8 a3 x9 _ h sz) gX6_bookCosts_X6_hasBit rfl ⟨rfl, rfl⟩ (by decide +kernel) ⟨Nat.le_of_ble_eq_true rfl, Nat.le_of_ble_eq_true rfl⟩ rfl (Nat.le_of_ble_eq_true rfl) (by decide) dX6_bookCosts_31) (fun x25 σ24 hn => ?_)
    clear h
    revert hn
    intro h
    obtain ⟨J27, hJ27, h⟩ := h
    have KJ27 : ∀ (σ26 : Mm), J27 σ26 → G p l e ({ frames := 3, cells := 0, slots := 0, locals := 75 } : Room) s m args below meth c 0 0 Q dC dI dA (Fc ++ L) α A 6 σ26 70 [(0, fO α (some 0)), (1, fO α (some k2)), (2, .int a2), (3, .int a3), (4, .int x1), (5, .int x9)] [] := by
      clear h
      intro σ26 h
      replace h := hJ27 σ26 h
      obtain ⟨x28, qx28⟩ : ∃ z : Int32, z = x9 + 1 := ⟨_, rfl⟩
      replace h := h x28 qx28
      refine r_iinc (v := x28) (lv' := [(5, .int x28), (0, fO α (some 0)), (1, fO α (some k2)), (2, .int a2), (3, .int a3), (4, .int x1)]) hC dX6_bookCosts_70 (k := 5) rfl (by rw [qx28]; rfl) (by decide) rfl ?_
      refine r_goto (tgt := 21) hC dX6_bookCosts_73 (by decide) ?_
      refine r_lvs [1, 2, 3, 4, 5, 0] rfl ?_
      exact hR10 _ h
    refine r_if_eq (tgt := 70) hC dX6_bookCosts_34 (by decide) (fun q => ?_) (fun q => ?_)
    · replace h := h.1 q
      exact KJ27 σ24 h
    · replace h := h.2 q
      refine r_aload_n hC dX6_bookCosts_37 rfl 1 rfl ?_
      refine r_get (ci := 4) (f := 6) (v := fO α (some (k2 + 6))) hC kX6_bookCosts_0 rfl (by decide) rfl kX6_bookCosts_7 v4.1 (ct_4 v4.2) rfl dX6_bookCosts_38 ?_
      refine r_iload hC dX6_bookCosts_41 4 rfl ?_
      refine r_iload hC dX6_bookCosts_43 5 rfl ?_
      refine r_iadd hC dX6_bookCosts_45 ?_
      refine r_dup2 hC rfl fO_cat dX6_bookCosts_46 ?_
      obtain ⟨v29, h⟩ := h
      obtain ⟨c30, h⟩ := h
      refine r_lald hC v29.1 v29.2 c30 dX6_bookCosts_47 ?_
      refine r_aload_n hC dX6_bookCosts_48 rfl 0 rfl ?_
      refine r_get (ci := 6) (f := 19) (v := fO α (some 13)) hC kX6_bookCosts_3 rfl (by decide) rfl kX6_bookCosts_4 fx_0 (ct_6 rfl) rfl dX6_bookCosts_49 ?_
      refine r_get (ci := 2) (f := 1) (v := fO α (some 15)) hC kX6_bookCosts_5 rfl (by decide) rfl kX6_bookCosts_6 fx_13 (ct_2 rfl) rfl dX6_bookCosts_52 ?_
      refine r_iload hC dX6_bookCosts_55 5 rfl ?_
      obtain ⟨c31, h⟩ := h
      refine r_lald hC fx_15 rfl c31 dX6_bookCosts_57 ?_
      refine r_aload_n hC dX6_bookCosts_58 rfl 0 rfl ?_
      refine r_get (ci := 6) (f := 12) (v := .int (gI σ24 0 12)) hC kX6_bookCosts_3 rfl (by decide) rfl kX6_bookCosts_8 fx_0 (ct_6 rfl) rfl dX6_bookCosts_59 ?_
      refine r_i2l hC dX6_bookCosts_62 ?_
      refine r_lmul hC dX6_bookCosts_63 ?_
      refine r_ldc2 (v := 100) hC kX6_bookCosts_9 dX6_bookCosts_64 ?_
      refine r_ldiv hC (by decide) dX6_bookCosts_67 ?_
      refine r_ladd hC dX6_bookCosts_68 ?_
      obtain ⟨c32, h⟩ := h
      refine r_last hC v29.1 v29.2 c32 dX6_bookCosts_69 ?_
      refine r_topm (fun σ33 qσ33 => ?_)
      replace h := h σ33 qσ33
      exact KJ27 σ33 h
theorem kX6_taxIn_0 : ∀ w ∈ u_ws RX6 TX6 20, w ∈ wsX6_taxIn := by decide +kernel
theorem kX6_taxIn_1 : (Cond.fieldLink RX6 58 "Divisionorder" "taxesTold" "[I") ∈ wsX6_taxIn := by decide +kernel
set_option maxHeartbeats 4000000 in
set_option maxRecDepth 100000 in
theorem cm_X6_taxIn (l : Launch) (dC : Nat → ClassId) (dI : Nat → Nat → Nat) (dA : Nat → ClassId) (L : List Nat) (α : Nat → Nat) (σ : Mm) (a1 : Int32) (Qm : Int32 → Mm → Prop) (h : wp_X6_taxIn L σ a1 Qm) (sz : Nat) : Met l yX6_taxIn wsX6_taxIn ({ frames := 0, cells := 0, slots := 0, locals := 0 } : Room) (cP dC dI dA (Fc ++ L) α σ sz [fO α (some 0), .int a1]) (va_Qi Qm (cB dC dI dA (Fc ++ L) α (wl dA (Fc ++ L) α σ) sz) (va_A (wl dA (Fc ++ L) α σ) sz)) 0 0 (va_A (wl dA (Fc ++ L) α σ) sz) := by
  refine m_start (own := RX6) (lv := [(0, fO α (some 0)), (1, .int a1)]) (by decide) rfl rfl (by simp only [lgl_O, lgl_I, lgl_J, lgl_N]; decide) (by simp only [lva_O, lva_I, lva_J, lva_N]) ?_
  intro p e s m below meth c hsz hC hr hlk
  generalize hA : va_A (wl dA (Fc ++ L) α σ) sz = A at hC ⊢
  have hA := hA.symm
  generalize hargs : ([fO α (some 0), .int a1] : List Value).toArray = args at hC ⊢
  generalize hQ : MQ below _ args s 0 0 A = Q
  unfold wp_X6_taxIn at h
  refine r_iload_n hC dX6_taxIn_0 rfl 1 rfl ?_
  refine r_istore_n (lv' := [(2, .int a1), (0, fO α (some 0)), (1, .int a1)]) hC dX6_taxIn_1 rfl (by decide) rfl ?_
  refine r_lvs [1, 0] rfl ?_
  obtain ⟨n, h⟩ := h
  refine lpw_ind (S := Int32) (fun s3 => G p l e ({ frames := 0, cells := 0, slots := 0, locals := 0 } : Room) s m args below meth c 0 0 Q dC dI dA (Fc ++ L) α A 3 σ 2 [(0, fO α (some 0)), (2, .int s3)] []) ?_ n a1 h
  clear h
  intro R2 hR2 x1 h
  refine r_iload_n hC dX6_taxIn_2 rfl 1 rfl ?_
  refine r_if_lt (tgt := 29) hC dX6_taxIn_3 (by decide) (fun q => ?_) (fun q => ?_)
  · replace h := h.1 q
    refine r_iconst (v := 0) hC dX6_taxIn_29 (by decide) ?_
    subst hQ
    exact r_iret hC hA hr hlk dX6_taxIn_30 h
  · replace h := h.2 q
    refine r_aload_n hC dX6_taxIn_6 rfl 0 rfl ?_
    refine r_get (ci := 6) (f := 11) (v := fO α (some 6)) hC kX6_taxIn_0 rfl (by decide) rfl kX6_taxIn_1 fx_0 (ct_6 rfl) rfl dX6_taxIn_7 ?_
    refine r_iload_n hC dX6_taxIn_10 rfl 1 rfl ?_
    obtain ⟨c4, h⟩ := h
    refine r_iald hC fx_6 rfl c4 dX6_taxIn_11 ?_
    refine r_iconst (v := (-1)) hC dX6_taxIn_12 (by decide) ?_
    refine r_icmp_eq (tgt := 23) hC dX6_taxIn_13 (by decide) (fun q => ?_) (fun q => ?_)
    · replace h := h.1 q
      obtain ⟨x5, qx5⟩ : ∃ z : Int32, z = x1 + (-1) := ⟨_, rfl⟩
      replace h := h x5 qx5
      refine r_iinc (v := x5) (lv' := [(2, .int x5), (0, fO α (some 0))]) hC dX6_taxIn_23 (k := 1) rfl (by rw [qx5]; rfl) (by decide) rfl ?_
      refine r_goto (tgt := 2) hC dX6_taxIn_26 (by decide) ?_
      refine r_lvs [1, 0] rfl ?_
      exact hR2 _ h
    · replace h := h.2 q
      refine r_aload_n hC dX6_taxIn_16 rfl 0 rfl ?_
      refine r_get (ci := 6) (f := 11) (v := fO α (some 6)) hC kX6_taxIn_0 rfl (by decide) rfl kX6_taxIn_1 fx_0 (ct_6 rfl) rfl dX6_taxIn_17 ?_
      refine r_iload_n hC dX6_taxIn_20 rfl 1 rfl ?_
      obtain ⟨c6, h⟩ := h
      refine r_iald hC fx_6 rfl c6 dX6_taxIn_21 ?_
      subst hQ
      exact r_iret hC hA hr hlk dX6_taxIn_22 h
theorem kX6_revenueOf_0 : ∀ w ∈ u_ws RX4 TX4 7, w ∈ wsX6_revenueOf := by decide +kernel
theorem kX6_revenueOf_1 : (Cond.fieldLink RX6 303 "Divisionorder$Unit" "gross" "[I") ∈ wsX6_revenueOf := by decide +kernel
theorem kX6_revenueOf_2 : (Cond.constantLong RX6 306 (100)) ∈ wsX6_revenueOf := by decide +kernel
set_option maxHeartbeats 4000000 in
set_option maxRecDepth 100000 in
theorem cm_X6_revenueOf (l : Launch) (dC : Nat → ClassId) (dI : Nat → Nat → Nat) (dA : Nat → ClassId) (L : List Nat) (α : Nat → Nat) (σ : Mm) (a1 : Option Nat) (a2 : Int32) (Qm : Int64 → Mm → Prop) (h : wp_X6_revenueOf L σ a1 a2 Qm) (sz : Nat) : Met l yX6_revenueOf wsX6_revenueOf ({ frames := 1, cells := 0, slots := 0, locals := 22 } : Room) (cP dC dI dA (Fc ++ L) α σ sz [fO α (some 0), fO α a1, .int a2]) (va_Ql Qm (cB dC dI dA (Fc ++ L) α (wl dA (Fc ++ L) α σ) sz) (va_A (wl dA (Fc ++ L) α σ) sz)) 0 0 (va_A (wl dA (Fc ++ L) α σ) sz) := by
  refine m_start (own := RX6) (lv := [(0, fO α (some 0)), (1, fO α a1), (2, .int a2)]) (by decide) rfl rfl (by simp only [lgl_O, lgl_I, lgl_J, lgl_N]; decide) (by simp only [lva_O, lva_I, lva_J, lva_N]) ?_
  intro p e s m below meth c hsz hC hr hlk
  generalize hA : va_A (wl dA (Fc ++ L) α σ) sz = A at hC ⊢
  have hA := hA.symm
  generalize hargs : ([fO α (some 0), fO α a1, .int a2] : List Value).toArray = args at hC ⊢
  generalize hQ : MQ below _ args s 0 0 A = Q
  unfold wp_X6_revenueOf at h
  refine r_aload_n hC dX6_revenueOf_0 rfl 1 rfl ?_
  obtain ⟨k1, e2, h⟩ := h
  subst e2
  obtain ⟨v3, h⟩ := h
  refine r_get (ci := 4) (f := 3) (v := fO α (some (k1 + 3))) hC kX6_revenueOf_0 rfl (by decide) rfl kX6_revenueOf_1 v3.1 (ct_4 v3.2) rfl dX6_revenueOf_1 ?_
  refine r_iload_n hC dX6_revenueOf_4 rfl 2 rfl ?_
  obtain ⟨v4, h⟩ := h
  obtain ⟨c5, h⟩ := h
  refine r_iald hC v4.1 v4.2 c5 dX6_revenueOf_5 ?_
  refine r_i2l hC dX6_revenueOf_6 ?_
  refine r_topl (fun y6 qy6 => ?_)
  replace h := h y6 qy6
  refine r_lstore_n (lv' := [(3, .long y6), (0, fO α (some 0)), (1, fO α (some k1)), (2, .int a2)]) hC dX6_revenueOf_7 rfl (by decide) rfl ?_
  refine r_lload_n hC dX6_revenueOf_8 rfl 0 rfl ?_
  refine r_lload_n hC dX6_revenueOf_9 rfl 0 rfl ?_
  refine r_aload_n hC dX6_revenueOf_10 rfl 1 rfl ?_
  refine r_iload_n hC dX6_revenueOf_11 rfl 3 rfl ?_
  refine r_calli hC [.long y6, .long y6] (m_runV (n := 1) (ci := 6) hC [.int a2] [.long y6, .long y6] (fun sz => cm_X6_taxIn l dC dI dA L α σ a2 _ h sz) gX6_revenueOf_X6_taxIn rfl ⟨rfl, rfl⟩ (by decide +kernel) ⟨Nat.le_of_ble_eq_true rfl, Nat.le_of_ble_eq_true rfl⟩ fx_0 (ct_6 rfl) rfl rfl (Nat.le_of_ble_eq_true rfl) (by decide) dX6_revenueOf_12) (fun x8 σ7 hn => ?_)
  clear h
  revert hn
  intro h
  refine r_i2l hC dX6_revenueOf_15 ?_
  refine r_lmul hC dX6_revenueOf_16 ?_
  refine r_ldc2 (v := 100) hC kX6_revenueOf_2 dX6_revenueOf_17 ?_
  refine r_ldiv hC (by decide) dX6_revenueOf_20 ?_
  refine r_lsub hC dX6_revenueOf_21 ?_
  subst hQ
  exact r_lret hC hA hr hlk dX6_revenueOf_22 h
theorem kX6_bookRevenue_0 : ∀ w ∈ u_ws RX6 TX6 20, w ∈ wsX6_bookRevenue := by decide +kernel
theorem kX6_bookRevenue_1 : (Cond.fieldLink RX6 86 "Divisionorder" "deck" "LDivisionorder$Parting;") ∈ wsX6_bookRevenue := by decide +kernel
theorem kX6_bookRevenue_2 : ∀ w ∈ u_ws RX4 TX4 7, w ∈ wsX6_bookRevenue := by decide +kernel
theorem kX6_bookRevenue_3 : (Cond.fieldLink RX6 268 "Divisionorder$Unit" "dues" "[J") ∈ wsX6_bookRevenue := by decide +kernel
theorem kX6_bookRevenue_4 : (Cond.fieldLink RX6 90 "Divisionorder" "sharers" "LDivisionorder$Parting;") ∈ wsX6_bookRevenue := by decide +kernel
theorem kX6_bookRevenue_5 : ∀ w ∈ u_ws RX2 TX2 3, w ∈ wsX6_bookRevenue := by decide +kernel
theorem kX6_bookRevenue_6 : (Cond.fieldLink RX6 256 "Divisionorder$Parting" "parts" "[J") ∈ wsX6_bookRevenue := by decide +kernel
theorem kX6_bookRevenue_7 : (Cond.fieldLink RX6 271 "Divisionorder$Unit" "balances" "[J") ∈ wsX6_bookRevenue := by decide +kernel
theorem kX6_bookRevenue_8 : (Cond.methodLink RX6 361 Lib.MathLoose.min_long.x) ∈ wsX6_bookRevenue := by decide +kernel
theorem kX6_bookRevenue_9 : (Cond.static Lib.MathLoose.min_long.x) ∈ wsX6_bookRevenue := by decide +kernel
theorem kX6_bookRevenue_10 : (Cond.initialized "java/lang/Math") ∈ wsX6_bookRevenue := by decide +kernel
theorem kX6_bookRevenue_11 : (Cond.code Lib.MathLoose.min_long.x Lib.MathLoose.min_long.code 4 (some .long)) ∈ wsX6_bookRevenue := by decide +kernel
set_option maxHeartbeats 4000000 in
set_option maxRecDepth 100000 in
theorem cm_X6_bookRevenue (l : Launch) (dC : Nat → ClassId) (dI : Nat → Nat → Nat) (dA : Nat → ClassId) (L : List Nat) (α : Nat → Nat) (σ : Mm) (a1 : Option Nat) (a2 : Int32) (a3 : Int32) (Qm : Mm → Prop) (h : wp_X6_bookRevenue L σ a1 a2 a3 Qm) (sz : Nat) : Met l yX6_bookRevenue wsX6_bookRevenue ({ frames := 3, cells := 0, slots := 0, locals := 75 } : Room) (cP dC dI dA (Fc ++ L) α σ sz [fO α (some 0), fO α a1, .int a2, .int a3]) (va_Qv Qm (cB dC dI dA (Fc ++ L) α (wl dA (Fc ++ L) α σ) sz) (va_A (wl dA (Fc ++ L) α σ) sz)) 0 0 (va_A (wl dA (Fc ++ L) α σ) sz) := by
  refine m_start (own := RX6) (lv := [(0, fO α (some 0)), (1, fO α a1), (2, .int a2), (3, .int a3)]) (by decide) rfl rfl (by simp only [lgl_O, lgl_I, lgl_J, lgl_N]; decide) (by simp only [lva_O, lva_I, lva_J, lva_N]) ?_
  intro p e s m below meth c hsz hC hr hlk
  generalize hA : va_A (wl dA (Fc ++ L) α σ) sz = A at hC ⊢
  have hA := hA.symm
  generalize hargs : ([fO α (some 0), fO α a1, .int a2, .int a3] : List Value).toArray = args at hC ⊢
  generalize hQ : MQ below _ args s 0 0 A = Q
  unfold wp_X6_bookRevenue at h
  refine r_iload_n hC dX6_bookRevenue_0 rfl 2 rfl ?_
  refine r_bipush (v := 10) hC dX6_bookRevenue_1 (by decide) ?_
  refine r_imul hC dX6_bookRevenue_3 ?_
  refine r_topi (fun x1 qx1 => ?_)
  replace h := h x1 qx1
  refine r_istore (lv' := [(4, .int x1), (0, fO α (some 0)), (1, fO α a1), (2, .int a2), (3, .int a3)]) hC dX6_bookRevenue_4 (by decide) rfl ?_
  refine r_lconst (v := 0) hC dX6_bookRevenue_6 (by decide) ?_
  refine r_lstore (lv' := [(5, .long 0), (4, .int x1), (0, fO α (some 0)), (1, fO α a1), (2, .int a2), (3, .int a3)]) hC dX6_bookRevenue_7 (by decide) rfl ?_
  refine r_aload_n hC dX6_bookRevenue_9 rfl 2 rfl ?_
  refine r_get (ci := 6) (f := 18) (v := fO α (some 9)) hC kX6_bookRevenue_0 rfl (by decide) rfl kX6_bookRevenue_1 fx_0 (ct_6 rfl) rfl dX6_bookRevenue_10 ?_
  refine r_aload_n hC dX6_bookRevenue_13 rfl 2 rfl ?_
  refine r_aload_n hC dX6_bookRevenue_14 rfl 3 rfl ?_
  refine r_iload_n hC dX6_bookRevenue_15 rfl 4 rfl ?_
  refine r_calll hC [fO α (some 9)] (m_runV (n := 2) (ci := 6) hC [fO α a1, .int a2] [fO α (some 9)] (fun sz => cm_X6_revenueOf l dC dI dA L α σ a1 a2 _ h sz) gX6_bookRevenue_X6_revenueOf rfl ⟨rfl, rfl⟩ (by decide +kernel) ⟨Nat.le_of_ble_eq_true rfl, Nat.le_of_ble_eq_true rfl⟩ fx_0 (ct_6 rfl) rfl rfl (Nat.le_of_ble_eq_true rfl) (by decide) dX6_bookRevenue_16) (fun y3 σ2 hn => ?_)
  clear h
  revert hn
  intro h
  refine r_callv hC [] (m_runV (n := 1) (ci := 2) hC [.long y3] [] (fun sz => cm_X2_partOut l dC dI dA L α σ2 9 y3 _ h sz) gX6_bookRevenue_X2_partOut rfl ⟨rfl, rfl⟩ (by decide +kernel) ⟨Nat.le_of_ble_eq_true rfl, Nat.le_of_ble_eq_true rfl⟩ fx_9 (ct_2 rfl) rfl rfl (Nat.le_of_ble_eq_true rfl) (by decide) dX6_bookRevenue_19) (fun σ4 hn => ?_)
  clear h
  revert hn
  intro h
  refine r_iconst (v := 0) hC dX6_bookRevenue_22 (by decide) ?_
  refine r_istore (lv' := [(7, .int 0), (5, .long 0), (4, .int x1), (0, fO α (some 0)), (1, fO α a1), (2, .int a2), (3, .int a3)]) hC dX6_bookRevenue_23 (by decide) rfl ?_
  refine r_lvs [3, 4, 6, 2, 1, 0] rfl ?_
  obtain ⟨n, h⟩ := h
  refine lpw_ind (S := Mm × Int64 × Int32) (fun s9 => G p l e ({ frames := 3, cells := 0, slots := 0, locals := 75 } : Room) s m args below meth c 0 0 Q dC dI dA (Fc ++ L) α A 12 s9.1 25 [(0, fO α (some 0)), (1, fO α a1), (3, .int a3), (4, .int x1), (5, .long s9.2.1), (7, .int s9.2.2)] []) ?_ n (σ4, 0, 0) h
  clear h
  intro R8 hR8 s9 h
  obtain ⟨σ5, y6, x7⟩ := s9
  refine r_iload hC dX6_bookRevenue_25 5 rfl ?_
  refine r_bipush (v := 10) hC dX6_bookRevenue_27 (by decide) ?_
  refine r_icmp_ge (tgt := 134) hC dX6_bookRevenue_29 (by decide) (fun q => ?_) (fun q => ?_)
  · replace h := h.1 q
    refine r_aload_n hC dX6_bookRevenue_134 rfl 0 rfl ?_
    refine r_lload hC dX6_bookRevenue_135 4 rfl ?_
    refine r_iload_n hC dX6_bookRevenue_137 rfl 2 rfl ?_
    refine r_callv hC [] (m_runV (n := 2) (ci := 6) hC [.long y6, .int a3] [] (fun sz => cm_X6_partByWorking l dC dI dA L α σ5 y6 a3 _ h sz) gX6_bookRevenue_X6_partByWorking rfl ⟨rfl, rfl⟩ (by decide +kernel) ⟨Nat.le_of_ble_eq_true rfl, Nat.le_of_ble_eq_true rfl⟩ fx_0 (ct_6 rfl) rfl rfl (Nat.le_of_ble_eq_true rfl) (by decide) dX6_bookRevenue_138) (fun σ10 hn => ?_)
    clear h
    revert hn
    intro h
    refine r_iconst (v := 0) hC dX6_bookRevenue_141 (by decide) ?_
    refine r_istore (lv' := [(7, .int 0), (0, fO α (some 0)), (1, fO α a1), (3, .int a3), (4, .int x1), (5, .long y6)]) hC dX6_bookRevenue_142 (by decide) rfl ?_
    refine r_lvs [1, 2, 4, 0] rfl ?_
    obtain ⟨n, h⟩ := h
    refine lpw_ind (S := Mm × Int32) (fun s14 => G p l e ({ frames := 3, cells := 0, slots := 0, locals := 75 } : Room) s m args below meth c 0 0 Q dC dI dA (Fc ++ L) α A 12 s14.1 144 [(0, fO α (some 0)), (1, fO α a1), (4, .int x1), (7, .int s14.2)] []) ?_ n (σ10, 0) h
    clear h
    intro R13 hR13 s14 h
    obtain ⟨σ11, x12⟩ := s14
    refine r_iload hC dX6_bookRevenue_144 3 rfl ?_
    refine r_bipush (v := 10) hC dX6_bookRevenue_146 (by decide) ?_
    refine r_icmp_ge (tgt := 180) hC dX6_bookRevenue_148 (by decide) (fun q => ?_) (fun q => ?_)
    · replace h := h.1 q
      subst hQ
      exact r_vret hC hA hr hlk dX6_bookRevenue_180 h
    · replace h := h.2 q
      refine r_aload_n hC dX6_bookRevenue_151 rfl 1 rfl ?_
      obtain ⟨k15, e16, h⟩ := h
      subst e16
      obtain ⟨v17, h⟩ := h
      refine r_get (ci := 4) (f := 5) (v := fO α (some (k15 + 5))) hC kX6_bookRevenue_2 rfl (by decide) rfl kX6_bookRevenue_3 v17.1 (ct_4 v17.2) rfl dX6_bookRevenue_152 ?_
      refine r_iload hC dX6_bookRevenue_155 2 rfl ?_
      refine r_iload hC dX6_bookRevenue_157 3 rfl ?_
      refine r_iadd hC dX6_bookRevenue_159 ?_
      refine r_dup2 hC rfl fO_cat dX6_bookRevenue_160 ?_
      obtain ⟨v18, h⟩ := h
      obtain ⟨c19, h⟩ := h
      refine r_lald hC v18.1 v18.2 c19 dX6_bookRevenue_161 ?_
      refine r_aload_n hC dX6_bookRevenue_162 rfl 0 rfl ?_
      refine r_get (ci := 6) (f := 19) (v := fO α (some 13)) hC kX6_bookRevenue_0 rfl (by decide) rfl kX6_bookRevenue_4 fx_0 (ct_6 rfl) rfl dX6_bookRevenue_163 ?_
      refine r_get (ci := 2) (f := 1) (v := fO α (some 15)) hC kX6_bookRevenue_5 rfl (by decide) rfl kX6_bookRevenue_6 fx_13 (ct_2 rfl) rfl dX6_bookRevenue_166 ?_
      refine r_iload hC dX6_bookRevenue_169 3 rfl ?_
      obtain ⟨c20, h⟩ := h
      refine r_lald hC fx_15 rfl c20 dX6_bookRevenue_171 ?_
      refine r_ladd hC dX6_bookRevenue_172 ?_
      obtain ⟨c21, h⟩ := h
      refine r_last hC v18.1 v18.2 c21 dX6_bookRevenue_173 ?_
      refine r_topm (fun σ22 qσ22 => ?_)
      replace h := h σ22 qσ22
      obtain ⟨x23, qx23⟩ : ∃ z : Int32, z = x12 + 1 := ⟨_, rfl⟩
      replace h := h x23 qx23
      refine r_iinc (v := x23) (lv' := [(7, .int x23), (0, fO α (some 0)), (1, fO α (some k15)), (4, .int x1)]) hC dX6_bookRevenue_174 (k := 3) rfl (by rw [qx23]; rfl) (by decide) rfl ?_
      refine r_goto (tgt := 144) hC dX6_bookRevenue_177 (by decide) ?_
      refine r_lvs [1, 2, 3, 0] rfl ?_
      exact hR13 _ h
  · replace h := h.2 q
    refine r_aload_n hC dX6_bookRevenue_32 rfl 0 rfl ?_
    refine r_get (ci := 6) (f := 18) (v := fO α (some 9)) hC kX6_bookRevenue_0 rfl (by decide) rfl kX6_bookRevenue_1 fx_0 (ct_6 rfl) rfl dX6_bookRevenue_33 ?_
    refine r_get (ci := 2) (f := 1) (v := fO α (some 11)) hC kX6_bookRevenue_5 rfl (by decide) rfl kX6_bookRevenue_6 fx_9 (ct_2 rfl) rfl dX6_bookRevenue_36 ?_
    refine r_bipush (v := 10) hC dX6_bookRevenue_39 (by decide) ?_
    refine r_iload hC dX6_bookRevenue_41 5 rfl ?_
    refine r_iadd hC dX6_bookRevenue_43 ?_
    obtain ⟨c24, h⟩ := h
    refine r_lald hC fx_11 rfl c24 dX6_bookRevenue_44 ?_
    refine r_topl (fun y25 qy25 => ?_)
    replace h := h y25 qy25
    refine r_lstore (lv' := [(8, .long y25), (0, fO α (some 0)), (1, fO α a1), (3, .int a3), (4, .int x1), (5, .long y6), (7, .int x7)]) hC dX6_bookRevenue_45 (by decide) rfl ?_
    refine r_iload_n hC dX6_bookRevenue_47 rfl 3 rfl ?_
    refine r_iload hC dX6_bookRevenue_48 6 rfl ?_
    refine r_calli hC [] (m_runS (n := 2) hC [.int a3, .int x7] [] (fun sz => cm_X6_hasBit l dC dI dA L α σ5 a3 x7 _ h sz) gX6_bookRevenue_X6_hasBit rfl ⟨rfl, rfl⟩ (by decide +kernel) ⟨Nat.le_of_ble_eq_true rfl, Nat.le_of_ble_eq_true rfl⟩ rfl (Nat.le_of_ble_eq_true rfl) (by decide) dX6_bookRevenue_50) (fun x27 σ26 hn => ?_)
    clear h
    revert hn
    intro h
    obtain ⟨J30, hJ30, h⟩ := h
    have KJ30 : ∀ (σ28 : Mm) (y29 : Int64), J30 σ28 y29 → G p l e ({ frames := 3, cells := 0, slots := 0, locals := 75 } : Room) s m args below meth c 0 0 Q dC dI dA (Fc ++ L) α A 12 σ28 75 [(0, fO α (some 0)), (1, fO α a1), (3, .int a3), (4, .int x1), (5, .long y6), (7, .int x7), (8, .long y25)] [.long y29] := by
      clear h
      intro σ28 y29 h
      replace h := hJ30 σ28 y29 h
      refine r_lstore (lv' := [(10, .long y29), (0, fO α (some 0)), (1, fO α a1), (3, .int a3), (4, .int x1), (5, .long y6), (7, .int x7), (8, .long y25)]) hC dX6_bookRevenue_75 (by decide) rfl ?_
      refine r_aload_n hC dX6_bookRevenue_77 rfl 2 rfl ?_
      obtain ⟨k31, e32, h⟩ := h
      subst e32
      obtain ⟨v33, h⟩ := h
      refine r_get (ci := 4) (f := 6) (v := fO α (some (k31 + 6))) hC kX6_bookRevenue_2 rfl (by decide) rfl kX6_bookRevenue_7 v33.1 (ct_4 v33.2) rfl dX6_bookRevenue_78 ?_
      refine r_iload hC dX6_bookRevenue_81 4 rfl ?_
      refine r_iload hC dX6_bookRevenue_83 6 rfl ?_
      refine r_iadd hC dX6_bookRevenue_85 ?_
      refine r_dup2 hC rfl fO_cat dX6_bookRevenue_86 ?_
      obtain ⟨v34, h⟩ := h
      obtain ⟨c35, h⟩ := h
      refine r_lald hC v34.1 v34.2 c35 dX6_bookRevenue_87 ?_
      refine r_lload hC dX6_bookRevenue_88 0 rfl ?_
      refine r_lsub hC dX6_bookRevenue_90 ?_
      obtain ⟨c36, h⟩ := h
      refine r_last hC v34.1 v34.2 c36 dX6_bookRevenue_91 ?_
      refine r_topm (fun σ37 qσ37 => ?_)
      replace h := h σ37 qσ37
      refine r_aload_n hC dX6_bookRevenue_92 rfl 2 rfl ?_
      refine r_get (ci := 4) (f := 5) (v := fO α (some (k31 + 5))) hC kX6_bookRevenue_2 rfl (by decide) rfl kX6_bookRevenue_3 v33.1 (ct_4 v33.2) rfl dX6_bookRevenue_93 ?_
      refine r_iload hC dX6_bookRevenue_96 4 rfl ?_
      refine r_iload hC dX6_bookRevenue_98 6 rfl ?_
      refine r_iadd hC dX6_bookRevenue_100 ?_
      refine r_dup2 hC rfl fO_cat dX6_bookRevenue_101 ?_
      obtain ⟨v38, h⟩ := h
      obtain ⟨c39, h⟩ := h
      refine r_lald hC v38.1 v38.2 c39 dX6_bookRevenue_102 ?_
      refine r_aload_n hC dX6_bookRevenue_103 rfl 1 rfl ?_
      refine r_get (ci := 6) (f := 18) (v := fO α (some 9)) hC kX6_bookRevenue_0 rfl (by decide) rfl kX6_bookRevenue_1 fx_0 (ct_6 rfl) rfl dX6_bookRevenue_104 ?_
      refine r_get (ci := 2) (f := 1) (v := fO α (some 11)) hC kX6_bookRevenue_5 rfl (by decide) rfl kX6_bookRevenue_6 fx_9 (ct_2 rfl) rfl dX6_bookRevenue_107 ?_
      refine r_iload hC dX6_bookRevenue_110 6 rfl ?_
      obtain ⟨c40, h⟩ := h
      refine r_lald hC fx_11 rfl c40 dX6_bookRevenue_112 ?_
      refine r_lload hC dX6_bookRevenue_113 7 rfl ?_
      refine r_ladd hC dX6_bookRevenue_115 ?_
      refine r_lload hC dX6_bookRevenue_116 0 rfl ?_
      refine r_lsub hC dX6_bookRevenue_118 ?_
      refine r_ladd hC dX6_bookRevenue_119 ?_
      obtain ⟨c41, h⟩ := h
      refine r_last hC v38.1 v38.2 c41 dX6_bookRevenue_120 ?_
      refine r_topm (fun σ42 qσ42 => ?_)
      replace h := h σ42 qσ42
      refine r_lload hC dX6_bookRevenue_121 5 rfl ?_
      refine r_lload hC dX6_bookRevenue_123 0 rfl ?_
      refine r_ladd hC dX6_bookRevenue_125 ?_
      refine r_topl (fun y43 qy43 => ?_)
      replace h := h y43 qy43
      refine r_lstore (lv' := [(5, .long y43), (10, .long y29), (0, fO α (some 0)), (1, fO α (some k31)), (3, .int a3), (4, .int x1), (7, .int x7), (8, .long y25)]) hC dX6_bookRevenue_126 (by decide) rfl ?_
      obtain ⟨x44, qx44⟩ : ∃ z : Int32, z = x7 + 1 := ⟨_, rfl⟩
      replace h := h x44 qx44
      refine r_iinc (v := x44) (lv' := [(7, .int x44), (5, .long y43), (10, .long y29), (0, fO α (some 0)), (1, fO α (some k31)), (3, .int a3), (4, .int x1), (8, .long y25)]) hC dX6_bookRevenue_128 (k := 6) rfl (by rw [qx44]; rfl) (by decide) rfl ?_
      refine r_goto (tgt := 25) hC dX6_bookRevenue_131 (by decide) ?_
      refine r_lvs [3, 4, 5, 6, 1, 0] rfl ?_
      exact hR8 _ h
    refine r_if_eq (tgt := 74) hC dX6_bookRevenue_53 (by decide) (fun q => ?_) (fun q => ?_)
    · replace h := h.1 q
      refine r_lconst (v := 0) hC dX6_bookRevenue_74 (by decide) ?_
      refine r_lvs [1, 2, 3, 4, 5, 6, 0] rfl ?_
      exact KJ30 σ26 0 h
    · replace h := h.2 q
      refine r_lload hC dX6_bookRevenue_56 0 rfl ?_
      refine r_aload_n hC dX6_bookRevenue_58 rfl 2 rfl ?_
      obtain ⟨k45, e46, h⟩ := h
      subst e46
      obtain ⟨v47, h⟩ := h
      refine r_get (ci := 4) (f := 6) (v := fO α (some (k45 + 6))) hC kX6_bookRevenue_2 rfl (by decide) rfl kX6_bookRevenue_7 v47.1 (ct_4 v47.2) rfl dX6_bookRevenue_59 ?_
      refine r_iload hC dX6_bookRevenue_62 4 rfl ?_
      refine r_iload hC dX6_bookRevenue_64 6 rfl ?_
      refine r_iadd hC dX6_bookRevenue_66 ?_
      obtain ⟨v48, h⟩ := h
      obtain ⟨c49, h⟩ := h
      refine r_lald hC v48.1 v48.2 c49 dX6_bookRevenue_67 ?_
      refine r_minl hC kX6_bookRevenue_8 kX6_bookRevenue_9 kX6_bookRevenue_10 kX6_bookRevenue_11 ⟨Nat.le_of_ble_eq_true rfl, Nat.le_of_ble_eq_true rfl⟩ (by decide) dX6_bookRevenue_68 ?_
      refine r_goto (tgt := 75) hC dX6_bookRevenue_71 (by decide) ?_
      refine r_lvs [1, 2, 3, 4, 5, 6, 0] rfl ?_
      exact KJ30 σ26 (if (gJ σ26 (k45 + 6) (x1 + x7).toNatClampNeg) < y25 then (gJ σ26 (k45 + 6) (x1 + x7).toNatClampNeg) else y25) h
theorem kX6_settleMonth_0 : ∀ w ∈ u_ws RX4 TX4 7, w ∈ wsX6_settleMonth := by decide +kernel
theorem kX6_settleMonth_1 : (Cond.fieldLink RX6 303 "Divisionorder$Unit" "gross" "[I") ∈ wsX6_settleMonth := by decide +kernel
theorem kX6_settleMonth_2 : (Cond.fieldLink RX6 222 "Divisionorder$Unit" "costs" "[I") ∈ wsX6_settleMonth := by decide +kernel
set_option maxHeartbeats 4000000 in
set_option maxRecDepth 100000 in
theorem cm_X6_settleMonth (l : Launch) (dC : Nat → ClassId) (dI : Nat → Nat → Nat) (dA : Nat → ClassId) (L : List Nat) (α : Nat → Nat) (σ : Mm) (a1 : Option Nat) (a2 : Int32) (Qm : Mm → Prop) (h : wp_X6_settleMonth L σ a1 a2 Qm) (sz : Nat) : Met l yX6_settleMonth wsX6_settleMonth ({ frames := 4, cells := 0, slots := 0, locals := 106 } : Room) (cP dC dI dA (Fc ++ L) α σ sz [fO α (some 0), fO α a1, .int a2]) (va_Qv Qm (cB dC dI dA (Fc ++ L) α (wl dA (Fc ++ L) α σ) sz) (va_A (wl dA (Fc ++ L) α σ) sz)) 0 0 (va_A (wl dA (Fc ++ L) α σ) sz) := by
  refine m_start (own := RX6) (lv := [(0, fO α (some 0)), (1, fO α a1), (2, .int a2)]) (by decide) rfl rfl (by simp only [lgl_O, lgl_I, lgl_J, lgl_N]; decide) (by simp only [lva_O, lva_I, lva_J, lva_N]) ?_
  intro p e s m below meth c hsz hC hr hlk
  generalize hA : va_A (wl dA (Fc ++ L) α σ) sz = A at hC ⊢
  have hA := hA.symm
  generalize hargs : ([fO α (some 0), fO α a1, .int a2] : List Value).toArray = args at hC ⊢
  generalize hQ : MQ below _ args s 0 0 A = Q
  unfold wp_X6_settleMonth at h
  refine r_aload_n hC dX6_settleMonth_0 rfl 1 rfl ?_
  refine r_iload_n hC dX6_settleMonth_1 rfl 2 rfl ?_
  obtain ⟨k1, e2, h⟩ := h
  subst e2
  obtain ⟨v3, h⟩ := h
  refine r_callv hC [] (m_runV (n := 1) (ci := 4) hC [.int a2] [] (fun sz => cm_X4_openMonth l dC dI dA L α σ k1 a2 _ h sz) gX6_settleMonth_X4_openMonth rfl ⟨rfl, rfl⟩ (by decide +kernel) ⟨Nat.le_of_ble_eq_true rfl, Nat.le_of_ble_eq_true rfl⟩ v3.1 (ct_4 v3.2) rfl rfl (Nat.le_of_ble_eq_true rfl) (by decide) dX6_settleMonth_2) (fun σ4 hn => ?_)
  clear h
  revert hn
  intro h
  refine r_aload_n hC dX6_settleMonth_5 rfl 1 rfl ?_
  refine r_get (ci := 4) (f := 3) (v := fO α (some (k1 + 3))) hC kX6_settleMonth_0 rfl (by decide) rfl kX6_settleMonth_1 v3.1 (ct_4 v3.2) rfl dX6_settleMonth_6 ?_
  refine r_iload_n hC dX6_settleMonth_9 rfl 2 rfl ?_
  obtain ⟨v5, h⟩ := h
  obtain ⟨c6, h⟩ := h
  refine r_iald hC v5.1 v5.2 c6 dX6_settleMonth_10 ?_
  obtain ⟨J7, hJ7, h⟩ := h
  have KJ7 : J7 → G p l e ({ frames := 4, cells := 0, slots := 0, locals := 106 } : Room) s m args below meth c 0 0 Q dC dI dA (Fc ++ L) α A 4 σ4 24 [(0, fO α (some 0)), (1, fO α (some k1)), (2, .int a2)] [] := by
    clear h
    intro h
    replace h := hJ7 h
    refine r_aload_n hC dX6_settleMonth_24 rfl 0 rfl ?_
    refine r_aload_n hC dX6_settleMonth_25 rfl 1 rfl ?_
    refine r_iload_n hC dX6_settleMonth_26 rfl 2 rfl ?_
    refine r_callv hC [] (m_runV (n := 2) (ci := 6) hC [fO α (some k1), .int a2] [] (fun sz => cm_X6_layDeck l dC dI dA L α σ4 (some k1) a2 _ h sz) gX6_settleMonth_X6_layDeck rfl ⟨rfl, rfl⟩ (by decide +kernel) ⟨Nat.le_of_ble_eq_true rfl, Nat.le_of_ble_eq_true rfl⟩ fx_0 (ct_6 rfl) rfl rfl (Nat.le_of_ble_eq_true rfl) (by decide) dX6_settleMonth_27) (fun σ8 hn => ?_)
    clear h
    revert hn
    intro h
    refine r_aload_n hC dX6_settleMonth_30 rfl 0 rfl ?_
    refine r_aload_n hC dX6_settleMonth_31 rfl 1 rfl ?_
    refine r_iload_n hC dX6_settleMonth_32 rfl 2 rfl ?_
    refine r_calli hC [] (m_runV (n := 2) (ci := 6) hC [fO α (some k1), .int a2] [] (fun sz => cm_X6_carriedOwners l dC dI dA L α σ8 (some k1) a2 _ h sz) gX6_settleMonth_X6_carriedOwners rfl ⟨rfl, rfl⟩ (by decide +kernel) ⟨Nat.le_of_ble_eq_true rfl, Nat.le_of_ble_eq_true rfl⟩ fx_0 (ct_6 rfl) rfl rfl (Nat.le_of_ble_eq_true rfl) (by decide) dX6_settleMonth_33) (fun x10 σ9 hn => ?_)
    clear h
    revert hn
    intro h
    refine r_istore_n (lv' := [(3, .int x10), (0, fO α (some 0)), (1, fO α (some k1)), (2, .int a2)]) hC dX6_settleMonth_36 rfl (by decide) rfl ?_
    refine r_aload_n hC dX6_settleMonth_37 rfl 1 rfl ?_
    refine r_aload_n hC dX6_settleMonth_38 rfl 2 rfl ?_
    refine r_iload_n hC dX6_settleMonth_39 rfl 3 rfl ?_
    refine r_iload_n hC dX6_settleMonth_40 rfl 0 rfl ?_
    refine r_callv hC [] (m_runV (n := 3) (ci := 6) hC [fO α (some k1), .int a2, .int x10] [] (fun sz => cm_X6_bookCosts l dC dI dA L α σ9 (some k1) a2 x10 _ h sz) gX6_settleMonth_X6_bookCosts rfl ⟨rfl, rfl⟩ (by decide +kernel) ⟨Nat.le_of_ble_eq_true rfl, Nat.le_of_ble_eq_true rfl⟩ fx_0 (ct_6 rfl) rfl rfl (Nat.le_of_ble_eq_true rfl) (by decide) dX6_settleMonth_41) (fun σ11 hn => ?_)
    clear h
    revert hn
    intro h
    refine r_aload_n hC dX6_settleMonth_44 rfl 1 rfl ?_
    refine r_aload_n hC dX6_settleMonth_45 rfl 2 rfl ?_
    refine r_iload_n hC dX6_settleMonth_46 rfl 3 rfl ?_
    refine r_iload_n hC dX6_settleMonth_47 rfl 0 rfl ?_
    refine r_callv hC [] (m_runV (n := 3) (ci := 6) hC [fO α (some k1), .int a2, .int x10] [] (fun sz => cm_X6_bookRevenue l dC dI dA L α σ11 (some k1) a2 x10 _ h sz) gX6_settleMonth_X6_bookRevenue rfl ⟨rfl, rfl⟩ (by decide +kernel) ⟨Nat.le_of_ble_eq_true rfl, Nat.le_of_ble_eq_true rfl⟩ fx_0 (ct_6 rfl) rfl rfl (Nat.le_of_ble_eq_true rfl) (by decide) dX6_settleMonth_48) (fun σ12 hn => ?_)
    clear h
    revert hn
    intro h
    subst hQ
    exact r_vret hC hA hr hlk dX6_settleMonth_51 h
  refine r_if_ne (tgt := 24) hC dX6_settleMonth_11 (by decide) (fun q => ?_) (fun q => ?_)
  · replace h := h.1 q
    exact KJ7 h
  · replace h := h.2 q
    refine r_aload_n hC dX6_settleMonth_14 rfl 1 rfl ?_
    refine r_get (ci := 4) (f := 4) (v := fO α (some (k1 + 4))) hC kX6_settleMonth_0 rfl (by decide) rfl kX6_settleMonth_2 v3.1 (ct_4 v3.2) rfl dX6_settleMonth_15 ?_
    refine r_iload_n hC dX6_settleMonth_18 rfl 2 rfl ?_
    obtain ⟨v13, h⟩ := h
    obtain ⟨c14, h⟩ := h
    refine r_iald hC v13.1 v13.2 c14 dX6_settleMonth_19 ?_
    refine r_if_ne (tgt := 24) hC dX6_settleMonth_20 (by decide) (fun q => ?_) (fun q => ?_)
    · replace h := h.1 q
      exact KJ7 h
    · replace h := h.2 q
      subst hQ
      exact r_vret hC hA hr hlk dX6_settleMonth_23 h
theorem kX6_settle_0 : ∀ w ∈ u_ws RX6 TX6 20, w ∈ wsX6_settle := by decide +kernel
theorem kX6_settle_1 : (Cond.fieldLink RX6 75 "Divisionorder" "settledMonths" "I") ∈ wsX6_settle := by decide +kernel
theorem kX6_settle_2 : (Cond.fieldLink RX6 9 "Divisionorder" "now" "I") ∈ wsX6_settle := by decide +kernel
theorem kX6_settle_3 : (Cond.fieldLink RX6 42 "Divisionorder" "units" "[LDivisionorder$Unit;") ∈ wsX6_settle := by decide +kernel
theorem kX6_settle_4 : ∀ w ∈ u_ws RX4 TX4 7, w ∈ wsX6_settle := by decide +kernel
theorem kX6_settle_5 : (Cond.fieldLink RX6 203 "Divisionorder$Unit" "firstMonth" "I") ∈ wsX6_settle := by decide +kernel
set_option maxHeartbeats 4000000 in
set_option maxRecDepth 100000 in
theorem cm_X6_settle (l : Launch) (dC : Nat → ClassId) (dI : Nat → Nat → Nat) (dA : Nat → ClassId) (L : List Nat) (α : Nat → Nat) (σ : Mm)  (Qm : Mm → Prop) (h : wp_X6_settle L σ  Qm) (sz : Nat) : Met l yX6_settle wsX6_settle ({ frames := 5, cells := 0, slots := 0, locals := 129 } : Room) (cP dC dI dA (Fc ++ L) α σ sz [fO α (some 0)]) (va_Qv Qm (cB dC dI dA (Fc ++ L) α (wl dA (Fc ++ L) α σ) sz) (va_A (wl dA (Fc ++ L) α σ) sz)) 0 0 (va_A (wl dA (Fc ++ L) α σ) sz) := by
  refine m_start (own := RX6) (lv := [(0, fO α (some 0))]) (by decide) rfl rfl (by simp only [lgl_O, lgl_I, lgl_J, lgl_N]; decide) (by simp only [lva_O, lva_I, lva_J, lva_N]) ?_
  intro p e s m below meth c hsz hC hr hlk
  generalize hA : va_A (wl dA (Fc ++ L) α σ) sz = A at hC ⊢
  have hA := hA.symm
  generalize hargs : ([fO α (some 0)] : List Value).toArray = args at hC ⊢
  generalize hQ : MQ below _ args s 0 0 A = Q
  unfold wp_X6_settle at h
  refine r_aload_n hC dX6_settle_0 rfl 0 rfl ?_
  refine r_get (ci := 6) (f := 16) (v := .int (gI σ 0 16)) hC kX6_settle_0 rfl (by decide) rfl kX6_settle_1 fx_0 (ct_6 rfl) rfl dX6_settle_1 ?_
  refine r_topi (fun x1 qx1 => ?_)
  replace h := h x1 qx1
  refine r_istore_n (lv' := [(1, .int x1), (0, fO α (some 0))]) hC dX6_settle_4 rfl (by decide) rfl ?_
  refine r_lvs [1, 0] rfl ?_
  obtain ⟨n, h⟩ := h
  refine lpw_ind (S := Mm × Int32) (fun s5 => G p l e ({ frames := 5, cells := 0, slots := 0, locals := 129 } : Room) s m args below meth c 0 0 Q dC dI dA (Fc ++ L) α A 6 s5.1 5 [(0, fO α (some 0)), (1, .int s5.2)] []) ?_ n (σ, x1) h
  clear h
  intro R4 hR4 s5 h
  obtain ⟨σ2, x3⟩ := s5
  refine r_iload_n hC dX6_settle_5 rfl 1 rfl ?_
  refine r_aload_n hC dX6_settle_6 rfl 0 rfl ?_
  refine r_get (ci := 6) (f := 0) (v := .int (gI σ2 0 0)) hC kX6_settle_0 rfl (by decide) rfl kX6_settle_2 fx_0 (ct_6 rfl) rfl dX6_settle_7 ?_
  refine r_icmp_gt (tgt := 69) hC dX6_settle_10 (by decide) (fun q => ?_) (fun q => ?_)
  · replace h := h.1 q
    refine r_aload_n hC dX6_settle_69 rfl 0 rfl ?_
    refine r_aload_n hC dX6_settle_70 rfl 0 rfl ?_
    refine r_get (ci := 6) (f := 0) (v := .int (gI σ2 0 0)) hC kX6_settle_0 rfl (by decide) rfl kX6_settle_2 fx_0 (ct_6 rfl) rfl dX6_settle_71 ?_
    refine r_iconst (v := 1) hC dX6_settle_74 (by decide) ?_
    refine r_iadd hC dX6_settle_75 ?_
    refine r_put (ci := 6) (f := 16) (v := .int ((gI σ2 0 0) + 1)) (σ' := sI σ2 0 16 ((gI σ2 0 0) + 1)) hC kX6_settle_0 tyX6 tyX6_ok nmX6 rfl (by decide) rfl kX6_settle_1 fx_0 (ct_6 rfl) rfl rfl (Nat.le_of_ble_eq_true rfl) (pt_6_16 rfl) ct_sI dX6_settle_76 ?_
    refine r_topm (fun σ6 qσ6 => ?_)
    replace h := h σ6 qσ6
    subst hQ
    exact r_vret hC hA hr hlk dX6_settle_79 h
  · replace h := h.2 q
    refine r_aload_n hC dX6_settle_13 rfl 0 rfl ?_
    refine r_get (ci := 6) (f := 7) (v := fO α (some 4)) hC kX6_settle_0 rfl (by decide) rfl kX6_settle_3 fx_0 (ct_6 rfl) rfl dX6_settle_14 ?_
    refine r_astore_n (lv' := [(2, fO α (some 4)), (0, fO α (some 0)), (1, .int x3)]) hC dX6_settle_17 rfl (by decide) rfl ?_
    refine r_aload_n hC dX6_settle_18 rfl 0 rfl ?_
    refine r_alen_14 (v := 3) hC fx_4 rfl (by decide) dX6_settle_19 ?_
    refine r_istore_n (lv' := [(3, .int 3), (2, fO α (some 4)), (0, fO α (some 0)), (1, .int x3)]) hC dX6_settle_20 rfl (by decide) rfl ?_
    refine r_iconst (v := 0) hC dX6_settle_21 (by decide) ?_
    refine r_istore (lv' := [(4, .int 0), (3, .int 3), (2, fO α (some 4)), (0, fO α (some 0)), (1, .int x3)]) hC dX6_settle_22 (by decide) rfl ?_
    refine r_lvs [3, 4, 2, 1, 0] rfl ?_
    obtain ⟨n, h⟩ := h
    refine lpw_ind (S := Mm × Int32) (fun s10 => G p l e ({ frames := 5, cells := 0, slots := 0, locals := 129 } : Room) s m args below meth c 0 0 Q dC dI dA (Fc ++ L) α A 6 s10.1 24 [(0, fO α (some 0)), (1, .int x3), (2, fO α (some 4)), (3, .int 3), (4, .int s10.2)] []) ?_ n (σ2, 0) h
    clear h
    intro R9 hR9 s10 h
    obtain ⟨σ7, x8⟩ := s10
    refine r_iload hC dX6_settle_24 4 rfl ?_
    refine r_iload_n hC dX6_settle_26 rfl 3 rfl ?_
    refine r_icmp_ge (tgt := 63) hC dX6_settle_27 (by decide) (fun q => ?_) (fun q => ?_)
    · replace h := h.1 q
      obtain ⟨x11, qx11⟩ : ∃ z : Int32, z = x3 + 1 := ⟨_, rfl⟩
      replace h := h x11 qx11
      refine r_iinc (v := x11) (lv' := [(1, .int x11), (0, fO α (some 0)), (2, fO α (some 4)), (3, .int 3), (4, .int x8)]) hC dX6_settle_63 (k := 1) rfl (by rw [qx11]; rfl) (by decide) rfl ?_
      refine r_goto (tgt := 5) hC dX6_settle_66 (by decide) ?_
      refine r_lvs [1, 0] rfl ?_
      exact hR4 _ h
    · replace h := h.2 q
      refine r_aload_n hC dX6_settle_30 rfl 2 rfl ?_
      refine r_iload hC dX6_settle_31 4 rfl ?_
      obtain ⟨c12, h⟩ := h
      refine r_aald_14 hC fx_4 rfl c12 dX6_settle_33 ?_
      refine r_topo (fun o13 qo13 => ?_)
      replace h := h o13 qo13
      refine r_astore (lv' := [(5, fO α o13), (0, fO α (some 0)), (1, .int x3), (2, fO α (some 4)), (3, .int 3), (4, .int x8)]) hC dX6_settle_34 (by decide) rfl ?_
      refine r_aload hC dX6_settle_36 0 rfl ?_
      obtain ⟨J16, hJ16, h⟩ := h
      have KJ16 : ∀ (σ15 : Mm), J16 σ15 → G p l e ({ frames := 5, cells := 0, slots := 0, locals := 129 } : Room) s m args below meth c 0 0 Q dC dI dA (Fc ++ L) α A 6 σ15 57 [(0, fO α (some 0)), (1, .int x3), (2, fO α (some 4)), (3, .int 3), (4, .int x8)] [] := by
        clear h
        intro σ15 h
        replace h := hJ16 σ15 h
        obtain ⟨x17, qx17⟩ : ∃ z : Int32, z = x8 + 1 := ⟨_, rfl⟩
        replace h := h x17 qx17
        refine r_iinc (v := x17) (lv' := [(4, .int x17), (0, fO α (some 0)), (1, .int x3), (2, fO α (some 4)), (3, .int 3)]) hC dX6_settle_57 (k := 4) rfl (by rw [qx17]; rfl) (by decide) rfl ?_
        refine r_goto (tgt := 24) hC dX6_settle_60 (by decide) ?_
        refine r_lvs [1, 2, 3, 4, 0] rfl ?_
        exact hR9 _ h
      refine r_ifnull (tgt := 57) hC dX6_settle_38 (by decide) (fun q => ?_) (fun k14 q => ?_)
      · replace h := h.1 q
        subst q
        refine r_lvs [1, 2, 3, 4, 5] rfl ?_
        exact KJ16 σ7 h
      · replace h := h.2 k14 q
        subst q
        refine r_aload hC dX6_settle_41 0 rfl ?_
        obtain ⟨v18, h⟩ := h
        refine r_get (ci := 4) (f := 0) (v := .int (gI σ7 k14 0)) hC kX6_settle_4 rfl (by decide) rfl kX6_settle_5 v18.1 (ct_4 v18.2) rfl dX6_settle_43 ?_
        refine r_iload_n hC dX6_settle_46 rfl 2 rfl ?_
        refine r_icmp_gt (tgt := 57) hC dX6_settle_47 (by decide) (fun q => ?_) (fun q => ?_)
        · replace h := h.1 q
          refine r_lvs [1, 2, 3, 4, 5] rfl ?_
          exact KJ16 σ7 h
        · replace h := h.2 q
          refine r_aload_n hC dX6_settle_50 rfl 1 rfl ?_
          refine r_aload hC dX6_settle_51 0 rfl ?_
          refine r_iload_n hC dX6_settle_53 rfl 2 rfl ?_
          refine r_callv hC [] (m_runV (n := 2) (ci := 6) hC [fO α (some k14), .int x3] [] (fun sz => cm_X6_settleMonth l dC dI dA L α σ7 (some k14) x3 _ h sz) gX6_settle_X6_settleMonth rfl ⟨rfl, rfl⟩ (by decide +kernel) ⟨Nat.le_of_ble_eq_true rfl, Nat.le_of_ble_eq_true rfl⟩ fx_0 (ct_6 rfl) rfl rfl (Nat.le_of_ble_eq_true rfl) (by decide) dX6_settle_54) (fun σ19 hn => ?_)
          clear h
          revert hn
          intro h
          refine r_lvs [1, 2, 3, 4, 5] rfl ?_
          exact KJ16 σ19 h
theorem kX6_settledOwed_0 : ∀ w ∈ u_ws RX6 TX6 20, w ∈ wsX6_settledOwed := by decide +kernel
theorem kX6_settledOwed_1 : (Cond.fieldLink RX6 71 "Divisionorder" "paidCents" "[J") ∈ wsX6_settledOwed := by decide +kernel
theorem kX6_settledOwed_2 : (Cond.fieldLink RX6 42 "Divisionorder" "units" "[LDivisionorder$Unit;") ∈ wsX6_settledOwed := by decide +kernel
theorem kX6_settledOwed_3 : ∀ w ∈ u_ws RX4 TX4 7, w ∈ wsX6_settledOwed := by decide +kernel
theorem kX6_settledOwed_4 : (Cond.fieldLink RX6 203 "Divisionorder$Unit" "firstMonth" "I") ∈ wsX6_settledOwed := by decide +kernel
theorem kX6_settledOwed_5 : (Cond.fieldLink RX6 9 "Divisionorder" "now" "I") ∈ wsX6_settledOwed := by decide +kernel
theorem kX6_settledOwed_6 : (Cond.fieldLink RX6 268 "Divisionorder$Unit" "dues" "[J") ∈ wsX6_settledOwed := by decide +kernel
set_option maxHeartbeats 4000000 in
set_option maxRecDepth 100000 in
theorem cm_X6_settledOwed (l : Launch) (dC : Nat → ClassId) (dI : Nat → Nat → Nat) (dA : Nat → ClassId) (L : List Nat) (α : Nat → Nat) (σ : Mm) (a1 : Int32) (Qm : Int64 → Mm → Prop) (h : wp_X6_settledOwed L σ a1 Qm) (sz : Nat) : Met l yX6_settledOwed wsX6_settledOwed ({ frames := 0, cells := 0, slots := 0, locals := 0 } : Room) (cP dC dI dA (Fc ++ L) α σ sz [fO α (some 0), .int a1]) (va_Ql Qm (cB dC dI dA (Fc ++ L) α (wl dA (Fc ++ L) α σ) sz) (va_A (wl dA (Fc ++ L) α σ) sz)) 0 0 (va_A (wl dA (Fc ++ L) α σ) sz) := by
  refine m_start (own := RX6) (lv := [(0, fO α (some 0)), (1, .int a1)]) (by decide) rfl rfl (by simp only [lgl_O, lgl_I, lgl_J, lgl_N]; decide) (by simp only [lva_O, lva_I, lva_J, lva_N]) ?_
  intro p e s m below meth c hsz hC hr hlk
  generalize hA : va_A (wl dA (Fc ++ L) α σ) sz = A at hC ⊢
  have hA := hA.symm
  generalize hargs : ([fO α (some 0), .int a1] : List Value).toArray = args at hC ⊢
  generalize hQ : MQ below _ args s 0 0 A = Q
  unfold wp_X6_settledOwed at h
  refine r_aload_n hC dX6_settledOwed_0 rfl 0 rfl ?_
  refine r_get (ci := 6) (f := 15) (v := fO α (some 7)) hC kX6_settledOwed_0 rfl (by decide) rfl kX6_settledOwed_1 fx_0 (ct_6 rfl) rfl dX6_settledOwed_1 ?_
  refine r_iload_n hC dX6_settledOwed_4 rfl 1 rfl ?_
  obtain ⟨c1, h⟩ := h
  refine r_lald hC fx_7 rfl c1 dX6_settledOwed_5 ?_
  refine r_lneg hC dX6_settledOwed_6 ?_
  refine r_topl (fun y2 qy2 => ?_)
  replace h := h y2 qy2
  refine r_lstore_n (lv' := [(2, .long y2), (0, fO α (some 0)), (1, .int a1)]) hC dX6_settledOwed_7 rfl (by decide) rfl ?_
  refine r_aload_n hC dX6_settledOwed_8 rfl 1 rfl ?_
  refine r_get (ci := 6) (f := 7) (v := fO α (some 4)) hC kX6_settledOwed_0 rfl (by decide) rfl kX6_settledOwed_2 fx_0 (ct_6 rfl) rfl dX6_settledOwed_9 ?_
  refine r_astore (lv' := [(4, fO α (some 4)), (2, .long y2), (0, fO α (some 0)), (1, .int a1)]) hC dX6_settledOwed_12 (by decide) rfl ?_
  refine r_aload hC dX6_settledOwed_14 0 rfl ?_
  refine r_alen_14 (v := 3) hC fx_4 rfl (by decide) dX6_settledOwed_16 ?_
  refine r_istore (lv' := [(5, .int 3), (4, fO α (some 4)), (2, .long y2), (0, fO α (some 0)), (1, .int a1)]) hC dX6_settledOwed_17 (by decide) rfl ?_
  refine r_iconst (v := 0) hC dX6_settledOwed_19 (by decide) ?_
  refine r_istore (lv' := [(6, .int 0), (5, .int 3), (4, fO α (some 4)), (2, .long y2), (0, fO α (some 0)), (1, .int a1)]) hC dX6_settledOwed_20 (by decide) rfl ?_
  refine r_lvs [4, 5, 3, 2, 1, 0] rfl ?_
  obtain ⟨n, h⟩ := h
  refine lpw_ind (S := Int64 × Int32) (fun s6 => G p l e ({ frames := 0, cells := 0, slots := 0, locals := 0 } : Room) s m args below meth c 0 0 Q dC dI dA (Fc ++ L) α A 9 σ 22 [(0, fO α (some 0)), (1, .int a1), (2, .long s6.1), (4, fO α (some 4)), (5, .int 3), (6, .int s6.2)] []) ?_ n (y2, 0) h
  clear h
  intro R5 hR5 s6 h
  obtain ⟨y3, x4⟩ := s6
  refine r_iload hC dX6_settledOwed_22 5 rfl ?_
  refine r_iload hC dX6_settledOwed_24 4 rfl ?_
  refine r_icmp_ge (tgt := 85) hC dX6_settledOwed_26 (by decide) (fun q => ?_) (fun q => ?_)
  · replace h := h.1 q
    refine r_lload_n hC dX6_settledOwed_85 rfl 2 rfl ?_
    subst hQ
    exact r_lret hC hA hr hlk dX6_settledOwed_86 h
  · replace h := h.2 q
    refine r_aload hC dX6_settledOwed_29 3 rfl ?_
    refine r_iload hC dX6_settledOwed_31 5 rfl ?_
    obtain ⟨c7, h⟩ := h
    refine r_aald_14 hC fx_4 rfl c7 dX6_settledOwed_33 ?_
    refine r_topo (fun o8 qo8 => ?_)
    replace h := h o8 qo8
    refine r_astore (lv' := [(7, fO α o8), (0, fO α (some 0)), (1, .int a1), (2, .long y3), (4, fO α (some 4)), (5, .int 3), (6, .int x4)]) hC dX6_settledOwed_34 (by decide) rfl ?_
    refine r_aload hC dX6_settledOwed_36 0 rfl ?_
    obtain ⟨J11, hJ11, h⟩ := h
    have KJ11 : ∀ (y10 : Int64), J11 y10 → G p l e ({ frames := 0, cells := 0, slots := 0, locals := 0 } : Room) s m args below meth c 0 0 Q dC dI dA (Fc ++ L) α A 9 σ 79 [(0, fO α (some 0)), (1, .int a1), (2, .long y10), (4, fO α (some 4)), (5, .int 3), (6, .int x4)] [] := by
      clear h
      intro y10 h
      replace h := hJ11 y10 h
      obtain ⟨x12, qx12⟩ : ∃ z : Int32, z = x4 + 1 := ⟨_, rfl⟩
      replace h := h x12 qx12
      refine r_iinc (v := x12) (lv' := [(6, .int x12), (0, fO α (some 0)), (1, .int a1), (2, .long y10), (4, fO α (some 4)), (5, .int 3)]) hC dX6_settledOwed_79 (k := 5) rfl (by rw [qx12]; rfl) (by decide) rfl ?_
      refine r_goto (tgt := 22) hC dX6_settledOwed_82 (by decide) ?_
      refine r_lvs [1, 2, 3, 4, 5, 0] rfl ?_
      exact hR5 _ h
    refine r_ifnull (tgt := 79) hC dX6_settledOwed_38 (by decide) (fun q => ?_) (fun k9 q => ?_)
    · replace h := h.1 q
      subst q
      refine r_lvs [1, 2, 3, 4, 5, 6] rfl ?_
      exact KJ11 y3 h
    · replace h := h.2 k9 q
      subst q
      refine r_aload hC dX6_settledOwed_41 0 rfl ?_
      obtain ⟨v13, h⟩ := h
      refine r_get (ci := 4) (f := 0) (v := .int (gI σ k9 0)) hC kX6_settledOwed_3 rfl (by decide) rfl kX6_settledOwed_4 v13.1 (ct_4 v13.2) rfl dX6_settledOwed_43 ?_
      refine r_topi (fun x14 qx14 => ?_)
      replace h := h x14 qx14
      refine r_istore (lv' := [(8, .int x14), (7, fO α (some k9)), (0, fO α (some 0)), (1, .int a1), (2, .long y3), (4, fO α (some 4)), (5, .int 3), (6, .int x4)]) hC dX6_settledOwed_46 (by decide) rfl ?_
      refine r_lvs [2, 3, 4, 5, 6, 7, 1, 0] rfl ?_
      obtain ⟨n, h⟩ := h
      refine lpw_ind (S := Int64 × Int32) (fun s18 => G p l e ({ frames := 0, cells := 0, slots := 0, locals := 0 } : Room) s m args below meth c 0 0 Q dC dI dA (Fc ++ L) α A 9 σ 48 [(0, fO α (some 0)), (1, .int a1), (2, .long s18.1), (4, fO α (some 4)), (5, .int 3), (6, .int x4), (7, fO α (some k9)), (8, .int s18.2)] []) ?_ n (y3, x14) h
      clear h
      intro R17 hR17 s18 h
      obtain ⟨y15, x16⟩ := s18
      refine r_iload hC dX6_settledOwed_48 7 rfl ?_
      refine r_aload_n hC dX6_settledOwed_50 rfl 0 rfl ?_
      refine r_get (ci := 6) (f := 0) (v := .int (gI σ 0 0)) hC kX6_settledOwed_0 rfl (by decide) rfl kX6_settledOwed_5 fx_0 (ct_6 rfl) rfl dX6_settledOwed_51 ?_
      refine r_icmp_gt (tgt := 79) hC dX6_settledOwed_54 (by decide) (fun q => ?_) (fun q => ?_)
      · replace h := h.1 q
        refine r_lvs [0, 1, 2, 3, 4, 5] rfl ?_
        exact KJ11 y15 h
      · replace h := h.2 q
        refine r_lload_n hC dX6_settledOwed_57 rfl 2 rfl ?_
        refine r_aload hC dX6_settledOwed_58 6 rfl ?_
        refine r_get (ci := 4) (f := 5) (v := fO α (some (k9 + 5))) hC kX6_settledOwed_3 rfl (by decide) rfl kX6_settledOwed_6 v13.1 (ct_4 v13.2) rfl dX6_settledOwed_60 ?_
        refine r_iload hC dX6_settledOwed_63 7 rfl ?_
        refine r_bipush (v := 10) hC dX6_settledOwed_65 (by decide) ?_
        refine r_imul hC dX6_settledOwed_67 ?_
        refine r_iload_n hC dX6_settledOwed_68 rfl 1 rfl ?_
        refine r_iadd hC dX6_settledOwed_69 ?_
        obtain ⟨v19, h⟩ := h
        obtain ⟨c20, h⟩ := h
        refine r_lald hC v19.1 v19.2 c20 dX6_settledOwed_70 ?_
        refine r_ladd hC dX6_settledOwed_71 ?_
        refine r_topl (fun y21 qy21 => ?_)
        replace h := h y21 qy21
        refine r_lstore_n (lv' := [(2, .long y21), (0, fO α (some 0)), (1, .int a1), (4, fO α (some 4)), (5, .int 3), (6, .int x4), (7, fO α (some k9)), (8, .int x16)]) hC dX6_settledOwed_72 rfl (by decide) rfl ?_
        obtain ⟨x22, qx22⟩ : ∃ z : Int32, z = x16 + 1 := ⟨_, rfl⟩
        replace h := h x22 qx22
        refine r_iinc (v := x22) (lv' := [(8, .int x22), (2, .long y21), (0, fO α (some 0)), (1, .int a1), (4, fO α (some 4)), (5, .int 3), (6, .int x4), (7, fO α (some k9))]) hC dX6_settledOwed_73 (k := 7) rfl (by rw [qx22]; rfl) (by decide) rfl ?_
        refine r_goto (tgt := 48) hC dX6_settledOwed_76 (by decide) ?_
        refine r_lvs [2, 3, 1, 4, 5, 6, 7, 0] rfl ?_
        exact hR17 _ h
theorem kX6_payDay_0 : ∀ w ∈ u_ws RX6 TX6 20, w ∈ wsX6_payDay := by decide +kernel
theorem kX6_payDay_1 : (Cond.fieldLink RX6 65 "Divisionorder" "suspendedOwners" "I") ∈ wsX6_payDay := by decide +kernel
theorem kX6_payDay_2 : (Cond.fieldLink RX6 68 "Divisionorder" "leastCheque" "I") ∈ wsX6_payDay := by decide +kernel
theorem kX6_payDay_3 : (Cond.fieldLink RX6 71 "Divisionorder" "paidCents" "[J") ∈ wsX6_payDay := by decide +kernel
set_option maxHeartbeats 4000000 in
set_option maxRecDepth 100000 in
theorem cm_X6_payDay (l : Launch) (dC : Nat → ClassId) (dI : Nat → Nat → Nat) (dA : Nat → ClassId) (L : List Nat) (α : Nat → Nat) (σ : Mm)  (Qm : Int64 → Mm → Prop) (h : wp_X6_payDay L σ  Qm) (sz : Nat) : Met l yX6_payDay wsX6_payDay ({ frames := 6, cells := 0, slots := 0, locals := 154 } : Room) (cP dC dI dA (Fc ++ L) α σ sz [fO α (some 0)]) (va_Ql Qm (cB dC dI dA (Fc ++ L) α (wl dA (Fc ++ L) α σ) sz) (va_A (wl dA (Fc ++ L) α σ) sz)) 0 0 (va_A (wl dA (Fc ++ L) α σ) sz) := by
  refine m_start (own := RX6) (lv := [(0, fO α (some 0))]) (by decide) rfl rfl (by simp only [lgl_O, lgl_I, lgl_J, lgl_N]; decide) (by simp only [lva_O, lva_I, lva_J, lva_N]) ?_
  intro p e s m below meth c hsz hC hr hlk
  generalize hA : va_A (wl dA (Fc ++ L) α σ) sz = A at hC ⊢
  have hA := hA.symm
  generalize hargs : ([fO α (some 0)] : List Value).toArray = args at hC ⊢
  generalize hQ : MQ below _ args s 0 0 A = Q
  unfold wp_X6_payDay at h
  refine r_aload_n hC dX6_payDay_0 rfl 0 rfl ?_
  refine r_callv hC [] (m_runV (n := 0) (ci := 6) hC [] [] (fun sz => cm_X6_settle l dC dI dA L α σ  _ h sz) gX6_payDay_X6_settle rfl ⟨rfl, rfl⟩ (by decide +kernel) ⟨Nat.le_of_ble_eq_true rfl, Nat.le_of_ble_eq_true rfl⟩ fx_0 (ct_6 rfl) rfl rfl (Nat.le_of_ble_eq_true rfl) (by decide) dX6_payDay_1) (fun σ1 hn => ?_)
  clear h
  revert hn
  intro h
  refine r_lconst (v := 0) hC dX6_payDay_4 (by decide) ?_
  refine r_lstore_n (lv' := [(1, .long 0), (0, fO α (some 0))]) hC dX6_payDay_5 rfl (by decide) rfl ?_
  refine r_iconst (v := 0) hC dX6_payDay_6 (by decide) ?_
  refine r_istore_n (lv' := [(3, .int 0), (1, .long 0), (0, fO α (some 0))]) hC dX6_payDay_7 rfl (by decide) rfl ?_
  refine r_lvs [2, 1, 0] rfl ?_
  obtain ⟨n, h⟩ := h
  refine lpw_ind (S := Mm × Int64 × Int32) (fun s6 => G p l e ({ frames := 6, cells := 0, slots := 0, locals := 154 } : Room) s m args below meth c 0 0 Q dC dI dA (Fc ++ L) α A 6 s6.1 8 [(0, fO α (some 0)), (1, .long s6.2.1), (3, .int s6.2.2)] []) ?_ n (σ1, 0, 0) h
  clear h
  intro R5 hR5 s6 h
  obtain ⟨σ2, y3, x4⟩ := s6
  refine r_iload_n hC dX6_payDay_8 rfl 2 rfl ?_
  refine r_bipush (v := 10) hC dX6_payDay_9 (by decide) ?_
  refine r_icmp_ge (tgt := 69) hC dX6_payDay_11 (by decide) (fun q => ?_) (fun q => ?_)
  · replace h := h.1 q
    refine r_lload_n hC dX6_payDay_69 rfl 1 rfl ?_
    subst hQ
    exact r_lret hC hA hr hlk dX6_payDay_70 h
  · replace h := h.2 q
    refine r_aload_n hC dX6_payDay_14 rfl 0 rfl ?_
    refine r_get (ci := 6) (f := 13) (v := .int (gI σ2 0 13)) hC kX6_payDay_0 rfl (by decide) rfl kX6_payDay_1 fx_0 (ct_6 rfl) rfl dX6_payDay_15 ?_
    refine r_iload_n hC dX6_payDay_18 rfl 2 rfl ?_
    refine r_calli hC [] (m_runS (n := 2) hC [.int (gI σ2 0 13), .int x4] [] (fun sz => cm_X6_hasBit l dC dI dA L α σ2 (gI σ2 0 13) x4 _ h sz) gX6_payDay_X6_hasBit rfl ⟨rfl, rfl⟩ (by decide +kernel) ⟨Nat.le_of_ble_eq_true rfl, Nat.le_of_ble_eq_true rfl⟩ rfl (Nat.le_of_ble_eq_true rfl) (by decide) dX6_payDay_19) (fun x8 σ7 hn => ?_)
    clear h
    revert hn
    intro h
    obtain ⟨J11, hJ11, h⟩ := h
    have KJ11 : ∀ (σ9 : Mm) (y10 : Int64), J11 σ9 y10 → G p l e ({ frames := 6, cells := 0, slots := 0, locals := 154 } : Room) s m args below meth c 0 0 Q dC dI dA (Fc ++ L) α A 6 σ9 34 [(0, fO α (some 0)), (1, .long y3), (3, .int x4)] [.long y10] := by
      clear h
      intro σ9 y10 h
      replace h := hJ11 σ9 y10 h
      refine r_lstore (lv' := [(4, .long y10), (0, fO α (some 0)), (1, .long y3), (3, .int x4)]) hC dX6_payDay_34 (by decide) rfl ?_
      refine r_lload hC dX6_payDay_36 0 rfl ?_
      refine r_aload_n hC dX6_payDay_38 rfl 1 rfl ?_
      refine r_get (ci := 6) (f := 14) (v := .int (gI σ9 0 14)) hC kX6_payDay_0 rfl (by decide) rfl kX6_payDay_2 fx_0 (ct_6 rfl) rfl dX6_payDay_39 ?_
      refine r_i2l hC dX6_payDay_42 ?_
      obtain ⟨J14, hJ14, h⟩ := h
      have KJ14 : ∀ (σ12 : Mm) (y13 : Int64), J14 σ12 y13 → G p l e ({ frames := 6, cells := 0, slots := 0, locals := 154 } : Room) s m args below meth c 0 0 Q dC dI dA (Fc ++ L) α A 6 σ12 63 [(0, fO α (some 0)), (1, .long y13), (3, .int x4)] [] := by
        clear h
        intro σ12 y13 h
        replace h := hJ14 σ12 y13 h
        obtain ⟨x15, qx15⟩ : ∃ z : Int32, z = x4 + 1 := ⟨_, rfl⟩
        replace h := h x15 qx15
        refine r_iinc (v := x15) (lv' := [(3, .int x15), (0, fO α (some 0)), (1, .long y13)]) hC dX6_payDay_63 (k := 2) rfl (by rw [qx15]; rfl) (by decide) rfl ?_
        refine r_goto (tgt := 8) hC dX6_payDay_66 (by decide) ?_
        refine r_lvs [1, 2, 0] rfl ?_
        exact hR5 _ h
      refine r_lcmp_lt (tgt := 63) hC dX6_payDay_43 dX6_payDay_44 (by decide) (fun q => ?_) (fun q => ?_)
      · replace h := h.1 q
        refine r_lvs [1, 2, 3] rfl ?_
        exact KJ14 σ9 y3 h
      · replace h := h.2 q
        refine r_aload_n hC dX6_payDay_47 rfl 1 rfl ?_
        refine r_get (ci := 6) (f := 15) (v := fO α (some 7)) hC kX6_payDay_0 rfl (by decide) rfl kX6_payDay_3 fx_0 (ct_6 rfl) rfl dX6_payDay_48 ?_
        refine r_iload_n hC dX6_payDay_51 rfl 3 rfl ?_
        refine r_dup2 hC rfl fO_cat dX6_payDay_52 ?_
        obtain ⟨c16, h⟩ := h
        refine r_lald hC fx_7 rfl c16 dX6_payDay_53 ?_
        refine r_lload hC dX6_payDay_54 0 rfl ?_
        refine r_ladd hC dX6_payDay_56 ?_
        obtain ⟨c17, h⟩ := h
        refine r_last hC fx_7 rfl c17 dX6_payDay_57 ?_
        refine r_topm (fun σ18 qσ18 => ?_)
        replace h := h σ18 qσ18
        refine r_lload_n hC dX6_payDay_58 rfl 2 rfl ?_
        refine r_lload hC dX6_payDay_59 0 rfl ?_
        refine r_ladd hC dX6_payDay_61 ?_
        refine r_topl (fun y19 qy19 => ?_)
        replace h := h y19 qy19
        refine r_lstore_n (lv' := [(1, .long y19), (4, .long y10), (0, fO α (some 0)), (3, .int x4)]) hC dX6_payDay_62 rfl (by decide) rfl ?_
        refine r_lvs [2, 0, 3] rfl ?_
        exact KJ14 σ18 y19 h
    refine r_if_eq (tgt := 29) hC dX6_payDay_22 (by decide) (fun q => ?_) (fun q => ?_)
    · replace h := h.1 q
      refine r_aload_n hC dX6_payDay_29 rfl 0 rfl ?_
      refine r_iload_n hC dX6_payDay_30 rfl 2 rfl ?_
      refine r_calll hC [] (m_runV (n := 1) (ci := 6) hC [.int x4] [] (fun sz => cm_X6_settledOwed l dC dI dA L α σ7 x4 _ h sz) gX6_payDay_X6_settledOwed rfl ⟨rfl, rfl⟩ (by decide +kernel) ⟨Nat.le_of_ble_eq_true rfl, Nat.le_of_ble_eq_true rfl⟩ fx_0 (ct_6 rfl) rfl rfl (Nat.le_of_ble_eq_true rfl) (by decide) dX6_payDay_31) (fun y21 σ20 hn => ?_)
      clear h
      revert hn
      intro h
      exact KJ11 σ20 y21 h
    · replace h := h.2 q
      refine r_lconst (v := 0) hC dX6_payDay_25 (by decide) ?_
      refine r_goto (tgt := 34) hC dX6_payDay_26 (by decide) ?_
      exact KJ11 σ7 0 h
set_option maxHeartbeats 4000000 in
set_option maxRecDepth 100000 in
theorem cm_X6_isOwner (l : Launch) (dC : Nat → ClassId) (dI : Nat → Nat → Nat) (dA : Nat → ClassId) (L : List Nat) (α : Nat → Nat) (σ : Mm) (a0 : Int32) (Qm : Int32 → Mm → Prop) (h : wp_X6_isOwner L σ a0 Qm) (sz : Nat) : Met l yX6_isOwner wsX6_isOwner ({ frames := 0, cells := 0, slots := 0, locals := 0 } : Room) (cP dC dI dA (Fc ++ L) α σ sz [.int a0]) (va_Qi Qm (cB dC dI dA (Fc ++ L) α (wl dA (Fc ++ L) α σ) sz) (va_A (wl dA (Fc ++ L) α σ) sz)) 0 0 (va_A (wl dA (Fc ++ L) α σ) sz) := by
  refine m_start (own := RX6) (lv := [(0, .int a0)]) (by decide) rfl rfl (by simp only [lgl_O, lgl_I, lgl_J, lgl_N]; decide) (by simp only [lva_O, lva_I, lva_J, lva_N]) ?_
  intro p e s m below meth c hsz hC hr hlk
  generalize hA : va_A (wl dA (Fc ++ L) α σ) sz = A at hC ⊢
  have hA := hA.symm
  generalize hargs : ([.int a0] : List Value).toArray = args at hC ⊢
  generalize hQ : MQ below _ args s 0 0 A = Q
  unfold wp_X6_isOwner at h
  refine r_iload_n hC dX6_isOwner_0 rfl 0 rfl ?_
  obtain ⟨J2, hJ2, h⟩ := h
  have KJ2 : ∀ (x1 : Int32), J2 x1 → G p l e ({ frames := 0, cells := 0, slots := 0, locals := 0 } : Room) s m args below meth c 0 0 Q dC dI dA (Fc ++ L) α A 1 σ 15 [] [.int x1] := by
    clear h
    intro x1 h
    replace h := hJ2 x1 h
    subst hQ
    exact r_zret hC hA hr hlk dX6_isOwner_15 h.1 h.2
  obtain ⟨J3, hJ3, h⟩ := h
  have KJ3 : J3 → G p l e ({ frames := 0, cells := 0, slots := 0, locals := 0 } : Room) s m args below meth c 0 0 Q dC dI dA (Fc ++ L) α A 1 σ 14 [] [] := by
    clear h
    intro h
    replace h := hJ3 h
    refine r_iconst (v := 0) hC dX6_isOwner_14 (by decide) ?_
    exact KJ2 0 h
  refine r_if_lt (tgt := 14) hC dX6_isOwner_1 (by decide) (fun q => ?_) (fun q => ?_)
  · replace h := h.1 q
    refine r_lvs [] rfl ?_
    exact KJ3 h
  · replace h := h.2 q
    refine r_iload_n hC dX6_isOwner_4 rfl 0 rfl ?_
    refine r_bipush (v := 10) hC dX6_isOwner_5 (by decide) ?_
    refine r_icmp_ge (tgt := 14) hC dX6_isOwner_7 (by decide) (fun q => ?_) (fun q => ?_)
    · replace h := h.1 q
      refine r_lvs [] rfl ?_
      exact KJ3 h
    · replace h := h.2 q
      refine r_iconst (v := 1) hC dX6_isOwner_10 (by decide) ?_
      refine r_goto (tgt := 15) hC dX6_isOwner_11 (by decide) ?_
      refine r_lvs [] rfl ?_
      exact KJ2 1 h
theorem kX6_isMonth_0 : ∀ w ∈ u_ws RX6 TX6 20, w ∈ wsX6_isMonth := by decide +kernel
theorem kX6_isMonth_1 : (Cond.fieldLink RX6 9 "Divisionorder" "now" "I") ∈ wsX6_isMonth := by decide +kernel
set_option maxHeartbeats 4000000 in
set_option maxRecDepth 100000 in
theorem cm_X6_isMonth (l : Launch) (dC : Nat → ClassId) (dI : Nat → Nat → Nat) (dA : Nat → ClassId) (L : List Nat) (α : Nat → Nat) (σ : Mm) (a1 : Int32) (Qm : Int32 → Mm → Prop) (h : wp_X6_isMonth L σ a1 Qm) (sz : Nat) : Met l yX6_isMonth wsX6_isMonth ({ frames := 0, cells := 0, slots := 0, locals := 0 } : Room) (cP dC dI dA (Fc ++ L) α σ sz [fO α (some 0), .int a1]) (va_Qi Qm (cB dC dI dA (Fc ++ L) α (wl dA (Fc ++ L) α σ) sz) (va_A (wl dA (Fc ++ L) α σ) sz)) 0 0 (va_A (wl dA (Fc ++ L) α σ) sz) := by
  refine m_start (own := RX6) (lv := [(0, fO α (some 0)), (1, .int a1)]) (by decide) rfl rfl (by simp only [lgl_O, lgl_I, lgl_J, lgl_N]; decide) (by simp only [lva_O, lva_I, lva_J, lva_N]) ?_
  intro p e s m below meth c hsz hC hr hlk
  generalize hA : va_A (wl dA (Fc ++ L) α σ) sz = A at hC ⊢
  have hA := hA.symm
  generalize hargs : ([fO α (some 0), .int a1] : List Value).toArray = args at hC ⊢
  generalize hQ : MQ below _ args s 0 0 A = Q
  unfold wp_X6_isMonth at h
  refine r_iload_n hC dX6_isMonth_0 rfl 1 rfl ?_
  obtain ⟨J2, hJ2, h⟩ := h
  have KJ2 : ∀ (x1 : Int32), J2 x1 → G p l e ({ frames := 0, cells := 0, slots := 0, locals := 0 } : Room) s m args below meth c 0 0 Q dC dI dA (Fc ++ L) α A 2 σ 17 [] [.int x1] := by
    clear h
    intro x1 h
    replace h := hJ2 x1 h
    subst hQ
    exact r_zret hC hA hr hlk dX6_isMonth_17 h.1 h.2
  obtain ⟨J3, hJ3, h⟩ := h
  have KJ3 : J3 → G p l e ({ frames := 0, cells := 0, slots := 0, locals := 0 } : Room) s m args below meth c 0 0 Q dC dI dA (Fc ++ L) α A 2 σ 16 [] [] := by
    clear h
    intro h
    replace h := hJ3 h
    refine r_iconst (v := 0) hC dX6_isMonth_16 (by decide) ?_
    exact KJ2 0 h
  refine r_if_lt (tgt := 16) hC dX6_isMonth_1 (by decide) (fun q => ?_) (fun q => ?_)
  · replace h := h.1 q
    refine r_lvs [] rfl ?_
    exact KJ3 h
  · replace h := h.2 q
    refine r_iload_n hC dX6_isMonth_4 rfl 1 rfl ?_
    refine r_aload_n hC dX6_isMonth_5 rfl 0 rfl ?_
    refine r_get (ci := 6) (f := 0) (v := .int (gI σ 0 0)) hC kX6_isMonth_0 rfl (by decide) rfl kX6_isMonth_1 fx_0 (ct_6 rfl) rfl dX6_isMonth_6 ?_
    refine r_icmp_gt (tgt := 16) hC dX6_isMonth_9 (by decide) (fun q => ?_) (fun q => ?_)
    · replace h := h.1 q
      refine r_lvs [] rfl ?_
      exact KJ3 h
    · replace h := h.2 q
      refine r_iconst (v := 1) hC dX6_isMonth_12 (by decide) ?_
      refine r_goto (tgt := 17) hC dX6_isMonth_13 (by decide) ?_
      refine r_lvs [] rfl ?_
      exact KJ2 1 h
theorem kX6_tractAt_0 : ∀ w ∈ u_ws RX6 TX6 20, w ∈ wsX6_tractAt := by decide +kernel
theorem kX6_tractAt_1 : (Cond.fieldLink RX6 15 "Divisionorder" "tracts" "[LDivisionorder$Tract;") ∈ wsX6_tractAt := by decide +kernel
set_option maxHeartbeats 4000000 in
set_option maxRecDepth 100000 in
theorem cm_X6_tractAt (l : Launch) (dC : Nat → ClassId) (dI : Nat → Nat → Nat) (dA : Nat → ClassId) (L : List Nat) (α : Nat → Nat) (σ : Mm) (a1 : Int32) (Qm : Option Nat → Mm → Prop) (h : wp_X6_tractAt L σ a1 Qm) (sz : Nat) : Met l yX6_tractAt wsX6_tractAt ({ frames := 0, cells := 0, slots := 0, locals := 0 } : Room) (cP dC dI dA (Fc ++ L) α σ sz [fO α (some 0), .int a1]) (va_Qe α Qm (cB dC dI dA (Fc ++ L) α (wl dA (Fc ++ L) α σ) sz) (va_A (wl dA (Fc ++ L) α σ) sz)) 0 0 (va_A (wl dA (Fc ++ L) α σ) sz) := by
  refine m_start (own := RX6) (lv := [(0, fO α (some 0)), (1, .int a1)]) (by decide) rfl rfl (by simp only [lgl_O, lgl_I, lgl_J, lgl_N]; decide) (by simp only [lva_O, lva_I, lva_J, lva_N]) ?_
  intro p e s m below meth c hsz hC hr hlk
  generalize hA : va_A (wl dA (Fc ++ L) α σ) sz = A at hC ⊢
  have hA := hA.symm
  generalize hargs : ([fO α (some 0), .int a1] : List Value).toArray = args at hC ⊢
  generalize hQ : MQ below _ args s 0 0 A = Q
  unfold wp_X6_tractAt at h
  refine r_iload_n hC dX6_tractAt_0 rfl 1 rfl ?_
  obtain ⟨J2, hJ2, h⟩ := h
  have KJ2 : ∀ (o1 : Option Nat), J2 o1 → G p l e ({ frames := 0, cells := 0, slots := 0, locals := 0 } : Room) s m args below meth c 0 0 Q dC dI dA (Fc ++ L) α A 2 σ 20 [] [fO α o1] := by
    clear h
    intro o1 h
    replace h := hJ2 o1 h
    subst hQ
    exact r_aret hC hA hr hlk dX6_tractAt_20 h
  obtain ⟨J3, hJ3, h⟩ := h
  have KJ3 : J3 → G p l e ({ frames := 0, cells := 0, slots := 0, locals := 0 } : Room) s m args below meth c 0 0 Q dC dI dA (Fc ++ L) α A 2 σ 19 [] [] := by
    clear h
    intro h
    replace h := hJ3 h
    refine r_null hC dX6_tractAt_19 ?_
    exact KJ2 none h
  refine r_if_lt (tgt := 19) hC dX6_tractAt_1 (by decide) (fun q => ?_) (fun q => ?_)
  · replace h := h.1 q
    refine r_lvs [] rfl ?_
    exact KJ3 h
  · replace h := h.2 q
    refine r_iload_n hC dX6_tractAt_4 rfl 1 rfl ?_
    refine r_bipush (v := 8) hC dX6_tractAt_5 (by decide) ?_
    refine r_icmp_ge (tgt := 19) hC dX6_tractAt_7 (by decide) (fun q => ?_) (fun q => ?_)
    · replace h := h.1 q
      refine r_lvs [] rfl ?_
      exact KJ3 h
    · replace h := h.2 q
      refine r_aload_n hC dX6_tractAt_10 rfl 0 rfl ?_
      refine r_get (ci := 6) (f := 1) (v := fO α (some 1)) hC kX6_tractAt_0 rfl (by decide) rfl kX6_tractAt_1 fx_0 (ct_6 rfl) rfl dX6_tractAt_11 ?_
      refine r_iload_n hC dX6_tractAt_14 rfl 1 rfl ?_
      obtain ⟨c4, h⟩ := h
      refine r_aald_13 hC fx_1 rfl c4 dX6_tractAt_15 ?_
      refine r_topo (fun o5 qo5 => ?_)
      replace h := h o5 qo5
      refine r_goto (tgt := 20) hC dX6_tractAt_16 (by decide) ?_
      refine r_lvs [] rfl ?_
      exact KJ2 o5 h
theorem kX6_unitAt_0 : ∀ w ∈ u_ws RX6 TX6 20, w ∈ wsX6_unitAt := by decide +kernel
theorem kX6_unitAt_1 : (Cond.fieldLink RX6 42 "Divisionorder" "units" "[LDivisionorder$Unit;") ∈ wsX6_unitAt := by decide +kernel
set_option maxHeartbeats 4000000 in
set_option maxRecDepth 100000 in
theorem cm_X6_unitAt (l : Launch) (dC : Nat → ClassId) (dI : Nat → Nat → Nat) (dA : Nat → ClassId) (L : List Nat) (α : Nat → Nat) (σ : Mm) (a1 : Int32) (Qm : Option Nat → Mm → Prop) (h : wp_X6_unitAt L σ a1 Qm) (sz : Nat) : Met l yX6_unitAt wsX6_unitAt ({ frames := 0, cells := 0, slots := 0, locals := 0 } : Room) (cP dC dI dA (Fc ++ L) α σ sz [fO α (some 0), .int a1]) (va_Qe α Qm (cB dC dI dA (Fc ++ L) α (wl dA (Fc ++ L) α σ) sz) (va_A (wl dA (Fc ++ L) α σ) sz)) 0 0 (va_A (wl dA (Fc ++ L) α σ) sz) := by
  refine m_start (own := RX6) (lv := [(0, fO α (some 0)), (1, .int a1)]) (by decide) rfl rfl (by simp only [lgl_O, lgl_I, lgl_J, lgl_N]; decide) (by simp only [lva_O, lva_I, lva_J, lva_N]) ?_
  intro p e s m below meth c hsz hC hr hlk
  generalize hA : va_A (wl dA (Fc ++ L) α σ) sz = A at hC ⊢
  have hA := hA.symm
  generalize hargs : ([fO α (some 0), .int a1] : List Value).toArray = args at hC ⊢
  generalize hQ : MQ below _ args s 0 0 A = Q
  unfold wp_X6_unitAt at h
  refine r_iload_n hC dX6_unitAt_0 rfl 1 rfl ?_
  obtain ⟨J2, hJ2, h⟩ := h
  have KJ2 : ∀ (o1 : Option Nat), J2 o1 → G p l e ({ frames := 0, cells := 0, slots := 0, locals := 0 } : Room) s m args below meth c 0 0 Q dC dI dA (Fc ++ L) α A 2 σ 19 [] [fO α o1] := by
    clear h
    intro o1 h
    replace h := hJ2 o1 h
    subst hQ
    exact r_aret hC hA hr hlk dX6_unitAt_19 h
  obtain ⟨J3, hJ3, h⟩ := h
  have KJ3 : J3 → G p l e ({ frames := 0, cells := 0, slots := 0, locals := 0 } : Room) s m args below meth c 0 0 Q dC dI dA (Fc ++ L) α A 2 σ 18 [] [] := by
    clear h
    intro h
    replace h := hJ3 h
    refine r_null hC dX6_unitAt_18 ?_
    exact KJ2 none h
  refine r_if_lt (tgt := 18) hC dX6_unitAt_1 (by decide) (fun q => ?_) (fun q => ?_)
  · replace h := h.1 q
    refine r_lvs [] rfl ?_
    exact KJ3 h
  · replace h := h.2 q
    refine r_iload_n hC dX6_unitAt_4 rfl 1 rfl ?_
    refine r_iconst (v := 3) hC dX6_unitAt_5 (by decide) ?_
    refine r_icmp_ge (tgt := 18) hC dX6_unitAt_6 (by decide) (fun q => ?_) (fun q => ?_)
    · replace h := h.1 q
      refine r_lvs [] rfl ?_
      exact KJ3 h
    · replace h := h.2 q
      refine r_aload_n hC dX6_unitAt_9 rfl 0 rfl ?_
      refine r_get (ci := 6) (f := 7) (v := fO α (some 4)) hC kX6_unitAt_0 rfl (by decide) rfl kX6_unitAt_1 fx_0 (ct_6 rfl) rfl dX6_unitAt_10 ?_
      refine r_iload_n hC dX6_unitAt_13 rfl 1 rfl ?_
      obtain ⟨c4, h⟩ := h
      refine r_aald_14 hC fx_4 rfl c4 dX6_unitAt_14 ?_
      refine r_topo (fun o5 qo5 => ?_)
      replace h := h o5 qo5
      refine r_goto (tgt := 19) hC dX6_unitAt_15 (by decide) ?_
      refine r_lvs [] rfl ?_
      exact KJ2 o5 h
theorem kX6_unitIn_0 : ∀ w ∈ u_ws RX4 TX4 7, w ∈ wsX6_unitIn := by decide +kernel
theorem kX6_unitIn_1 : (Cond.fieldLink RX6 203 "Divisionorder$Unit" "firstMonth" "I") ∈ wsX6_unitIn := by decide +kernel
theorem kX6_unitIn_2 : ∀ w ∈ u_ws RX6 TX6 20, w ∈ wsX6_unitIn := by decide +kernel
theorem kX6_unitIn_3 : (Cond.fieldLink RX6 9 "Divisionorder" "now" "I") ∈ wsX6_unitIn := by decide +kernel
set_option maxHeartbeats 4000000 in
set_option maxRecDepth 100000 in
theorem cm_X6_unitIn (l : Launch) (dC : Nat → ClassId) (dI : Nat → Nat → Nat) (dA : Nat → ClassId) (L : List Nat) (α : Nat → Nat) (σ : Mm) (a1 : Int32) (a2 : Int32) (Qm : Option Nat → Mm → Prop) (h : wp_X6_unitIn L σ a1 a2 Qm) (sz : Nat) : Met l yX6_unitIn wsX6_unitIn ({ frames := 1, cells := 0, slots := 0, locals := 21 } : Room) (cP dC dI dA (Fc ++ L) α σ sz [fO α (some 0), .int a1, .int a2]) (va_Qe α Qm (cB dC dI dA (Fc ++ L) α (wl dA (Fc ++ L) α σ) sz) (va_A (wl dA (Fc ++ L) α σ) sz)) 0 0 (va_A (wl dA (Fc ++ L) α σ) sz) := by
  refine m_start (own := RX6) (lv := [(0, fO α (some 0)), (1, .int a1), (2, .int a2)]) (by decide) rfl rfl (by simp only [lgl_O, lgl_I, lgl_J, lgl_N]; decide) (by simp only [lva_O, lva_I, lva_J, lva_N]) ?_
  intro p e s m below meth c hsz hC hr hlk
  generalize hA : va_A (wl dA (Fc ++ L) α σ) sz = A at hC ⊢
  have hA := hA.symm
  generalize hargs : ([fO α (some 0), .int a1, .int a2] : List Value).toArray = args at hC ⊢
  generalize hQ : MQ below _ args s 0 0 A = Q
  unfold wp_X6_unitIn at h
  refine r_aload_n hC dX6_unitIn_0 rfl 0 rfl ?_
  refine r_iload_n hC dX6_unitIn_1 rfl 1 rfl ?_
  refine r_callo hC [] (m_runV (n := 1) (ci := 6) hC [.int a1] [] (fun sz => cm_X6_unitAt l dC dI dA L α σ a1 _ h sz) gX6_unitIn_X6_unitAt rfl ⟨rfl, rfl⟩ (by decide +kernel) ⟨Nat.le_of_ble_eq_true rfl, Nat.le_of_ble_eq_true rfl⟩ fx_0 (ct_6 rfl) rfl rfl (Nat.le_of_ble_eq_true rfl) (by decide) dX6_unitIn_2) (fun o2 σ1 hn => ?_)
  clear h
  revert hn
  intro h
  refine r_astore_n (lv' := [(3, fO α o2), (0, fO α (some 0)), (1, .int a1), (2, .int a2)]) hC dX6_unitIn_5 rfl (by decide) rfl ?_
  refine r_aload_n hC dX6_unitIn_6 rfl 0 rfl ?_
  obtain ⟨J5, hJ5, h⟩ := h
  have KJ5 : ∀ (o4 : Option Nat), J5 o4 → G p l e ({ frames := 1, cells := 0, slots := 0, locals := 21 } : Room) s m args below meth c 0 0 Q dC dI dA (Fc ++ L) α A 4 σ1 31 [] [fO α o4] := by
    clear h
    intro o4 h
    replace h := hJ5 o4 h
    subst hQ
    exact r_aret hC hA hr hlk dX6_unitIn_31 h
  obtain ⟨J6, hJ6, h⟩ := h
  have KJ6 : J6 → G p l e ({ frames := 1, cells := 0, slots := 0, locals := 21 } : Room) s m args below meth c 0 0 Q dC dI dA (Fc ++ L) α A 4 σ1 30 [] [] := by
    clear h
    intro h
    replace h := hJ6 h
    refine r_null hC dX6_unitIn_30 ?_
    exact KJ5 none h
  refine r_ifnull (tgt := 30) hC dX6_unitIn_7 (by decide) (fun q => ?_) (fun k3 q => ?_)
  · replace h := h.1 q
    subst q
    refine r_lvs [] rfl ?_
    exact KJ6 h
  · replace h := h.2 k3 q
    subst q
    refine r_iload_n hC dX6_unitIn_10 rfl 3 rfl ?_
    refine r_aload_n hC dX6_unitIn_11 rfl 0 rfl ?_
    obtain ⟨v7, h⟩ := h
    refine r_get (ci := 4) (f := 0) (v := .int (gI σ1 k3 0)) hC kX6_unitIn_0 rfl (by decide) rfl kX6_unitIn_1 v7.1 (ct_4 v7.2) rfl dX6_unitIn_12 ?_
    refine r_icmp_lt (tgt := 30) hC dX6_unitIn_15 (by decide) (fun q => ?_) (fun q => ?_)
    · replace h := h.1 q
      refine r_lvs [] rfl ?_
      exact KJ6 h
    · replace h := h.2 q
      refine r_iload_n hC dX6_unitIn_18 rfl 3 rfl ?_
      refine r_aload_n hC dX6_unitIn_19 rfl 1 rfl ?_
      refine r_get (ci := 6) (f := 0) (v := .int (gI σ1 0 0)) hC kX6_unitIn_2 rfl (by decide) rfl kX6_unitIn_3 fx_0 (ct_6 rfl) rfl dX6_unitIn_20 ?_
      refine r_icmp_gt (tgt := 30) hC dX6_unitIn_23 (by decide) (fun q => ?_) (fun q => ?_)
      · replace h := h.1 q
        refine r_lvs [] rfl ?_
        exact KJ6 h
      · replace h := h.2 q
        refine r_aload_n hC dX6_unitIn_26 rfl 0 rfl ?_
        refine r_goto (tgt := 31) hC dX6_unitIn_27 (by decide) ?_
        refine r_lvs [] rfl ?_
        exact KJ5 (some k3) h
theorem kX6_wellAt_0 : ∀ w ∈ u_ws RX6 TX6 20, w ∈ wsX6_wellAt := by decide +kernel
theorem kX6_wellAt_1 : (Cond.fieldLink RX6 51 "Divisionorder" "wells" "[LDivisionorder$Well;") ∈ wsX6_wellAt := by decide +kernel
set_option maxHeartbeats 4000000 in
set_option maxRecDepth 100000 in
theorem cm_X6_wellAt (l : Launch) (dC : Nat → ClassId) (dI : Nat → Nat → Nat) (dA : Nat → ClassId) (L : List Nat) (α : Nat → Nat) (σ : Mm) (a1 : Int32) (Qm : Option Nat → Mm → Prop) (h : wp_X6_wellAt L σ a1 Qm) (sz : Nat) : Met l yX6_wellAt wsX6_wellAt ({ frames := 0, cells := 0, slots := 0, locals := 0 } : Room) (cP dC dI dA (Fc ++ L) α σ sz [fO α (some 0), .int a1]) (va_Qe α Qm (cB dC dI dA (Fc ++ L) α (wl dA (Fc ++ L) α σ) sz) (va_A (wl dA (Fc ++ L) α σ) sz)) 0 0 (va_A (wl dA (Fc ++ L) α σ) sz) := by
  refine m_start (own := RX6) (lv := [(0, fO α (some 0)), (1, .int a1)]) (by decide) rfl rfl (by simp only [lgl_O, lgl_I, lgl_J, lgl_N]; decide) (by simp only [lva_O, lva_I, lva_J, lva_N]) ?_
  intro p e s m below meth c hsz hC hr hlk
  generalize hA : va_A (wl dA (Fc ++ L) α σ) sz = A at hC ⊢
  have hA := hA.symm
  generalize hargs : ([fO α (some 0), .int a1] : List Value).toArray = args at hC ⊢
  generalize hQ : MQ below _ args s 0 0 A = Q
  unfold wp_X6_wellAt at h
  refine r_iload_n hC dX6_wellAt_0 rfl 1 rfl ?_
  obtain ⟨J2, hJ2, h⟩ := h
  have KJ2 : ∀ (o1 : Option Nat), J2 o1 → G p l e ({ frames := 0, cells := 0, slots := 0, locals := 0 } : Room) s m args below meth c 0 0 Q dC dI dA (Fc ++ L) α A 2 σ 20 [] [fO α o1] := by
    clear h
    intro o1 h
    replace h := hJ2 o1 h
    subst hQ
    exact r_aret hC hA hr hlk dX6_wellAt_20 h
  obtain ⟨J3, hJ3, h⟩ := h
  have KJ3 : J3 → G p l e ({ frames := 0, cells := 0, slots := 0, locals := 0 } : Room) s m args below meth c 0 0 Q dC dI dA (Fc ++ L) α A 2 σ 19 [] [] := by
    clear h
    intro h
    replace h := hJ3 h
    refine r_null hC dX6_wellAt_19 ?_
    exact KJ2 none h
  refine r_if_lt (tgt := 19) hC dX6_wellAt_1 (by decide) (fun q => ?_) (fun q => ?_)
  · replace h := h.1 q
    refine r_lvs [] rfl ?_
    exact KJ3 h
  · replace h := h.2 q
    refine r_iload_n hC dX6_wellAt_4 rfl 1 rfl ?_
    refine r_bipush (v := 6) hC dX6_wellAt_5 (by decide) ?_
    refine r_icmp_ge (tgt := 19) hC dX6_wellAt_7 (by decide) (fun q => ?_) (fun q => ?_)
    · replace h := h.1 q
      refine r_lvs [] rfl ?_
      exact KJ3 h
    · replace h := h.2 q
      refine r_aload_n hC dX6_wellAt_10 rfl 0 rfl ?_
      refine r_get (ci := 6) (f := 9) (v := fO α (some 5)) hC kX6_wellAt_0 rfl (by decide) rfl kX6_wellAt_1 fx_0 (ct_6 rfl) rfl dX6_wellAt_11 ?_
      refine r_iload_n hC dX6_wellAt_14 rfl 1 rfl ?_
      obtain ⟨c4, h⟩ := h
      refine r_aald_15 hC fx_5 rfl c4 dX6_wellAt_15 ?_
      refine r_topo (fun o5 qo5 => ?_)
      replace h := h o5 qo5
      refine r_goto (tgt := 20) hC dX6_wellAt_16 (by decide) ?_
      refine r_lvs [] rfl ?_
      exact KJ2 o5 h
theorem kX6_hasTractOfUnit_0 : ∀ w ∈ u_ws RX6 TX6 20, w ∈ wsX6_hasTractOfUnit := by decide +kernel
theorem kX6_hasTractOfUnit_1 : (Cond.fieldLink RX6 15 "Divisionorder" "tracts" "[LDivisionorder$Tract;") ∈ wsX6_hasTractOfUnit := by decide +kernel
theorem kX6_hasTractOfUnit_2 : ∀ w ∈ u_ws RX3 TX3 3, w ∈ wsX6_hasTractOfUnit := by decide +kernel
theorem kX6_hasTractOfUnit_3 : (Cond.fieldLink RX6 179 "Divisionorder$Tract" "unit" "LDivisionorder$Unit;") ∈ wsX6_hasTractOfUnit := by decide +kernel
set_option maxHeartbeats 4000000 in
set_option maxRecDepth 100000 in
theorem cm_X6_hasTractOfUnit (l : Launch) (dC : Nat → ClassId) (dI : Nat → Nat → Nat) (dA : Nat → ClassId) (L : List Nat) (α : Nat → Nat) (σ : Mm) (a1 : Int32) (Qm : Int32 → Mm → Prop) (h : wp_X6_hasTractOfUnit L σ a1 Qm) (sz : Nat) : Met l yX6_hasTractOfUnit wsX6_hasTractOfUnit ({ frames := 1, cells := 0, slots := 0, locals := 21 } : Room) (cP dC dI dA (Fc ++ L) α σ sz [fO α (some 0), .int a1]) (va_Qi Qm (cB dC dI dA (Fc ++ L) α (wl dA (Fc ++ L) α σ) sz) (va_A (wl dA (Fc ++ L) α σ) sz)) 0 0 (va_A (wl dA (Fc ++ L) α σ) sz) := by
  refine m_start (own := RX6) (lv := [(0, fO α (some 0)), (1, .int a1)]) (by decide) rfl rfl (by simp only [lgl_O, lgl_I, lgl_J, lgl_N]; decide) (by simp only [lva_O, lva_I, lva_J, lva_N]) ?_
  intro p e s m below meth c hsz hC hr hlk
  generalize hA : va_A (wl dA (Fc ++ L) α σ) sz = A at hC ⊢
  have hA := hA.symm
  generalize hargs : ([fO α (some 0), .int a1] : List Value).toArray = args at hC ⊢
  generalize hQ : MQ below _ args s 0 0 A = Q
  unfold wp_X6_hasTractOfUnit at h
  refine r_iconst (v := 0) hC dX6_hasTractOfUnit_0 (by decide) ?_
  refine r_istore_n (lv' := [(2, .int 0), (0, fO α (some 0)), (1, .int a1)]) hC dX6_hasTractOfUnit_1 rfl (by decide) rfl ?_
  refine r_lvs [1, 2, 0] rfl ?_
  obtain ⟨n, h⟩ := h
  refine lpw_ind (S := Mm × Int32) (fun s4 => G p l e ({ frames := 1, cells := 0, slots := 0, locals := 21 } : Room) s m args below meth c 0 0 Q dC dI dA (Fc ++ L) α A 4 s4.1 2 [(0, fO α (some 0)), (1, .int a1), (2, .int s4.2)] []) ?_ n (σ, 0) h
  clear h
  intro R3 hR3 s4 h
  obtain ⟨σ1, x2⟩ := s4
  refine r_iload_n hC dX6_hasTractOfUnit_2 rfl 2 rfl ?_
  refine r_bipush (v := 8) hC dX6_hasTractOfUnit_3 (by decide) ?_
  refine r_icmp_ge (tgt := 42) hC dX6_hasTractOfUnit_5 (by decide) (fun q => ?_) (fun q => ?_)
  · replace h := h.1 q
    refine r_iconst (v := 0) hC dX6_hasTractOfUnit_42 (by decide) ?_
    subst hQ
    exact r_zret hC hA hr hlk dX6_hasTractOfUnit_43 (show zb 0 from rfl) h
  · replace h := h.2 q
    refine r_aload_n hC dX6_hasTractOfUnit_8 rfl 0 rfl ?_
    refine r_get (ci := 6) (f := 1) (v := fO α (some 1)) hC kX6_hasTractOfUnit_0 rfl (by decide) rfl kX6_hasTractOfUnit_1 fx_0 (ct_6 rfl) rfl dX6_hasTractOfUnit_9 ?_
    refine r_iload_n hC dX6_hasTractOfUnit_12 rfl 2 rfl ?_
    obtain ⟨c5, h⟩ := h
    refine r_aald_13 hC fx_1 rfl c5 dX6_hasTractOfUnit_13 ?_
    refine r_topo (fun o6 qo6 => ?_)
    replace h := h o6 qo6
    refine r_astore_n (lv' := [(3, fO α o6), (0, fO α (some 0)), (1, .int a1), (2, .int x2)]) hC dX6_hasTractOfUnit_14 rfl (by decide) rfl ?_
    refine r_aload_n hC dX6_hasTractOfUnit_15 rfl 0 rfl ?_
    obtain ⟨J9, hJ9, h⟩ := h
    have KJ9 : ∀ (σ8 : Mm), J9 σ8 → G p l e ({ frames := 1, cells := 0, slots := 0, locals := 21 } : Room) s m args below meth c 0 0 Q dC dI dA (Fc ++ L) α A 4 σ8 36 [(0, fO α (some 0)), (1, .int a1), (2, .int x2)] [] := by
      clear h
      intro σ8 h
      replace h := hJ9 σ8 h
      obtain ⟨x10, qx10⟩ : ∃ z : Int32, z = x2 + 1 := ⟨_, rfl⟩
      replace h := h x10 qx10
      refine r_iinc (v := x10) (lv' := [(2, .int x10), (0, fO α (some 0)), (1, .int a1)]) hC dX6_hasTractOfUnit_36 (k := 2) rfl (by rw [qx10]; rfl) (by decide) rfl ?_
      refine r_goto (tgt := 2) hC dX6_hasTractOfUnit_39 (by decide) ?_
      refine r_lvs [1, 2, 0] rfl ?_
      exact hR3 _ h
    refine r_ifnull (tgt := 36) hC dX6_hasTractOfUnit_16 (by decide) (fun q => ?_) (fun k7 q => ?_)
    · replace h := h.1 q
      subst q
      refine r_lvs [1, 2, 3] rfl ?_
      exact KJ9 σ1 h
    · replace h := h.2 k7 q
      subst q
      refine r_iload_n hC dX6_hasTractOfUnit_19 rfl 2 rfl ?_
      refine r_iload_n hC dX6_hasTractOfUnit_20 rfl 3 rfl ?_
      refine r_calli hC [] (m_runS (n := 2) hC [.int a1, .int x2] [] (fun sz => cm_X6_hasBit l dC dI dA L α σ1 a1 x2 _ h sz) gX6_hasTractOfUnit_X6_hasBit rfl ⟨rfl, rfl⟩ (by decide +kernel) ⟨Nat.le_of_ble_eq_true rfl, Nat.le_of_ble_eq_true rfl⟩ rfl (Nat.le_of_ble_eq_true rfl) (by decide) dX6_hasTractOfUnit_21) (fun x12 σ11 hn => ?_)
      clear h
      revert hn
      intro h
      refine r_if_eq (tgt := 36) hC dX6_hasTractOfUnit_24 (by decide) (fun q => ?_) (fun q => ?_)
      · replace h := h.1 q
        refine r_lvs [1, 2, 3] rfl ?_
        exact KJ9 σ11 h
      · replace h := h.2 q
        refine r_aload_n hC dX6_hasTractOfUnit_27 rfl 0 rfl ?_
        obtain ⟨v13, h⟩ := h
        refine r_get (ci := 3) (f := 2) (v := fO α (gR σ11 k7 2)) hC kX6_hasTractOfUnit_2 rfl (by decide) rfl kX6_hasTractOfUnit_3 v13.1 (ct_3 v13.2) rfl dX6_hasTractOfUnit_28 ?_
        refine r_topo (fun o14 qo14 => ?_)
        replace h := h o14 qo14
        refine r_ifnull (tgt := 36) hC dX6_hasTractOfUnit_31 (by decide) (fun q => ?_) (fun k15 q => ?_)
        · replace h := h.1 q
          subst q
          refine r_lvs [1, 2, 3] rfl ?_
          exact KJ9 σ11 h
        · replace h := h.2 k15 q
          subst q
          refine r_iconst (v := 1) hC dX6_hasTractOfUnit_34 (by decide) ?_
          subst hQ
          exact r_zret hC hA hr hlk dX6_hasTractOfUnit_35 (show zb 1 from rfl) h
theorem kX6_titleOf_0 : ∀ w ∈ u_ws RX3 TX3 3, w ∈ wsX6_titleOf := by decide +kernel
theorem kX6_titleOf_1 : (Cond.fieldLink RX6 279 "Divisionorder$Tract" "firstOwner" "I") ∈ wsX6_titleOf := by decide +kernel
theorem kX6_titleOf_2 : ∀ w ∈ u_ws RX6 TX6 20, w ∈ wsX6_titleOf := by decide +kernel
theorem kX6_titleOf_3 : (Cond.fieldLink RX6 24 "Divisionorder" "deeds" "[LDivisionorder$Deed;") ∈ wsX6_titleOf := by decide +kernel
theorem kX6_titleOf_4 : ∀ w ∈ u_ws RX0 TX0 5, w ∈ wsX6_titleOf := by decide +kernel
theorem kX6_titleOf_5 : (Cond.fieldLink RX6 282 "Divisionorder$Deed" "tract" "LDivisionorder$Tract;") ∈ wsX6_titleOf := by decide +kernel
theorem kX6_titleOf_6 : (Cond.fieldLink RX6 286 "Divisionorder$Deed" "month" "I") ∈ wsX6_titleOf := by decide +kernel
theorem kX6_titleOf_7 : (Cond.fieldLink RX6 289 "Divisionorder$Deed" "to" "I") ∈ wsX6_titleOf := by decide +kernel
theorem kX6_titleOf_8 : (Cond.fieldLink RX6 294 "Divisionorder$Deed" "from" "I") ∈ wsX6_titleOf := by decide +kernel
theorem kX6_titleOf_9 : (Cond.fieldLink RX6 292 "Divisionorder$Deed" "parts" "I") ∈ wsX6_titleOf := by decide +kernel
set_option maxHeartbeats 4000000 in
set_option maxRecDepth 100000 in
theorem cm_X6_titleOf (l : Launch) (dC : Nat → ClassId) (dI : Nat → Nat → Nat) (dA : Nat → ClassId) (L : List Nat) (α : Nat → Nat) (σ : Mm) (a1 : Option Nat) (a2 : Int32) (a3 : Int32) (Qm : Int32 → Mm → Prop) (h : wp_X6_titleOf L σ a1 a2 a3 Qm) (sz : Nat) : Met l yX6_titleOf wsX6_titleOf ({ frames := 0, cells := 0, slots := 0, locals := 0 } : Room) (cP dC dI dA (Fc ++ L) α σ sz [fO α (some 0), fO α a1, .int a2, .int a3]) (va_Qi Qm (cB dC dI dA (Fc ++ L) α (wl dA (Fc ++ L) α σ) sz) (va_A (wl dA (Fc ++ L) α σ) sz)) 0 0 (va_A (wl dA (Fc ++ L) α σ) sz) := by
  refine m_start (own := RX6) (lv := [(0, fO α (some 0)), (1, fO α a1), (2, .int a2), (3, .int a3)]) (by decide) rfl rfl (by simp only [lgl_O, lgl_I, lgl_J, lgl_N]; decide) (by simp only [lva_O, lva_I, lva_J, lva_N]) ?_
  intro p e s m below meth c hsz hC hr hlk
  generalize hA : va_A (wl dA (Fc ++ L) α σ) sz = A at hC ⊢
  have hA := hA.symm
  generalize hargs : ([fO α (some 0), fO α a1, .int a2, .int a3] : List Value).toArray = args at hC ⊢
  generalize hQ : MQ below _ args s 0 0 A = Q
  unfold wp_X6_titleOf at h
  refine r_aload_n hC dX6_titleOf_0 rfl 1 rfl ?_
  obtain ⟨k1, e2, h⟩ := h
  subst e2
  obtain ⟨v3, h⟩ := h
  refine r_get (ci := 3) (f := 1) (v := .int (gI σ k1 1)) hC kX6_titleOf_0 rfl (by decide) rfl kX6_titleOf_1 v3.1 (ct_3 v3.2) rfl dX6_titleOf_1 ?_
  refine r_iload_n hC dX6_titleOf_4 rfl 2 rfl ?_
  obtain ⟨J5, hJ5, h⟩ := h
  have KJ5 : ∀ (x4 : Int32), J5 x4 → G p l e ({ frames := 0, cells := 0, slots := 0, locals := 0 } : Room) s m args below meth c 0 0 Q dC dI dA (Fc ++ L) α A 9 σ 15 [(0, fO α (some 0)), (1, fO α (some k1)), (2, .int a2), (3, .int a3)] [.int x4] := by
    clear h
    intro x4 h
    replace h := hJ5 x4 h
    refine r_istore (lv' := [(4, .int x4), (0, fO α (some 0)), (1, fO α (some k1)), (2, .int a2), (3, .int a3)]) hC dX6_titleOf_15 (by decide) rfl ?_
    refine r_aload_n hC dX6_titleOf_17 rfl 1 rfl ?_
    refine r_get (ci := 6) (f := 3) (v := fO α (some 2)) hC kX6_titleOf_2 rfl (by decide) rfl kX6_titleOf_3 fx_0 (ct_6 rfl) rfl dX6_titleOf_18 ?_
    refine r_astore (lv' := [(5, fO α (some 2)), (4, .int x4), (0, fO α (some 0)), (1, fO α (some k1)), (2, .int a2), (3, .int a3)]) hC dX6_titleOf_21 (by decide) rfl ?_
    refine r_aload hC dX6_titleOf_23 0 rfl ?_
    refine r_alen_11 (v := 40) hC fx_2 rfl (by decide) dX6_titleOf_25 ?_
    refine r_istore (lv' := [(6, .int 40), (5, fO α (some 2)), (4, .int x4), (0, fO α (some 0)), (1, fO α (some k1)), (2, .int a2), (3, .int a3)]) hC dX6_titleOf_26 (by decide) rfl ?_
    refine r_iconst (v := 0) hC dX6_titleOf_28 (by decide) ?_
    refine r_istore (lv' := [(7, .int 0), (6, .int 40), (5, fO α (some 2)), (4, .int x4), (0, fO α (some 0)), (1, fO α (some k1)), (2, .int a2), (3, .int a3)]) hC dX6_titleOf_29 (by decide) rfl ?_
    refine r_lvs [5, 6, 7, 3, 2, 1, 0] rfl ?_
    obtain ⟨n, h⟩ := h
    refine lpw_ind (S := Int32 × Int32) (fun s9 => G p l e ({ frames := 0, cells := 0, slots := 0, locals := 0 } : Room) s m args below meth c 0 0 Q dC dI dA (Fc ++ L) α A 9 σ 31 [(1, fO α (some k1)), (2, .int a2), (3, .int a3), (4, .int s9.1), (5, fO α (some 2)), (6, .int 40), (7, .int s9.2)] []) ?_ n (x4, 0) h
    clear h
    intro R8 hR8 s9 h
    obtain ⟨x6, x7⟩ := s9
    refine r_iload hC dX6_titleOf_31 6 rfl ?_
    refine r_iload hC dX6_titleOf_33 5 rfl ?_
    obtain ⟨J10, hJ10, h⟩ := h
    have KJ10 : J10 → G p l e ({ frames := 0, cells := 0, slots := 0, locals := 0 } : Room) s m args below meth c 0 0 Q dC dI dA (Fc ++ L) α A 9 σ 123 [(4, .int x6)] [] := by
      clear h
      intro h
      replace h := hJ10 h
      refine r_iload hC dX6_titleOf_123 0 rfl ?_
      subst hQ
      exact r_iret hC hA hr hlk dX6_titleOf_125 h
    refine r_icmp_ge (tgt := 123) hC dX6_titleOf_35 (by decide) (fun q => ?_) (fun q => ?_)
    · replace h := h.1 q
      refine r_lvs [3] rfl ?_
      exact KJ10 h
    · replace h := h.2 q
      refine r_aload hC dX6_titleOf_38 4 rfl ?_
      refine r_iload hC dX6_titleOf_40 6 rfl ?_
      obtain ⟨c11, h⟩ := h
      refine r_aald_11 hC fx_2 rfl c11 dX6_titleOf_42 ?_
      refine r_topo (fun o12 qo12 => ?_)
      replace h := h o12 qo12
      refine r_astore (lv' := [(8, fO α o12), (1, fO α (some k1)), (2, .int a2), (3, .int a3), (4, .int x6), (5, fO α (some 2)), (6, .int 40), (7, .int x7)]) hC dX6_titleOf_43 (by decide) rfl ?_
      refine r_aload hC dX6_titleOf_45 0 rfl ?_
      refine r_ifnonnull (tgt := 53) hC dX6_titleOf_47 (by decide) (fun k13 q => ?_) (fun q => ?_)
      · replace h := h.2 k13 q
        subst q
        refine r_aload hC dX6_titleOf_53 0 rfl ?_
        obtain ⟨v14, h⟩ := h
        refine r_get (ci := 0) (f := 0) (v := fO α (gR σ k13 0)) hC kX6_titleOf_4 rfl (by decide) rfl kX6_titleOf_5 v14.1 (ct_0 v14.2) rfl dX6_titleOf_55 ?_
        refine r_topo (fun o15 qo15 => ?_)
        replace h := h o15 qo15
        refine r_aload_n hC dX6_titleOf_58 rfl 1 rfl ?_
        obtain ⟨v16, h⟩ := h
        obtain ⟨J18, hJ18, h⟩ := h
        have KJ18 : ∀ (x17 : Int32), J18 x17 → G p l e ({ frames := 0, cells := 0, slots := 0, locals := 0 } : Room) s m args below meth c 0 0 Q dC dI dA (Fc ++ L) α A 9 σ 117 [(1, fO α (some k1)), (2, .int a2), (3, .int a3), (4, .int x17), (5, fO α (some 2)), (6, .int 40), (7, .int x7)] [] := by
          clear h
          intro x17 h
          replace h := hJ18 x17 h
          obtain ⟨x19, qx19⟩ : ∃ z : Int32, z = x7 + 1 := ⟨_, rfl⟩
          replace h := h x19 qx19
          refine r_iinc (v := x19) (lv' := [(7, .int x19), (1, fO α (some k1)), (2, .int a2), (3, .int a3), (4, .int x17), (5, fO α (some 2)), (6, .int 40)]) hC dX6_titleOf_117 (k := 6) rfl (by rw [qx19]; rfl) (by decide) rfl ?_
          refine r_goto (tgt := 31) hC dX6_titleOf_120 (by decide) ?_
          refine r_lvs [1, 2, 3, 4, 5, 6, 0] rfl ?_
          exact hR8 _ h
        refine r_acmp_ne (tgt := 117) hC v16 (fun j q => by cases q; exact v3.1) dX6_titleOf_59 (by decide) (fun q => ?_) (fun q => ?_)
        · replace h := h.1 q
          refine r_lvs [1, 2, 3, 4, 5, 6, 7] rfl ?_
          exact KJ18 x6 h
        · replace h := h.2 q
          refine r_aload hC dX6_titleOf_62 0 rfl ?_
          refine r_get (ci := 0) (f := 4) (v := .int (gI σ k13 4)) hC kX6_titleOf_4 rfl (by decide) rfl kX6_titleOf_6 v14.1 (ct_0 v14.2) rfl dX6_titleOf_64 ?_
          refine r_iload_n hC dX6_titleOf_67 rfl 3 rfl ?_
          refine r_icmp_gt (tgt := 117) hC dX6_titleOf_68 (by decide) (fun q => ?_) (fun q => ?_)
          · replace h := h.1 q
            refine r_lvs [1, 2, 3, 4, 5, 6, 7] rfl ?_
            exact KJ18 x6 h
          · replace h := h.2 q
            refine r_iload hC dX6_titleOf_71 4 rfl ?_
            refine r_aload hC dX6_titleOf_73 0 rfl ?_
            refine r_get (ci := 0) (f := 2) (v := .int (gI σ k13 2)) hC kX6_titleOf_4 rfl (by decide) rfl kX6_titleOf_7 v14.1 (ct_0 v14.2) rfl dX6_titleOf_75 ?_
            refine r_iload_n hC dX6_titleOf_78 rfl 2 rfl ?_
            obtain ⟨J21, hJ21, h⟩ := h
            have KJ21 : ∀ (x20 : Int32), J21 x20 → G p l e ({ frames := 0, cells := 0, slots := 0, locals := 0 } : Room) s m args below meth c 0 0 Q dC dI dA (Fc ++ L) α A 9 σ 91 [(1, fO α (some k1)), (2, .int a2), (3, .int a3), (5, fO α (some 2)), (6, .int 40), (7, .int x7), (8, fO α (some k13))] [.int x20, .int x6] := by
              clear h
              intro x20 h
              replace h := hJ21 x20 h
              refine r_iadd hC dX6_titleOf_91 ?_
              refine r_topi (fun x22 qx22 => ?_)
              replace h := h x22 qx22
              refine r_istore (lv' := [(4, .int x22), (1, fO α (some k1)), (2, .int a2), (3, .int a3), (5, fO α (some 2)), (6, .int 40), (7, .int x7), (8, fO α (some k13))]) hC dX6_titleOf_92 (by decide) rfl ?_
              refine r_iload hC dX6_titleOf_94 0 rfl ?_
              refine r_aload hC dX6_titleOf_96 7 rfl ?_
              refine r_get (ci := 0) (f := 1) (v := .int (gI σ k13 1)) hC kX6_titleOf_4 rfl (by decide) rfl kX6_titleOf_8 v14.1 (ct_0 v14.2) rfl dX6_titleOf_98 ?_
              refine r_iload_n hC dX6_titleOf_101 rfl 2 rfl ?_
              obtain ⟨J24, hJ24, h⟩ := h
              have KJ24 : ∀ (x23 : Int32), J24 x23 → G p l e ({ frames := 0, cells := 0, slots := 0, locals := 0 } : Room) s m args below meth c 0 0 Q dC dI dA (Fc ++ L) α A 9 σ 114 [(1, fO α (some k1)), (2, .int a2), (3, .int a3), (5, fO α (some 2)), (6, .int 40), (7, .int x7)] [.int x23, .int x22] := by
                clear h
                intro x23 h
                replace h := hJ24 x23 h
                refine r_isub hC dX6_titleOf_114 ?_
                refine r_topi (fun x25 qx25 => ?_)
                replace h := h x25 qx25
                refine r_istore (lv' := [(4, .int x25), (1, fO α (some k1)), (2, .int a2), (3, .int a3), (5, fO α (some 2)), (6, .int 40), (7, .int x7)]) hC dX6_titleOf_115 (by decide) rfl ?_
                refine r_lvs [1, 2, 3, 0, 4, 5, 6] rfl ?_
                exact KJ18 x25 h
              refine r_icmp_ne (tgt := 113) hC dX6_titleOf_102 (by decide) (fun q => ?_) (fun q => ?_)
              · replace h := h.1 q
                refine r_iconst (v := 0) hC dX6_titleOf_113 (by decide) ?_
                refine r_lvs [1, 2, 3, 4, 5, 6] rfl ?_
                exact KJ24 0 h
              · replace h := h.2 q
                refine r_aload hC dX6_titleOf_105 7 rfl ?_
                refine r_get (ci := 0) (f := 3) (v := .int (gI σ k13 3)) hC kX6_titleOf_4 rfl (by decide) rfl kX6_titleOf_9 v14.1 (ct_0 v14.2) rfl dX6_titleOf_107 ?_
                refine r_goto (tgt := 114) hC dX6_titleOf_110 (by decide) ?_
                refine r_lvs [1, 2, 3, 4, 5, 6] rfl ?_
                exact KJ24 (gI σ k13 3) h
            refine r_icmp_ne (tgt := 90) hC dX6_titleOf_79 (by decide) (fun q => ?_) (fun q => ?_)
            · replace h := h.1 q
              refine r_iconst (v := 0) hC dX6_titleOf_90 (by decide) ?_
              refine r_lvs [1, 2, 3, 5, 6, 7, 0] rfl ?_
              exact KJ21 0 h
            · replace h := h.2 q
              refine r_aload hC dX6_titleOf_82 0 rfl ?_
              refine r_get (ci := 0) (f := 3) (v := .int (gI σ k13 3)) hC kX6_titleOf_4 rfl (by decide) rfl kX6_titleOf_9 v14.1 (ct_0 v14.2) rfl dX6_titleOf_84 ?_
              refine r_goto (tgt := 91) hC dX6_titleOf_87 (by decide) ?_
              refine r_lvs [1, 2, 3, 5, 6, 7, 0] rfl ?_
              exact KJ21 (gI σ k13 3) h
      · replace h := h.1 q
        subst q
        refine r_goto (tgt := 123) hC dX6_titleOf_50 (by decide) ?_
        refine r_lvs [4] rfl ?_
        exact KJ10 h
  refine r_icmp_ne (tgt := 14) hC dX6_titleOf_5 (by decide) (fun q => ?_) (fun q => ?_)
  · replace h := h.1 q
    refine r_iconst (v := 0) hC dX6_titleOf_14 (by decide) ?_
    exact KJ5 0 h
  · replace h := h.2 q
    refine r_sipush (v := 10000) hC dX6_titleOf_8 (by decide) ?_
    refine r_goto (tgt := 15) hC dX6_titleOf_11 (by decide) ?_
    exact KJ5 10000 h
theorem kX6_leastTitle_0 : ∀ w ∈ u_ws RX6 TX6 20, w ∈ wsX6_leastTitle := by decide +kernel
theorem kX6_leastTitle_1 : (Cond.fieldLink RX6 9 "Divisionorder" "now" "I") ∈ wsX6_leastTitle := by decide +kernel
theorem kX6_leastTitle_2 : (Cond.methodLink RX6 297 Lib.Math.min.name) ∈ wsX6_leastTitle := by decide +kernel
theorem kX6_leastTitle_3 : (Cond.static Lib.Math.min.name) ∈ wsX6_leastTitle := by decide +kernel
theorem kX6_leastTitle_4 : (Cond.initialized "java/lang/Math") ∈ wsX6_leastTitle := by decide +kernel
theorem kX6_leastTitle_5 : (Cond.code Lib.Math.min.name Lib.Math.min.code 2 (some .int)) ∈ wsX6_leastTitle := by decide +kernel
set_option maxHeartbeats 4000000 in
set_option maxRecDepth 100000 in
theorem cm_X6_leastTitle (l : Launch) (dC : Nat → ClassId) (dI : Nat → Nat → Nat) (dA : Nat → ClassId) (L : List Nat) (α : Nat → Nat) (σ : Mm) (a1 : Option Nat) (a2 : Int32) (a3 : Int32) (Qm : Int32 → Mm → Prop) (h : wp_X6_leastTitle L σ a1 a2 a3 Qm) (sz : Nat) : Met l yX6_leastTitle wsX6_leastTitle ({ frames := 1, cells := 0, slots := 0, locals := 31 } : Room) (cP dC dI dA (Fc ++ L) α σ sz [fO α (some 0), fO α a1, .int a2, .int a3]) (va_Qi Qm (cB dC dI dA (Fc ++ L) α (wl dA (Fc ++ L) α σ) sz) (va_A (wl dA (Fc ++ L) α σ) sz)) 0 0 (va_A (wl dA (Fc ++ L) α σ) sz) := by
  refine m_start (own := RX6) (lv := [(0, fO α (some 0)), (1, fO α a1), (2, .int a2), (3, .int a3)]) (by decide) rfl rfl (by simp only [lgl_O, lgl_I, lgl_J, lgl_N]; decide) (by simp only [lva_O, lva_I, lva_J, lva_N]) ?_
  intro p e s m below meth c hsz hC hr hlk
  generalize hA : va_A (wl dA (Fc ++ L) α σ) sz = A at hC ⊢
  have hA := hA.symm
  generalize hargs : ([fO α (some 0), fO α a1, .int a2, .int a3] : List Value).toArray = args at hC ⊢
  generalize hQ : MQ below _ args s 0 0 A = Q
  unfold wp_X6_leastTitle at h
  refine r_sipush (v := 10000) hC dX6_leastTitle_0 (by decide) ?_
  refine r_istore (lv' := [(4, .int 10000), (0, fO α (some 0)), (1, fO α a1), (2, .int a2), (3, .int a3)]) hC dX6_leastTitle_3 (by decide) rfl ?_
  refine r_iload_n hC dX6_leastTitle_5 rfl 4 rfl ?_
  refine r_istore (lv' := [(5, .int a3), (4, .int 10000), (0, fO α (some 0)), (1, fO α a1), (2, .int a2), (3, .int a3)]) hC dX6_leastTitle_6 (by decide) rfl ?_
  refine r_lvs [2, 3, 4, 1, 0] rfl ?_
  obtain ⟨n, h⟩ := h
  refine lpw_ind (S := Mm × Int32 × Int32) (fun s5 => G p l e ({ frames := 1, cells := 0, slots := 0, locals := 31 } : Room) s m args below meth c 0 0 Q dC dI dA (Fc ++ L) α A 6 s5.1 8 [(0, fO α (some 0)), (1, fO α a1), (2, .int a2), (4, .int s5.2.1), (5, .int s5.2.2)] []) ?_ n (σ, 10000, a3) h
  clear h
  intro R4 hR4 s5 h
  obtain ⟨σ1, x2, x3⟩ := s5
  refine r_iload hC dX6_leastTitle_8 4 rfl ?_
  refine r_aload_n hC dX6_leastTitle_10 rfl 0 rfl ?_
  refine r_get (ci := 6) (f := 0) (v := .int (gI σ1 0 0)) hC kX6_leastTitle_0 rfl (by decide) rfl kX6_leastTitle_1 fx_0 (ct_6 rfl) rfl dX6_leastTitle_11 ?_
  refine r_icmp_gt (tgt := 38) hC dX6_leastTitle_14 (by decide) (fun q => ?_) (fun q => ?_)
  · replace h := h.1 q
    refine r_iload hC dX6_leastTitle_38 3 rfl ?_
    subst hQ
    exact r_iret hC hA hr hlk dX6_leastTitle_40 h
  · replace h := h.2 q
    refine r_iload hC dX6_leastTitle_17 3 rfl ?_
    refine r_aload_n hC dX6_leastTitle_19 rfl 0 rfl ?_
    refine r_aload_n hC dX6_leastTitle_20 rfl 1 rfl ?_
    refine r_iload_n hC dX6_leastTitle_21 rfl 2 rfl ?_
    refine r_iload hC dX6_leastTitle_22 4 rfl ?_
    refine r_calli hC [.int x2] (m_runV (n := 3) (ci := 6) hC [fO α a1, .int a2, .int x3] [.int x2] (fun sz => cm_X6_titleOf l dC dI dA L α σ1 a1 a2 x3 _ h sz) gX6_leastTitle_X6_titleOf rfl ⟨rfl, rfl⟩ (by decide +kernel) ⟨Nat.le_of_ble_eq_true rfl, Nat.le_of_ble_eq_true rfl⟩ fx_0 (ct_6 rfl) rfl rfl (Nat.le_of_ble_eq_true rfl) (by decide) dX6_leastTitle_24) (fun x7 σ6 hn => ?_)
    clear h
    revert hn
    intro h
    refine r_min hC kX6_leastTitle_2 kX6_leastTitle_3 kX6_leastTitle_4 kX6_leastTitle_5 ⟨Nat.le_of_ble_eq_true rfl, Nat.le_of_ble_eq_true rfl⟩ (by decide) dX6_leastTitle_27 ?_
    refine r_topi (fun x8 qx8 => ?_)
    replace h := h x8 qx8
    refine r_istore (lv' := [(4, .int x8), (0, fO α (some 0)), (1, fO α a1), (2, .int a2), (5, .int x3)]) hC dX6_leastTitle_30 (by decide) rfl ?_
    obtain ⟨x9, qx9⟩ : ∃ z : Int32, z = x3 + 1 := ⟨_, rfl⟩
    replace h := h x9 qx9
    refine r_iinc (v := x9) (lv' := [(5, .int x9), (4, .int x8), (0, fO α (some 0)), (1, fO α a1), (2, .int a2)]) hC dX6_leastTitle_32 (k := 4) rfl (by rw [qx9]; rfl) (by decide) rfl ?_
    refine r_goto (tgt := 8) hC dX6_leastTitle_35 (by decide) ?_
    refine r_lvs [2, 3, 4, 1, 0] rfl ?_
    exact hR4 _ h
theorem kX6_unsettle_0 : ∀ w ∈ u_ws RX6 TX6 20, w ∈ wsX6_unsettle := by decide +kernel
theorem kX6_unsettle_1 : (Cond.fieldLink RX6 75 "Divisionorder" "settledMonths" "I") ∈ wsX6_unsettle := by decide +kernel
theorem kX6_unsettle_2 : (Cond.methodLink RX6 297 Lib.Math.min.name) ∈ wsX6_unsettle := by decide +kernel
theorem kX6_unsettle_3 : (Cond.static Lib.Math.min.name) ∈ wsX6_unsettle := by decide +kernel
theorem kX6_unsettle_4 : (Cond.initialized "java/lang/Math") ∈ wsX6_unsettle := by decide +kernel
theorem kX6_unsettle_5 : (Cond.code Lib.Math.min.name Lib.Math.min.code 2 (some .int)) ∈ wsX6_unsettle := by decide +kernel
set_option maxHeartbeats 4000000 in
set_option maxRecDepth 100000 in
theorem cm_X6_unsettle (l : Launch) (dC : Nat → ClassId) (dI : Nat → Nat → Nat) (dA : Nat → ClassId) (L : List Nat) (α : Nat → Nat) (σ : Mm) (a1 : Int32) (Qm : Mm → Prop) (h : wp_X6_unsettle L σ a1 Qm) (sz : Nat) : Met l yX6_unsettle wsX6_unsettle ({ frames := 1, cells := 0, slots := 0, locals := 31 } : Room) (cP dC dI dA (Fc ++ L) α σ sz [fO α (some 0), .int a1]) (va_Qv Qm (cB dC dI dA (Fc ++ L) α (wl dA (Fc ++ L) α σ) sz) (va_A (wl dA (Fc ++ L) α σ) sz)) 0 0 (va_A (wl dA (Fc ++ L) α σ) sz) := by
  refine m_start (own := RX6) (lv := [(0, fO α (some 0)), (1, .int a1)]) (by decide) rfl rfl (by simp only [lgl_O, lgl_I, lgl_J, lgl_N]; decide) (by simp only [lva_O, lva_I, lva_J, lva_N]) ?_
  intro p e s m below meth c hsz hC hr hlk
  generalize hA : va_A (wl dA (Fc ++ L) α σ) sz = A at hC ⊢
  have hA := hA.symm
  generalize hargs : ([fO α (some 0), .int a1] : List Value).toArray = args at hC ⊢
  generalize hQ : MQ below _ args s 0 0 A = Q
  unfold wp_X6_unsettle at h
  refine r_aload_n hC dX6_unsettle_0 rfl 0 rfl ?_
  refine r_aload_n hC dX6_unsettle_1 rfl 0 rfl ?_
  refine r_get (ci := 6) (f := 16) (v := .int (gI σ 0 16)) hC kX6_unsettle_0 rfl (by decide) rfl kX6_unsettle_1 fx_0 (ct_6 rfl) rfl dX6_unsettle_2 ?_
  refine r_iload_n hC dX6_unsettle_5 rfl 1 rfl ?_
  refine r_min hC kX6_unsettle_2 kX6_unsettle_3 kX6_unsettle_4 kX6_unsettle_5 ⟨Nat.le_of_ble_eq_true rfl, Nat.le_of_ble_eq_true rfl⟩ (by decide) dX6_unsettle_6 ?_
  refine r_put (ci := 6) (f := 16) (v := .int (if a1 < (gI σ 0 16) then a1 else (gI σ 0 16))) (σ' := sI σ 0 16 (if a1 < (gI σ 0 16) then a1 else (gI σ 0 16))) hC kX6_unsettle_0 tyX6 tyX6_ok nmX6 rfl (by decide) rfl kX6_unsettle_1 fx_0 (ct_6 rfl) rfl rfl (Nat.le_of_ble_eq_true rfl) (pt_6_16 rfl) ct_sI dX6_unsettle_9 ?_
  refine r_topm (fun σ1 qσ1 => ?_)
  replace h := h σ1 qσ1
  subst hQ
  exact r_vret hC hA hr hlk dX6_unsettle_12 h
