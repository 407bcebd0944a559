theorem kX7_thrown_0 : ∀ w ∈ u_ws RX7 TX7 40, w ∈ wsX7_thrown := by decide +kernel
theorem kX7_thrown_1 : (Cond.fieldLink RX7 112 "DivisionorderModel" "thrown" "I") ∈ wsX7_thrown := by decide +kernel
set_option maxHeartbeats 4000000 in
set_option maxRecDepth 100000 in
theorem cm_X7_thrown (l : Launch) (dC : Nat → ClassId) (dI : Nat → Nat → Nat) (dA : Nat → ClassId) (α : Nat → Nat) (σ : Mm)  (Qm : Int32 → Mm → Prop) (h : wp_X7_thrown σ  Qm) (sz : Nat) : Met l yX7_thrown wsX7_thrown ({ frames := 0, cells := 0, slots := 0, locals := 0 } : Room) (cP dC dI dA Fm α σ sz [fO α (some 200)]) (va_Qi Qm (cB dC dI dA Fm α (wl dA Fm α σ) sz) (va_A (wl dA Fm α σ) sz)) 0 0 (va_A (wl dA Fm α σ) sz) := by
  refine m_start (own := RX7) (lv := [(0, fO α (some 200))]) (by decide) rfl rfl (by simp only [lgl_O, lgl_I, lgl_J, lgl_N]; decide) (by simp only [lva_O, lva_I, lva_J, lva_N]) ?_
  intro p e s m below meth c hsz hC hr hlk
  generalize hA : va_A (wl dA Fm α σ) sz = A at hC ⊢
  have hA := hA.symm
  generalize hargs : ([fO α (some 200)] : List Value).toArray = args at hC ⊢
  generalize hQ : MQ below _ args s 0 0 A = Q
  unfold wp_X7_thrown at h
  refine r_aload_n hC dX7_thrown_0 rfl 0 rfl ?_
  refine r_get (ci := 7) (f := 39) (v := .int (gI σ 200 39)) hC kX7_thrown_0 rfl (by decide) rfl kX7_thrown_1 fx_200 (ct_7 rfl) rfl dX7_thrown_1 ?_
  subst hQ
  exact r_iret hC hA hr hlk dX7_thrown_4 h
theorem kX7_goes_0 : ∀ w ∈ u_ws RX7 TX7 40, w ∈ wsX7_goes := by decide +kernel
theorem kX7_goes_1 : (Cond.fieldLink RX7 112 "DivisionorderModel" "thrown" "I") ∈ wsX7_goes := by decide +kernel
set_option maxHeartbeats 4000000 in
set_option maxRecDepth 100000 in
theorem cm_X7_goes (l : Launch) (dC : Nat → ClassId) (dI : Nat → Nat → Nat) (dA : Nat → ClassId) (α : Nat → Nat) (σ : Mm) (a1 : Int32) (a2 : Int32) (a3 : Int32) (Qm : Int32 → Mm → Prop) (h : wp_X7_goes σ a1 a2 a3 Qm) (sz : Nat) : Met l yX7_goes wsX7_goes ({ frames := 0, cells := 0, slots := 0, locals := 0 } : Room) (cP dC dI dA Fm α σ sz [fO α (some 200), .int a1, .int a2, .int a3]) (va_Qi Qm (cB dC dI dA Fm α (wl dA Fm α σ) sz) (va_A (wl dA Fm α σ) sz)) 0 0 (va_A (wl dA Fm α σ) sz) := by
  refine m_start (own := RX7) (lv := [(0, fO α (some 200)), (1, .int a1), (2, .int a2), (3, .int a3)]) (by decide) rfl rfl (by simp only [lgl_O, lgl_I, lgl_J, lgl_N]; decide) (by simp only [lva_O, lva_I, lva_J, lva_N]) ?_
  intro p e s m below meth c hsz hC hr hlk
  generalize hA : va_A (wl dA Fm α σ) sz = A at hC ⊢
  have hA := hA.symm
  generalize hargs : ([fO α (some 200), .int a1, .int a2, .int a3] : List Value).toArray = args at hC ⊢
  generalize hQ : MQ below _ args s 0 0 A = Q
  unfold wp_X7_goes at h
  refine r_aload_n hC dX7_goes_0 rfl 0 rfl ?_
  refine r_iload_n hC dX7_goes_1 rfl 1 rfl ?_
  obtain ⟨J2, hJ2, h⟩ := h
  have KJ2 : ∀ (x1 : Int32), J2 x1 → G p l e ({ frames := 0, cells := 0, slots := 0, locals := 0 } : Room) s m args below meth c 0 0 Q dC dI dA Fm α A 4 σ 26 [(0, fO α (some 200))] [.int x1, fO α (some 200)] := by
    clear h
    intro x1 h
    replace h := hJ2 x1 h
    refine r_put (ci := 7) (f := 39) (v := .int x1) (σ' := sI σ 200 39 x1) hC kX7_goes_0 tyX7 tyX7_ok nmX7 rfl (by decide) rfl kX7_goes_1 fx_200 (ct_7 rfl) rfl rfl (Nat.le_of_ble_eq_true rfl) (pt_7_39 rfl) ct_sI dX7_goes_26 ?_
    refine r_topm (fun σ3 qσ3 => ?_)
    replace h := h σ3 qσ3
    refine r_aload_n hC dX7_goes_29 rfl 0 rfl ?_
    refine r_get (ci := 7) (f := 39) (v := .int (gI σ3 200 39)) hC kX7_goes_0 rfl (by decide) rfl kX7_goes_1 fx_200 (ct_7 rfl) rfl dX7_goes_30 ?_
    obtain ⟨J5, hJ5, h⟩ := h
    have KJ5 : ∀ (x4 : Int32), J5 x4 → G p l e ({ frames := 0, cells := 0, slots := 0, locals := 0 } : Room) s m args below meth c 0 0 Q dC dI dA Fm α A 4 σ3 41 [] [.int x4] := by
      clear h
      intro x4 h
      replace h := hJ5 x4 h
      subst hQ
      exact r_zret hC hA hr hlk dX7_goes_41 h.1 h.2
    refine r_if_ne (tgt := 40) hC dX7_goes_33 (by decide) (fun q => ?_) (fun q => ?_)
    · replace h := h.1 q
      refine r_iconst (v := 0) hC dX7_goes_40 (by decide) ?_
      refine r_lvs [] rfl ?_
      exact KJ5 0 h
    · replace h := h.2 q
      refine r_iconst (v := 1) hC dX7_goes_36 (by decide) ?_
      refine r_goto (tgt := 41) hC dX7_goes_37 (by decide) ?_
      refine r_lvs [] rfl ?_
      exact KJ5 1 h
  refine r_if_ne (tgt := 9) hC dX7_goes_2 (by decide) (fun q => ?_) (fun q => ?_)
  · replace h := h.1 q
    refine r_iload_n hC dX7_goes_9 rfl 2 rfl ?_
    refine r_if_ne (tgt := 17) hC dX7_goes_10 (by decide) (fun q => ?_) (fun q => ?_)
    · replace h := h.1 q
      refine r_iload_n hC dX7_goes_17 rfl 3 rfl ?_
      refine r_if_ne (tgt := 25) hC dX7_goes_18 (by decide) (fun q => ?_) (fun q => ?_)
      · replace h := h.1 q
        refine r_iconst (v := 0) hC dX7_goes_25 (by decide) ?_
        refine r_lvs [0] rfl ?_
        exact KJ2 0 h
      · replace h := h.2 q
        refine r_iconst (v := 3) hC dX7_goes_21 (by decide) ?_
        refine r_goto (tgt := 26) hC dX7_goes_22 (by decide) ?_
        refine r_lvs [0] rfl ?_
        exact KJ2 3 h
    · replace h := h.2 q
      refine r_iconst (v := 2) hC dX7_goes_13 (by decide) ?_
      refine r_goto (tgt := 26) hC dX7_goes_14 (by decide) ?_
      refine r_lvs [0] rfl ?_
      exact KJ2 2 h
  · replace h := h.2 q
    refine r_iconst (v := 1) hC dX7_goes_5 (by decide) ?_
    refine r_goto (tgt := 26) hC dX7_goes_6 (by decide) ?_
    refine r_lvs [0] rfl ?_
    exact KJ2 1 h
set_option maxHeartbeats 4000000 in
set_option maxRecDepth 100000 in
theorem cm_X7_isBetween (l : Launch) (dC : Nat → ClassId) (dI : Nat → Nat → Nat) (dA : Nat → ClassId) (α : Nat → Nat) (σ : Mm) (a0 : Int32) (a1 : Int32) (a2 : Int32) (Qm : Int32 → Mm → Prop) (h : wp_X7_isBetween σ a0 a1 a2 Qm) (sz : Nat) : Met l yX7_isBetween wsX7_isBetween ({ frames := 0, cells := 0, slots := 0, locals := 0 } : Room) (cP dC dI dA Fm α σ sz [.int a0, .int a1, .int a2]) (va_Qi Qm (cB dC dI dA Fm α (wl dA Fm α σ) sz) (va_A (wl dA Fm α σ) sz)) 0 0 (va_A (wl dA Fm α σ) sz) := by
  refine m_start (own := RX7) (lv := [(0, .int a0), (1, .int a1), (2, .int a2)]) (by decide) rfl rfl (by simp only [lgl_O, lgl_I, lgl_J, lgl_N]; decide) (by simp only [lva_O, lva_I, lva_J, lva_N]) ?_
  intro p e s m below meth c hsz hC hr hlk
  generalize hA : va_A (wl dA Fm α σ) sz = A at hC ⊢
  have hA := hA.symm
  generalize hargs : ([.int a0, .int a1, .int a2] : List Value).toArray = args at hC ⊢
  generalize hQ : MQ below _ args s 0 0 A = Q
  unfold wp_X7_isBetween at h
  refine r_iload_n hC dX7_isBetween_0 rfl 0 rfl ?_
  refine r_iload_n hC dX7_isBetween_1 rfl 1 rfl ?_
  obtain ⟨J2, hJ2, h⟩ := h
  have KJ2 : ∀ (x1 : Int32), J2 x1 → G p l e ({ frames := 0, cells := 0, slots := 0, locals := 0 } : Room) s m args below meth c 0 0 Q dC dI dA Fm α A 3 σ 15 [] [.int x1] := by
    clear h
    intro x1 h
    replace h := hJ2 x1 h
    subst hQ
    exact r_zret hC hA hr hlk dX7_isBetween_15 h.1 h.2
  obtain ⟨J3, hJ3, h⟩ := h
  have KJ3 : J3 → G p l e ({ frames := 0, cells := 0, slots := 0, locals := 0 } : Room) s m args below meth c 0 0 Q dC dI dA Fm α A 3 σ 14 [] [] := by
    clear h
    intro h
    replace h := hJ3 h
    refine r_iconst (v := 0) hC dX7_isBetween_14 (by decide) ?_
    exact KJ2 0 h
  refine r_icmp_lt (tgt := 14) hC dX7_isBetween_2 (by decide) (fun q => ?_) (fun q => ?_)
  · replace h := h.1 q
    refine r_lvs [] rfl ?_
    exact KJ3 h
  · replace h := h.2 q
    refine r_iload_n hC dX7_isBetween_5 rfl 0 rfl ?_
    refine r_iload_n hC dX7_isBetween_6 rfl 2 rfl ?_
    refine r_icmp_gt (tgt := 14) hC dX7_isBetween_7 (by decide) (fun q => ?_) (fun q => ?_)
    · replace h := h.1 q
      refine r_lvs [] rfl ?_
      exact KJ3 h
    · replace h := h.2 q
      refine r_iconst (v := 1) hC dX7_isBetween_10 (by decide) ?_
      refine r_goto (tgt := 15) hC dX7_isBetween_11 (by decide) ?_
      refine r_lvs [] rfl ?_
      exact KJ2 1 h
set_option maxHeartbeats 4000000 in
set_option maxRecDepth 100000 in
theorem cm_X7_isOwner (l : Launch) (dC : Nat → ClassId) (dI : Nat → Nat → Nat) (dA : Nat → ClassId) (α : Nat → Nat) (σ : Mm) (a0 : Int32) (Qm : Int32 → Mm → Prop) (h : wp_X7_isOwner σ a0 Qm) (sz : Nat) : Met l yX7_isOwner wsX7_isOwner ({ frames := 1, cells := 0, slots := 0, locals := 22 } : Room) (cP dC dI dA Fm α σ sz [.int a0]) (va_Qi Qm (cB dC dI dA Fm α (wl dA Fm α σ) sz) (va_A (wl dA Fm α σ) sz)) 0 0 (va_A (wl dA Fm α σ) sz) := by
  refine m_start (own := RX7) (lv := [(0, .int a0)]) (by decide) rfl rfl (by simp only [lgl_O, lgl_I, lgl_J, lgl_N]; decide) (by simp only [lva_O, lva_I, lva_J, lva_N]) ?_
  intro p e s m below meth c hsz hC hr hlk
  generalize hA : va_A (wl dA Fm α σ) sz = A at hC ⊢
  have hA := hA.symm
  generalize hargs : ([.int a0] : List Value).toArray = args at hC ⊢
  generalize hQ : MQ below _ args s 0 0 A = Q
  unfold wp_X7_isOwner at h
  refine r_iload_n hC dX7_isOwner_0 rfl 0 rfl ?_
  refine r_iconst (v := 0) hC dX7_isOwner_1 (by decide) ?_
  refine r_bipush (v := 9) hC dX7_isOwner_2 (by decide) ?_
  refine r_calli hC [] (m_runS (n := 3) hC [.int a0, .int 0, .int 9] [] (fun sz => cm_X7_isBetween l dC dI dA α σ a0 0 9 _ h sz) gX7_isOwner_X7_isBetween rfl ⟨rfl, rfl⟩ (by decide +kernel) ⟨Nat.le_of_ble_eq_true rfl, Nat.le_of_ble_eq_true rfl⟩ rfl (Nat.le_of_ble_eq_true rfl) (by decide) dX7_isOwner_4) (fun x2 σ1 hn => ?_)
  clear h
  revert hn
  intro h
  subst hQ
  exact r_zret hC hA hr hlk dX7_isOwner_7 h.1 h.2
theorem kX7_isTract_0 : ∀ w ∈ u_ws RX7 TX7 40, w ∈ wsX7_isTract := by decide +kernel
theorem kX7_isTract_1 : (Cond.fieldLink RX7 119 "DivisionorderModel" "tracts" "I") ∈ wsX7_isTract := by decide +kernel
set_option maxHeartbeats 4000000 in
set_option maxRecDepth 100000 in
theorem cm_X7_isTract (l : Launch) (dC : Nat → ClassId) (dI : Nat → Nat → Nat) (dA : Nat → ClassId) (α : Nat → Nat) (σ : Mm) (a1 : Int32) (Qm : Int32 → Mm → Prop) (h : wp_X7_isTract σ a1 Qm) (sz : Nat) : Met l yX7_isTract wsX7_isTract ({ frames := 1, cells := 0, slots := 0, locals := 22 } : Room) (cP dC dI dA Fm α σ sz [fO α (some 200), .int a1]) (va_Qi Qm (cB dC dI dA Fm α (wl dA Fm α σ) sz) (va_A (wl dA Fm α σ) sz)) 0 0 (va_A (wl dA Fm α σ) sz) := by
  refine m_start (own := RX7) (lv := [(0, fO α (some 200)), (1, .int a1)]) (by decide) rfl rfl (by simp only [lgl_O, lgl_I, lgl_J, lgl_N]; decide) (by simp only [lva_O, lva_I, lva_J, lva_N]) ?_
  intro p e s m below meth c hsz hC hr hlk
  generalize hA : va_A (wl dA Fm α σ) sz = A at hC ⊢
  have hA := hA.symm
  generalize hargs : ([fO α (some 200), .int a1] : List Value).toArray = args at hC ⊢
  generalize hQ : MQ below _ args s 0 0 A = Q
  unfold wp_X7_isTract at h
  refine r_iload_n hC dX7_isTract_0 rfl 1 rfl ?_
  refine r_iconst (v := 0) hC dX7_isTract_1 (by decide) ?_
  refine r_aload_n hC dX7_isTract_2 rfl 0 rfl ?_
  refine r_get (ci := 7) (f := 1) (v := .int (gI σ 200 1)) hC kX7_isTract_0 rfl (by decide) rfl kX7_isTract_1 fx_200 (ct_7 rfl) rfl dX7_isTract_3 ?_
  refine r_iconst (v := 1) hC dX7_isTract_6 (by decide) ?_
  refine r_isub hC dX7_isTract_7 ?_
  refine r_calli hC [] (m_runS (n := 3) hC [.int a1, .int 0, .int ((gI σ 200 1) - 1)] [] (fun sz => cm_X7_isBetween l dC dI dA α σ a1 0 ((gI σ 200 1) - 1) _ h sz) gX7_isTract_X7_isBetween rfl ⟨rfl, rfl⟩ (by decide +kernel) ⟨Nat.le_of_ble_eq_true rfl, Nat.le_of_ble_eq_true rfl⟩ rfl (Nat.le_of_ble_eq_true rfl) (by decide) dX7_isTract_8) (fun x2 σ1 hn => ?_)
  clear h
  revert hn
  intro h
  subst hQ
  exact r_zret hC hA hr hlk dX7_isTract_11 h.1 h.2
theorem kX7_isMonth_0 : ∀ w ∈ u_ws RX7 TX7 40, w ∈ wsX7_isMonth := by decide +kernel
theorem kX7_isMonth_1 : (Cond.fieldLink RX7 122 "DivisionorderModel" "now" "I") ∈ wsX7_isMonth := by decide +kernel
set_option maxHeartbeats 4000000 in
set_option maxRecDepth 100000 in
theorem cm_X7_isMonth (l : Launch) (dC : Nat → ClassId) (dI : Nat → Nat → Nat) (dA : Nat → ClassId) (α : Nat → Nat) (σ : Mm) (a1 : Int32) (Qm : Int32 → Mm → Prop) (h : wp_X7_isMonth σ a1 Qm) (sz : Nat) : Met l yX7_isMonth wsX7_isMonth ({ frames := 1, cells := 0, slots := 0, locals := 22 } : Room) (cP dC dI dA Fm α σ sz [fO α (some 200), .int a1]) (va_Qi Qm (cB dC dI dA Fm α (wl dA Fm α σ) sz) (va_A (wl dA Fm α σ) sz)) 0 0 (va_A (wl dA Fm α σ) sz) := by
  refine m_start (own := RX7) (lv := [(0, fO α (some 200)), (1, .int a1)]) (by decide) rfl rfl (by simp only [lgl_O, lgl_I, lgl_J, lgl_N]; decide) (by simp only [lva_O, lva_I, lva_J, lva_N]) ?_
  intro p e s m below meth c hsz hC hr hlk
  generalize hA : va_A (wl dA Fm α σ) sz = A at hC ⊢
  have hA := hA.symm
  generalize hargs : ([fO α (some 200), .int a1] : List Value).toArray = args at hC ⊢
  generalize hQ : MQ below _ args s 0 0 A = Q
  unfold wp_X7_isMonth at h
  refine r_iload_n hC dX7_isMonth_0 rfl 1 rfl ?_
  refine r_iconst (v := 0) hC dX7_isMonth_1 (by decide) ?_
  refine r_aload_n hC dX7_isMonth_2 rfl 0 rfl ?_
  refine r_get (ci := 7) (f := 0) (v := .int (gI σ 200 0)) hC kX7_isMonth_0 rfl (by decide) rfl kX7_isMonth_1 fx_200 (ct_7 rfl) rfl dX7_isMonth_3 ?_
  refine r_calli hC [] (m_runS (n := 3) hC [.int a1, .int 0, .int (gI σ 200 0)] [] (fun sz => cm_X7_isBetween l dC dI dA α σ a1 0 (gI σ 200 0) _ h sz) gX7_isMonth_X7_isBetween rfl ⟨rfl, rfl⟩ (by decide +kernel) ⟨Nat.le_of_ble_eq_true rfl, Nat.le_of_ble_eq_true rfl⟩ rfl (Nat.le_of_ble_eq_true rfl) (by decide) dX7_isMonth_6) (fun x2 σ1 hn => ?_)
  clear h
  revert hn
  intro h
  subst hQ
  exact r_zret hC hA hr hlk dX7_isMonth_9 h.1 h.2
theorem kX7_isUnitMonth_0 : ∀ w ∈ u_ws RX7 TX7 40, w ∈ wsX7_isUnitMonth := by decide +kernel
theorem kX7_isUnitMonth_1 : (Cond.fieldLink RX7 125 "DivisionorderModel" "units" "I") ∈ wsX7_isUnitMonth := by decide +kernel
theorem kX7_isUnitMonth_2 : (Cond.fieldLink RX7 52 "DivisionorderModel" "unitMonth" "[I") ∈ wsX7_isUnitMonth := by decide +kernel
theorem kX7_isUnitMonth_3 : (Cond.fieldLink RX7 122 "DivisionorderModel" "now" "I") ∈ wsX7_isUnitMonth := by decide +kernel
set_option maxHeartbeats 4000000 in
set_option maxRecDepth 100000 in
theorem cm_X7_isUnitMonth (l : Launch) (dC : Nat → ClassId) (dI : Nat → Nat → Nat) (dA : Nat → ClassId) (α : Nat → Nat) (σ : Mm) (a1 : Int32) (a2 : Int32) (Qm : Int32 → Mm → Prop) (h : wp_X7_isUnitMonth σ a1 a2 Qm) (sz : Nat) : Met l yX7_isUnitMonth wsX7_isUnitMonth ({ frames := 1, cells := 0, slots := 0, locals := 22 } : Room) (cP dC dI dA Fm α σ sz [fO α (some 200), .int a1, .int a2]) (va_Qi Qm (cB dC dI dA Fm α (wl dA Fm α σ) sz) (va_A (wl dA Fm α σ) sz)) 0 0 (va_A (wl dA Fm α σ) sz) := by
  refine m_start (own := RX7) (lv := [(0, fO α (some 200)), (1, .int a1), (2, .int a2)]) (by decide) rfl rfl (by simp only [lgl_O, lgl_I, lgl_J, lgl_N]; decide) (by simp only [lva_O, lva_I, lva_J, lva_N]) ?_
  intro p e s m below meth c hsz hC hr hlk
  generalize hA : va_A (wl dA Fm α σ) sz = A at hC ⊢
  have hA := hA.symm
  generalize hargs : ([fO α (some 200), .int a1, .int a2] : List Value).toArray = args at hC ⊢
  generalize hQ : MQ below _ args s 0 0 A = Q
  unfold wp_X7_isUnitMonth at h
  refine r_iload_n hC dX7_isUnitMonth_0 rfl 1 rfl ?_
  refine r_iconst (v := 0) hC dX7_isUnitMonth_1 (by decide) ?_
  refine r_aload_n hC dX7_isUnitMonth_2 rfl 0 rfl ?_
  refine r_get (ci := 7) (f := 18) (v := .int (gI σ 200 18)) hC kX7_isUnitMonth_0 rfl (by decide) rfl kX7_isUnitMonth_1 fx_200 (ct_7 rfl) rfl dX7_isUnitMonth_3 ?_
  refine r_iconst (v := 1) hC dX7_isUnitMonth_6 (by decide) ?_
  refine r_isub hC dX7_isUnitMonth_7 ?_
  refine r_calli hC [] (m_runS (n := 3) hC [.int a1, .int 0, .int ((gI σ 200 18) - 1)] [] (fun sz => cm_X7_isBetween l dC dI dA α σ a1 0 ((gI σ 200 18) - 1) _ h sz) gX7_isUnitMonth_X7_isBetween rfl ⟨rfl, rfl⟩ (by decide +kernel) ⟨Nat.le_of_ble_eq_true rfl, Nat.le_of_ble_eq_true rfl⟩ rfl (Nat.le_of_ble_eq_true rfl) (by decide) dX7_isUnitMonth_8) (fun x2 σ1 hn => ?_)
  clear h
  revert hn
  intro h
  obtain ⟨J5, hJ5, h⟩ := h
  have KJ5 : ∀ (σ3 : Mm) (x4 : Int32), J5 σ3 x4 → G p l e ({ frames := 1, cells := 0, slots := 0, locals := 22 } : Room) s m args below meth c 0 0 Q dC dI dA Fm α A 3 σ3 54 [] [.int x4] := by
    clear h
    intro σ3 x4 h
    replace h := hJ5 σ3 x4 h
    subst hQ
    exact r_zret hC hA hr hlk dX7_isUnitMonth_54 h.1 h.2
  obtain ⟨J7, hJ7, h⟩ := h
  have KJ7 : ∀ (σ6 : Mm), J7 σ6 → G p l e ({ frames := 1, cells := 0, slots := 0, locals := 22 } : Room) s m args below meth c 0 0 Q dC dI dA Fm α A 3 σ6 53 [] [] := by
    clear h
    intro σ6 h
    replace h := hJ7 σ6 h
    refine r_iconst (v := 0) hC dX7_isUnitMonth_53 (by decide) ?_
    exact KJ5 σ6 0 h
  refine r_if_eq (tgt := 53) hC dX7_isUnitMonth_11 (by decide) (fun q => ?_) (fun q => ?_)
  · replace h := h.1 q
    refine r_lvs [] rfl ?_
    exact KJ7 σ1 h
  · replace h := h.2 q
    refine r_iload_n hC dX7_isUnitMonth_14 rfl 2 rfl ?_
    refine r_aload_n hC dX7_isUnitMonth_15 rfl 0 rfl ?_
    refine r_get (ci := 7) (f := 19) (v := fO α (some 215)) hC kX7_isUnitMonth_0 rfl (by decide) rfl kX7_isUnitMonth_2 fx_200 (ct_7 rfl) rfl dX7_isUnitMonth_16 ?_
    refine r_iload_n hC dX7_isUnitMonth_19 rfl 1 rfl ?_
    refine r_iconst (v := 0) hC dX7_isUnitMonth_20 (by decide) ?_
    refine r_aload_n hC dX7_isUnitMonth_21 rfl 0 rfl ?_
    refine r_get (ci := 7) (f := 18) (v := .int (gI σ1 200 18)) hC kX7_isUnitMonth_0 rfl (by decide) rfl kX7_isUnitMonth_1 fx_200 (ct_7 rfl) rfl dX7_isUnitMonth_22 ?_
    refine r_iconst (v := 1) hC dX7_isUnitMonth_25 (by decide) ?_
    refine r_isub hC dX7_isUnitMonth_26 ?_
    refine r_calli hC [fO α (some 215), .int a2] (m_runS (n := 3) hC [.int a1, .int 0, .int ((gI σ1 200 18) - 1)] [fO α (some 215), .int a2] (fun sz => cm_X7_isBetween l dC dI dA α σ1 a1 0 ((gI σ1 200 18) - 1) _ h sz) gX7_isUnitMonth_X7_isBetween rfl ⟨rfl, rfl⟩ (by decide +kernel) ⟨Nat.le_of_ble_eq_true rfl, Nat.le_of_ble_eq_true rfl⟩ rfl (Nat.le_of_ble_eq_true rfl) (by decide) dX7_isUnitMonth_27) (fun x9 σ8 hn => ?_)
    clear h
    revert hn
    intro h
    obtain ⟨J11, hJ11, h⟩ := h
    have KJ11 : ∀ (x10 : Int32), J11 x10 → G p l e ({ frames := 1, cells := 0, slots := 0, locals := 22 } : Room) s m args below meth c 0 0 Q dC dI dA Fm α A 3 σ8 38 [(0, fO α (some 200))] [.int x10, fO α (some 215), .int a2] := by
      clear h
      intro x10 h
      replace h := hJ11 x10 h
      obtain ⟨c12, h⟩ := h
      refine r_iald hC fx_215 rfl c12 dX7_isUnitMonth_38 ?_
      refine r_aload_n hC dX7_isUnitMonth_39 rfl 0 rfl ?_
      refine r_get (ci := 7) (f := 0) (v := .int (gI σ8 200 0)) hC kX7_isUnitMonth_0 rfl (by decide) rfl kX7_isUnitMonth_3 fx_200 (ct_7 rfl) rfl dX7_isUnitMonth_40 ?_
      refine r_calli hC [] (m_runS (n := 3) hC [.int a2, .int (gI σ8 215 x10.toNatClampNeg), .int (gI σ8 200 0)] [] (fun sz => cm_X7_isBetween l dC dI dA α σ8 a2 (gI σ8 215 x10.toNatClampNeg) (gI σ8 200 0) _ h sz) gX7_isUnitMonth_X7_isBetween rfl ⟨rfl, rfl⟩ (by decide +kernel) ⟨Nat.le_of_ble_eq_true rfl, Nat.le_of_ble_eq_true rfl⟩ rfl (Nat.le_of_ble_eq_true rfl) (by decide) dX7_isUnitMonth_43) (fun x14 σ13 hn => ?_)
      clear h
      revert hn
      intro h
      refine r_if_eq (tgt := 53) hC dX7_isUnitMonth_46 (by decide) (fun q => ?_) (fun q => ?_)
      · replace h := h.1 q
        refine r_lvs [] rfl ?_
        exact KJ7 σ13 h
      · replace h := h.2 q
        refine r_iconst (v := 1) hC dX7_isUnitMonth_49 (by decide) ?_
        refine r_goto (tgt := 54) hC dX7_isUnitMonth_50 (by decide) ?_
        refine r_lvs [] rfl ?_
        exact KJ5 σ13 1 h
    refine r_if_eq (tgt := 37) hC dX7_isUnitMonth_30 (by decide) (fun q => ?_) (fun q => ?_)
    · replace h := h.1 q
      refine r_iconst (v := 0) hC dX7_isUnitMonth_37 (by decide) ?_
      refine r_lvs [0] rfl ?_
      exact KJ11 0 h
    · replace h := h.2 q
      refine r_iload_n hC dX7_isUnitMonth_33 rfl 1 rfl ?_
      refine r_goto (tgt := 38) hC dX7_isUnitMonth_34 (by decide) ?_
      refine r_lvs [0] rfl ?_
      exact KJ11 a1 h
theorem kX7_pass_0 : ∀ w ∈ u_ws RX7 TX7 40, w ∈ wsX7_pass := by decide +kernel
theorem kX7_pass_1 : (Cond.fieldLink RX7 122 "DivisionorderModel" "now" "I") ∈ wsX7_pass := by decide +kernel
set_option maxHeartbeats 4000000 in
set_option maxRecDepth 100000 in
theorem cm_X7_pass (l : Launch) (dC : Nat → ClassId) (dI : Nat → Nat → Nat) (dA : Nat → ClassId) (α : Nat → Nat) (σ : Mm) (a1 : Int32) (Qm : Int32 → Mm → Prop) (h : wp_X7_pass σ a1 Qm) (sz : Nat) : Met l yX7_pass wsX7_pass ({ frames := 1, cells := 0, slots := 0, locals := 23 } : Room) (cP dC dI dA Fm α σ sz [fO α (some 200), .int a1]) (va_Qi Qm (cB dC dI dA Fm α (wl dA Fm α σ) sz) (va_A (wl dA Fm α σ) sz)) 0 0 (va_A (wl dA Fm α σ) sz) := by
  refine m_start (own := RX7) (lv := [(0, fO α (some 200)), (1, .int a1)]) (by decide) rfl rfl (by simp only [lgl_O, lgl_I, lgl_J, lgl_N]; decide) (by simp only [lva_O, lva_I, lva_J, lva_N]) ?_
  intro p e s m below meth c hsz hC hr hlk
  generalize hA : va_A (wl dA Fm α σ) sz = A at hC ⊢
  have hA := hA.symm
  generalize hargs : ([fO α (some 200), .int a1] : List Value).toArray = args at hC ⊢
  generalize hQ : MQ below _ args s 0 0 A = Q
  unfold wp_X7_pass at h
  refine r_aload_n hC dX7_pass_0 rfl 0 rfl ?_
  refine r_iload_n hC dX7_pass_1 rfl 1 rfl ?_
  refine r_iconst (v := 1) hC dX7_pass_2 (by decide) ?_
  refine r_bipush (v := 12) hC dX7_pass_3 (by decide) ?_
  refine r_calli hC [fO α (some 200)] (m_runS (n := 3) hC [.int a1, .int 1, .int 12] [fO α (some 200)] (fun sz => cm_X7_isBetween l dC dI dA α σ a1 1 12 _ h sz) gX7_pass_X7_isBetween rfl ⟨rfl, rfl⟩ (by decide +kernel) ⟨Nat.le_of_ble_eq_true rfl, Nat.le_of_ble_eq_true rfl⟩ rfl (Nat.le_of_ble_eq_true rfl) (by decide) dX7_pass_5) (fun x2 σ1 hn => ?_)
  clear h
  revert hn
  intro h
  refine r_aload_n hC dX7_pass_8 rfl 0 rfl ?_
  refine r_get (ci := 7) (f := 0) (v := .int (gI σ1 200 0)) hC kX7_pass_0 rfl (by decide) rfl kX7_pass_1 fx_200 (ct_7 rfl) rfl dX7_pass_9 ?_
  refine r_iload_n hC dX7_pass_12 rfl 1 rfl ?_
  refine r_iadd hC dX7_pass_13 ?_
  refine r_bipush (v := 60) hC dX7_pass_14 (by decide) ?_
  obtain ⟨J4, hJ4, h⟩ := h
  have KJ4 : ∀ (x3 : Int32), J4 x3 → G p l e ({ frames := 1, cells := 0, slots := 0, locals := 23 } : Room) s m args below meth c 0 0 Q dC dI dA Fm α A 2 σ1 24 [(0, fO α (some 200)), (1, .int a1)] [.int x3, .int x2, fO α (some 200)] := by
    clear h
    intro x3 h
    replace h := hJ4 x3 h
    refine r_iconst (v := 1) hC dX7_pass_24 (by decide) ?_
    refine r_calli hC [] (m_runV (n := 3) (ci := 7) hC [.int x2, .int x3, .int 1] [] (fun sz => cm_X7_goes l dC dI dA α σ1 x2 x3 1 _ h sz) gX7_pass_X7_goes rfl ⟨rfl, rfl⟩ (by decide +kernel) ⟨Nat.le_of_ble_eq_true rfl, Nat.le_of_ble_eq_true rfl⟩ fx_200 (ct_7 rfl) rfl rfl (Nat.le_of_ble_eq_true rfl) (by decide) dX7_pass_25) (fun x6 σ5 hn => ?_)
    clear h
    revert hn
    intro h
    refine r_if_ne (tgt := 33) hC dX7_pass_28 (by decide) (fun q => ?_) (fun q => ?_)
    · replace h := h.1 q
      refine r_aload_n hC dX7_pass_33 rfl 0 rfl ?_
      refine r_dup hC fO_cat dX7_pass_34 ?_
      refine r_get (ci := 7) (f := 0) (v := .int (gI σ5 200 0)) hC kX7_pass_0 rfl (by decide) rfl kX7_pass_1 fx_200 (ct_7 rfl) rfl dX7_pass_35 ?_
      refine r_iload_n hC dX7_pass_38 rfl 1 rfl ?_
      refine r_iadd hC dX7_pass_39 ?_
      refine r_put (ci := 7) (f := 0) (v := .int ((gI σ5 200 0) + a1)) (σ' := sI σ5 200 0 ((gI σ5 200 0) + a1)) hC kX7_pass_0 tyX7 tyX7_ok nmX7 rfl (by decide) rfl kX7_pass_1 fx_200 (ct_7 rfl) rfl rfl (Nat.le_of_ble_eq_true rfl) (pt_7_0 rfl) ct_sI dX7_pass_40 ?_
      refine r_topm (fun σ7 qσ7 => ?_)
      replace h := h σ7 qσ7
      refine r_aload_n hC dX7_pass_43 rfl 0 rfl ?_
      refine r_get (ci := 7) (f := 0) (v := .int (gI σ7 200 0)) hC kX7_pass_0 rfl (by decide) rfl kX7_pass_1 fx_200 (ct_7 rfl) rfl dX7_pass_44 ?_
      subst hQ
      exact r_iret hC hA hr hlk dX7_pass_47 h
    · replace h := h.2 q
      refine r_iconst (v := 0) hC dX7_pass_31 (by decide) ?_
      subst hQ
      exact r_iret hC hA hr hlk dX7_pass_32 h
  refine r_icmp_gt (tgt := 23) hC dX7_pass_16 (by decide) (fun q => ?_) (fun q => ?_)
  · replace h := h.1 q
    refine r_iconst (v := 0) hC dX7_pass_23 (by decide) ?_
    exact KJ4 0 h
  · replace h := h.2 q
    refine r_iconst (v := 1) hC dX7_pass_19 (by decide) ?_
    refine r_goto (tgt := 24) hC dX7_pass_20 (by decide) ?_
    exact KJ4 1 h
theorem kX7_tract_0 : ∀ w ∈ u_ws RX7 TX7 40, w ∈ wsX7_tract := by decide +kernel
theorem kX7_tract_1 : (Cond.fieldLink RX7 119 "DivisionorderModel" "tracts" "I") ∈ wsX7_tract := by decide +kernel
theorem kX7_tract_2 : (Cond.fieldLink RX7 7 "DivisionorderModel" "acres" "[I") ∈ wsX7_tract := by decide +kernel
theorem kX7_tract_3 : (Cond.fieldLink RX7 13 "DivisionorderModel" "first" "[I") ∈ wsX7_tract := by decide +kernel
set_option maxHeartbeats 4000000 in
set_option maxRecDepth 100000 in
theorem cm_X7_tract (l : Launch) (dC : Nat → ClassId) (dI : Nat → Nat → Nat) (dA : Nat → ClassId) (α : Nat → Nat) (σ : Mm) (a1 : Int32) (a2 : Int32) (Qm : Int32 → Mm → Prop) (h : wp_X7_tract σ a1 a2 Qm) (sz : Nat) : Met l yX7_tract wsX7_tract ({ frames := 2, cells := 0, slots := 0, locals := 42 } : Room) (cP dC dI dA Fm α σ sz [fO α (some 200), .int a1, .int a2]) (va_Qi Qm (cB dC dI dA Fm α (wl dA Fm α σ) sz) (va_A (wl dA Fm α σ) sz)) 0 0 (va_A (wl dA Fm α σ) sz) := by
  refine m_start (own := RX7) (lv := [(0, fO α (some 200)), (1, .int a1), (2, .int a2)]) (by decide) rfl rfl (by simp only [lgl_O, lgl_I, lgl_J, lgl_N]; decide) (by simp only [lva_O, lva_I, lva_J, lva_N]) ?_
  intro p e s m below meth c hsz hC hr hlk
  generalize hA : va_A (wl dA Fm α σ) sz = A at hC ⊢
  have hA := hA.symm
  generalize hargs : ([fO α (some 200), .int a1, .int a2] : List Value).toArray = args at hC ⊢
  generalize hQ : MQ below _ args s 0 0 A = Q
  unfold wp_X7_tract at h
  refine r_aload_n hC dX7_tract_0 rfl 0 rfl ?_
  refine r_iload_n hC dX7_tract_1 rfl 2 rfl ?_
  refine r_calli hC [fO α (some 200)] (m_runS (n := 1) hC [.int a2] [fO α (some 200)] (fun sz => cm_X7_isOwner l dC dI dA α σ a2 _ h sz) gX7_tract_X7_isOwner rfl ⟨rfl, rfl⟩ (by decide +kernel) ⟨Nat.le_of_ble_eq_true rfl, Nat.le_of_ble_eq_true rfl⟩ rfl (Nat.le_of_ble_eq_true rfl) (by decide) dX7_tract_2) (fun x2 σ1 hn => ?_)
  clear h
  revert hn
  intro h
  refine r_iload_n hC dX7_tract_5 rfl 1 rfl ?_
  refine r_iconst (v := 1) hC dX7_tract_6 (by decide) ?_
  refine r_sipush (v := 1000) hC dX7_tract_7 (by decide) ?_
  refine r_calli hC [.int x2, fO α (some 200)] (m_runS (n := 3) hC [.int a1, .int 1, .int 1000] [.int x2, fO α (some 200)] (fun sz => cm_X7_isBetween l dC dI dA α σ1 a1 1 1000 _ h sz) gX7_tract_X7_isBetween rfl ⟨rfl, rfl⟩ (by decide +kernel) ⟨Nat.le_of_ble_eq_true rfl, Nat.le_of_ble_eq_true rfl⟩ rfl (Nat.le_of_ble_eq_true rfl) (by decide) dX7_tract_10) (fun x4 σ3 hn => ?_)
  clear h
  revert hn
  intro h
  refine r_aload_n hC dX7_tract_13 rfl 0 rfl ?_
  refine r_get (ci := 7) (f := 1) (v := .int (gI σ3 200 1)) hC kX7_tract_0 rfl (by decide) rfl kX7_tract_1 fx_200 (ct_7 rfl) rfl dX7_tract_14 ?_
  refine r_bipush (v := 8) hC dX7_tract_17 (by decide) ?_
  obtain ⟨J6, hJ6, h⟩ := h
  have KJ6 : ∀ (x5 : Int32), J6 x5 → G p l e ({ frames := 2, cells := 0, slots := 0, locals := 42 } : Room) s m args below meth c 0 0 Q dC dI dA Fm α A 3 σ3 27 [(0, fO α (some 200)), (1, .int a1), (2, .int a2)] [.int x5, .int x4, .int x2, fO α (some 200)] := by
    clear h
    intro x5 h
    replace h := hJ6 x5 h
    refine r_calli hC [] (m_runV (n := 3) (ci := 7) hC [.int x2, .int x4, .int x5] [] (fun sz => cm_X7_goes l dC dI dA α σ3 x2 x4 x5 _ h sz) gX7_tract_X7_goes rfl ⟨rfl, rfl⟩ (by decide +kernel) ⟨Nat.le_of_ble_eq_true rfl, Nat.le_of_ble_eq_true rfl⟩ fx_200 (ct_7 rfl) rfl rfl (Nat.le_of_ble_eq_true rfl) (by decide) dX7_tract_27) (fun x8 σ7 hn => ?_)
    clear h
    revert hn
    intro h
    refine r_if_ne (tgt := 35) hC dX7_tract_30 (by decide) (fun q => ?_) (fun q => ?_)
    · replace h := h.1 q
      refine r_aload_n hC dX7_tract_35 rfl 0 rfl ?_
      refine r_get (ci := 7) (f := 2) (v := fO α (some 201)) hC kX7_tract_0 rfl (by decide) rfl kX7_tract_2 fx_200 (ct_7 rfl) rfl dX7_tract_36 ?_
      refine r_aload_n hC dX7_tract_39 rfl 0 rfl ?_
      refine r_get (ci := 7) (f := 1) (v := .int (gI σ7 200 1)) hC kX7_tract_0 rfl (by decide) rfl kX7_tract_1 fx_200 (ct_7 rfl) rfl dX7_tract_40 ?_
      refine r_iload_n hC dX7_tract_43 rfl 1 rfl ?_
      obtain ⟨c9, h⟩ := h
      refine r_iast hC fx_201 rfl c9 dX7_tract_44 ?_
      refine r_topm (fun σ10 qσ10 => ?_)
      replace h := h σ10 qσ10
      refine r_aload_n hC dX7_tract_45 rfl 0 rfl ?_
      refine r_get (ci := 7) (f := 3) (v := fO α (some 202)) hC kX7_tract_0 rfl (by decide) rfl kX7_tract_3 fx_200 (ct_7 rfl) rfl dX7_tract_46 ?_
      refine r_aload_n hC dX7_tract_49 rfl 0 rfl ?_
      refine r_get (ci := 7) (f := 1) (v := .int (gI σ10 200 1)) hC kX7_tract_0 rfl (by decide) rfl kX7_tract_1 fx_200 (ct_7 rfl) rfl dX7_tract_50 ?_
      refine r_iload_n hC dX7_tract_53 rfl 2 rfl ?_
      obtain ⟨c11, h⟩ := h
      refine r_iast hC fx_202 rfl c11 dX7_tract_54 ?_
      refine r_topm (fun σ12 qσ12 => ?_)
      replace h := h σ12 qσ12
      refine r_aload_n hC dX7_tract_55 rfl 0 rfl ?_
      refine r_dup hC fO_cat dX7_tract_56 ?_
      refine r_get (ci := 7) (f := 1) (v := .int (gI σ12 200 1)) hC kX7_tract_0 rfl (by decide) rfl kX7_tract_1 fx_200 (ct_7 rfl) rfl dX7_tract_57 ?_
      refine r_iconst (v := 1) hC dX7_tract_60 (by decide) ?_
      refine r_iadd hC dX7_tract_61 ?_
      refine r_put (ci := 7) (f := 1) (v := .int ((gI σ12 200 1) + 1)) (σ' := sI σ12 200 1 ((gI σ12 200 1) + 1)) hC kX7_tract_0 tyX7 tyX7_ok nmX7 rfl (by decide) rfl kX7_tract_1 fx_200 (ct_7 rfl) rfl rfl (Nat.le_of_ble_eq_true rfl) (pt_7_1 rfl) ct_sI dX7_tract_62 ?_
      refine r_topm (fun σ13 qσ13 => ?_)
      replace h := h σ13 qσ13
      refine r_aload_n hC dX7_tract_65 rfl 0 rfl ?_
      refine r_get (ci := 7) (f := 1) (v := .int (gI σ13 200 1)) hC kX7_tract_0 rfl (by decide) rfl kX7_tract_1 fx_200 (ct_7 rfl) rfl dX7_tract_66 ?_
      refine r_iconst (v := 1) hC dX7_tract_69 (by decide) ?_
      refine r_isub hC dX7_tract_70 ?_
      subst hQ
      exact r_iret hC hA hr hlk dX7_tract_71 h
    · replace h := h.2 q
      refine r_iconst (v := 0) hC dX7_tract_33 (by decide) ?_
      subst hQ
      exact r_iret hC hA hr hlk dX7_tract_34 h
  refine r_icmp_ge (tgt := 26) hC dX7_tract_19 (by decide) (fun q => ?_) (fun q => ?_)
  · replace h := h.1 q
    refine r_iconst (v := 0) hC dX7_tract_26 (by decide) ?_
    exact KJ6 0 h
  · replace h := h.2 q
    refine r_iconst (v := 1) hC dX7_tract_22 (by decide) ?_
    refine r_goto (tgt := 27) hC dX7_tract_23 (by decide) ?_
    exact KJ6 1 h
theorem kX7_titleOf_0 : ∀ w ∈ u_ws RX7 TX7 40, w ∈ wsX7_titleOf := by decide +kernel
theorem kX7_titleOf_1 : (Cond.fieldLink RX7 13 "DivisionorderModel" "first" "[I") ∈ wsX7_titleOf := by decide +kernel
theorem kX7_titleOf_2 : (Cond.fieldLink RX7 136 "DivisionorderModel" "deeds" "I") ∈ wsX7_titleOf := by decide +kernel
theorem kX7_titleOf_3 : (Cond.fieldLink RX7 19 "DivisionorderModel" "deedTract" "[I") ∈ wsX7_titleOf := by decide +kernel
theorem kX7_titleOf_4 : (Cond.fieldLink RX7 31 "DivisionorderModel" "deedMonth" "[I") ∈ wsX7_titleOf := by decide +kernel
theorem kX7_titleOf_5 : (Cond.fieldLink RX7 25 "DivisionorderModel" "deedTo" "[I") ∈ wsX7_titleOf := by decide +kernel
theorem kX7_titleOf_6 : (Cond.fieldLink RX7 22 "DivisionorderModel" "deedFrom" "[I") ∈ wsX7_titleOf := by decide +kernel
theorem kX7_titleOf_7 : (Cond.fieldLink RX7 28 "DivisionorderModel" "deedParts" "[I") ∈ wsX7_titleOf := by decide +kernel
set_option maxHeartbeats 4000000 in
set_option maxRecDepth 100000 in
theorem cm_X7_titleOf (l : Launch) (dC : Nat → ClassId) (dI : Nat → Nat → Nat) (dA : Nat → ClassId) (α : Nat → Nat) (σ : Mm) (a1 : Int32) (a2 : Int32) (a3 : Int32) (Qm : Int32 → Mm → Prop) (h : wp_X7_titleOf σ a1 a2 a3 Qm) (sz : Nat) : Met l yX7_titleOf wsX7_titleOf ({ frames := 0, cells := 0, slots := 0, locals := 0 } : Room) (cP dC dI dA Fm α σ sz [fO α (some 200), .int a1, .int a2, .int a3]) (va_Qi Qm (cB dC dI dA Fm α (wl dA Fm α σ) sz) (va_A (wl dA Fm α σ) sz)) 0 0 (va_A (wl dA Fm α σ) sz) := by
  refine m_start (own := RX7) (lv := [(0, fO α (some 200)), (1, .int a1), (2, .int a2), (3, .int a3)]) (by decide) rfl rfl (by simp only [lgl_O, lgl_I, lgl_J, lgl_N]; decide) (by simp only [lva_O, lva_I, lva_J, lva_N]) ?_
  intro p e s m below meth c hsz hC hr hlk
  generalize hA : va_A (wl dA Fm α σ) sz = A at hC ⊢
  have hA := hA.symm
  generalize hargs : ([fO α (some 200), .int a1, .int a2, .int a3] : List Value).toArray = args at hC ⊢
  generalize hQ : MQ below _ args s 0 0 A = Q
  unfold wp_X7_titleOf at h
  refine r_aload_n hC dX7_titleOf_0 rfl 0 rfl ?_
  refine r_get (ci := 7) (f := 3) (v := fO α (some 202)) hC kX7_titleOf_0 rfl (by decide) rfl kX7_titleOf_1 fx_200 (ct_7 rfl) rfl dX7_titleOf_1 ?_
  refine r_iload_n hC dX7_titleOf_4 rfl 1 rfl ?_
  obtain ⟨c1, h⟩ := h
  refine r_iald hC fx_202 rfl c1 dX7_titleOf_5 ?_
  refine r_iload_n hC dX7_titleOf_6 rfl 2 rfl ?_
  obtain ⟨J3, hJ3, h⟩ := h
  have KJ3 : ∀ (x2 : Int32), J3 x2 → G p l e ({ frames := 0, cells := 0, slots := 0, locals := 0 } : Room) s m args below meth c 0 0 Q dC dI dA Fm α A 6 σ 17 [(0, fO α (some 200)), (1, .int a1), (2, .int a2), (3, .int a3)] [.int x2] := by
    clear h
    intro x2 h
    replace h := hJ3 x2 h
    refine r_istore (lv' := [(4, .int x2), (0, fO α (some 200)), (1, .int a1), (2, .int a2), (3, .int a3)]) hC dX7_titleOf_17 (by decide) rfl ?_
    refine r_iconst (v := 0) hC dX7_titleOf_19 (by decide) ?_
    refine r_istore (lv' := [(5, .int 0), (4, .int x2), (0, fO α (some 200)), (1, .int a1), (2, .int a2), (3, .int a3)]) hC dX7_titleOf_20 (by decide) rfl ?_
    refine r_lvs [2, 3, 4, 5, 1, 0] rfl ?_
    obtain ⟨n, h⟩ := h
    refine lpw_ind (S := Int32 × Int32) (fun s7 => G p l e ({ frames := 0, cells := 0, slots := 0, locals := 0 } : Room) s m args below meth c 0 0 Q dC dI dA Fm α A 6 σ 22 [(0, fO α (some 200)), (1, .int a1), (2, .int a2), (3, .int a3), (4, .int s7.1), (5, .int s7.2)] []) ?_ n (x2, 0) h
    clear h
    intro R6 hR6 s7 h
    obtain ⟨x4, x5⟩ := s7
    refine r_iload hC dX7_titleOf_22 5 rfl ?_
    refine r_aload_n hC dX7_titleOf_24 rfl 0 rfl ?_
    refine r_get (ci := 7) (f := 5) (v := .int (gI σ 200 5)) hC kX7_titleOf_0 rfl (by decide) rfl kX7_titleOf_2 fx_200 (ct_7 rfl) rfl dX7_titleOf_25 ?_
    refine r_icmp_ge (tgt := 113) hC dX7_titleOf_28 (by decide) (fun q => ?_) (fun q => ?_)
    · replace h := h.1 q
      refine r_iload hC dX7_titleOf_113 4 rfl ?_
      subst hQ
      exact r_iret hC hA hr hlk dX7_titleOf_115 h
    · replace h := h.2 q
      refine r_aload_n hC dX7_titleOf_31 rfl 0 rfl ?_
      refine r_get (ci := 7) (f := 6) (v := fO α (some 204)) hC kX7_titleOf_0 rfl (by decide) rfl kX7_titleOf_3 fx_200 (ct_7 rfl) rfl dX7_titleOf_32 ?_
      refine r_iload hC dX7_titleOf_35 5 rfl ?_
      obtain ⟨c8, h⟩ := h
      refine r_iald hC fx_204 rfl c8 dX7_titleOf_37 ?_
      refine r_iload_n hC dX7_titleOf_38 rfl 1 rfl ?_
      obtain ⟨J10, hJ10, h⟩ := h
      have KJ10 : ∀ (x9 : Int32), J10 x9 → G p l e ({ frames := 0, cells := 0, slots := 0, locals := 0 } : Room) s m args below meth c 0 0 Q dC dI dA Fm α A 6 σ 107 [(0, fO α (some 200)), (1, .int a1), (2, .int a2), (3, .int a3), (4, .int x9), (5, .int x5)] [] := by
        clear h
        intro x9 h
        replace h := hJ10 x9 h
        obtain ⟨x11, qx11⟩ : ∃ z : Int32, z = x5 + 1 := ⟨_, rfl⟩
        replace h := h x11 qx11
        refine r_iinc (v := x11) (lv' := [(5, .int x11), (0, fO α (some 200)), (1, .int a1), (2, .int a2), (3, .int a3), (4, .int x9)]) hC dX7_titleOf_107 (k := 5) rfl (by rw [qx11]; rfl) (by decide) rfl ?_
        refine r_goto (tgt := 22) hC dX7_titleOf_110 (by decide) ?_
        refine r_lvs [1, 2, 3, 4, 5, 0] rfl ?_
        exact hR6 _ h
      refine r_icmp_ne (tgt := 107) hC dX7_titleOf_39 (by decide) (fun q => ?_) (fun q => ?_)
      · replace h := h.1 q
        exact KJ10 x4 h
      · replace h := h.2 q
        refine r_aload_n hC dX7_titleOf_42 rfl 0 rfl ?_
        refine r_get (ci := 7) (f := 10) (v := fO α (some 208)) hC kX7_titleOf_0 rfl (by decide) rfl kX7_titleOf_4 fx_200 (ct_7 rfl) rfl dX7_titleOf_43 ?_
        refine r_iload hC dX7_titleOf_46 5 rfl ?_
        obtain ⟨c12, h⟩ := h
        refine r_iald hC fx_208 rfl c12 dX7_titleOf_48 ?_
        refine r_iload_n hC dX7_titleOf_49 rfl 3 rfl ?_
        refine r_icmp_gt (tgt := 107) hC dX7_titleOf_50 (by decide) (fun q => ?_) (fun q => ?_)
        · replace h := h.1 q
          exact KJ10 x4 h
        · replace h := h.2 q
          refine r_iload hC dX7_titleOf_53 4 rfl ?_
          refine r_aload_n hC dX7_titleOf_55 rfl 0 rfl ?_
          refine r_get (ci := 7) (f := 8) (v := fO α (some 206)) hC kX7_titleOf_0 rfl (by decide) rfl kX7_titleOf_5 fx_200 (ct_7 rfl) rfl dX7_titleOf_56 ?_
          refine r_iload hC dX7_titleOf_59 5 rfl ?_
          obtain ⟨c13, h⟩ := h
          refine r_iald hC fx_206 rfl c13 dX7_titleOf_61 ?_
          refine r_iload_n hC dX7_titleOf_62 rfl 2 rfl ?_
          obtain ⟨J15, hJ15, h⟩ := h
          have KJ15 : ∀ (x14 : Int32), J15 x14 → G p l e ({ frames := 0, cells := 0, slots := 0, locals := 0 } : Room) s m args below meth c 0 0 Q dC dI dA Fm α A 6 σ 77 [(0, fO α (some 200)), (1, .int a1), (2, .int a2), (3, .int a3), (5, .int x5)] [.int x14, .int x4] := by
            clear h
            intro x14 h
            replace h := hJ15 x14 h
            refine r_iadd hC dX7_titleOf_77 ?_
            refine r_topi (fun x16 qx16 => ?_)
            replace h := h x16 qx16
            refine r_istore (lv' := [(4, .int x16), (0, fO α (some 200)), (1, .int a1), (2, .int a2), (3, .int a3), (5, .int x5)]) hC dX7_titleOf_78 (by decide) rfl ?_
            refine r_iload hC dX7_titleOf_80 0 rfl ?_
            refine r_aload_n hC dX7_titleOf_82 rfl 1 rfl ?_
            refine r_get (ci := 7) (f := 7) (v := fO α (some 205)) hC kX7_titleOf_0 rfl (by decide) rfl kX7_titleOf_6 fx_200 (ct_7 rfl) rfl dX7_titleOf_83 ?_
            refine r_iload hC dX7_titleOf_86 5 rfl ?_
            obtain ⟨c17, h⟩ := h
            refine r_iald hC fx_205 rfl c17 dX7_titleOf_88 ?_
            refine r_iload_n hC dX7_titleOf_89 rfl 3 rfl ?_
            obtain ⟨J19, hJ19, h⟩ := h
            have KJ19 : ∀ (x18 : Int32), J19 x18 → G p l e ({ frames := 0, cells := 0, slots := 0, locals := 0 } : Room) s m args below meth c 0 0 Q dC dI dA Fm α A 6 σ 104 [(0, fO α (some 200)), (1, .int a1), (2, .int a2), (3, .int a3), (5, .int x5)] [.int x18, .int x16] := by
              clear h
              intro x18 h
              replace h := hJ19 x18 h
              refine r_isub hC dX7_titleOf_104 ?_
              refine r_topi (fun x20 qx20 => ?_)
              replace h := h x20 qx20
              refine r_istore (lv' := [(4, .int x20), (0, fO α (some 200)), (1, .int a1), (2, .int a2), (3, .int a3), (5, .int x5)]) hC dX7_titleOf_105 (by decide) rfl ?_
              refine r_lvs [1, 2, 3, 4, 0, 5] rfl ?_
              exact KJ10 x20 h
            refine r_icmp_ne (tgt := 103) hC dX7_titleOf_90 (by decide) (fun q => ?_) (fun q => ?_)
            · replace h := h.1 q
              refine r_iconst (v := 0) hC dX7_titleOf_103 (by decide) ?_
              refine r_lvs [1, 2, 3, 4, 5] rfl ?_
              exact KJ19 0 h
            · replace h := h.2 q
              refine r_aload_n hC dX7_titleOf_93 rfl 1 rfl ?_
              refine r_get (ci := 7) (f := 9) (v := fO α (some 207)) hC kX7_titleOf_0 rfl (by decide) rfl kX7_titleOf_7 fx_200 (ct_7 rfl) rfl dX7_titleOf_94 ?_
              refine r_iload hC dX7_titleOf_97 5 rfl ?_
              obtain ⟨c21, h⟩ := h
              refine r_iald hC fx_207 rfl c21 dX7_titleOf_99 ?_
              refine r_goto (tgt := 104) hC dX7_titleOf_100 (by decide) ?_
              refine r_lvs [1, 2, 3, 4, 5] rfl ?_
              exact KJ19 (gI σ 207 x5.toNatClampNeg) h
          refine r_icmp_ne (tgt := 76) hC dX7_titleOf_63 (by decide) (fun q => ?_) (fun q => ?_)
          · replace h := h.1 q
            refine r_iconst (v := 0) hC dX7_titleOf_76 (by decide) ?_
            refine r_lvs [0, 1, 2, 3, 5] rfl ?_
            exact KJ15 0 h
          · replace h := h.2 q
            refine r_aload_n hC dX7_titleOf_66 rfl 0 rfl ?_
            refine r_get (ci := 7) (f := 9) (v := fO α (some 207)) hC kX7_titleOf_0 rfl (by decide) rfl kX7_titleOf_7 fx_200 (ct_7 rfl) rfl dX7_titleOf_67 ?_
            refine r_iload hC dX7_titleOf_70 5 rfl ?_
            obtain ⟨c22, h⟩ := h
            refine r_iald hC fx_207 rfl c22 dX7_titleOf_72 ?_
            refine r_goto (tgt := 77) hC dX7_titleOf_73 (by decide) ?_
            refine r_lvs [0, 1, 2, 3, 5] rfl ?_
            exact KJ15 (gI σ 207 x5.toNatClampNeg) h
  refine r_icmp_ne (tgt := 16) hC dX7_titleOf_7 (by decide) (fun q => ?_) (fun q => ?_)
  · replace h := h.1 q
    refine r_iconst (v := 0) hC dX7_titleOf_16 (by decide) ?_
    exact KJ3 0 h
  · replace h := h.2 q
    refine r_sipush (v := 10000) hC dX7_titleOf_10 (by decide) ?_
    refine r_goto (tgt := 17) hC dX7_titleOf_13 (by decide) ?_
    exact KJ3 10000 h
theorem kX7_deed_0 : ∀ w ∈ u_ws RX7 TX7 40, w ∈ wsX7_deed := by decide +kernel
theorem kX7_deed_1 : (Cond.fieldLink RX7 122 "DivisionorderModel" "now" "I") ∈ wsX7_deed := by decide +kernel
theorem kX7_deed_2 : (Cond.fieldLink RX7 19 "DivisionorderModel" "deedTract" "[I") ∈ wsX7_deed := by decide +kernel
theorem kX7_deed_3 : (Cond.fieldLink RX7 136 "DivisionorderModel" "deeds" "I") ∈ wsX7_deed := by decide +kernel
theorem kX7_deed_4 : (Cond.fieldLink RX7 22 "DivisionorderModel" "deedFrom" "[I") ∈ wsX7_deed := by decide +kernel
theorem kX7_deed_5 : (Cond.fieldLink RX7 25 "DivisionorderModel" "deedTo" "[I") ∈ wsX7_deed := by decide +kernel
theorem kX7_deed_6 : (Cond.fieldLink RX7 28 "DivisionorderModel" "deedParts" "[I") ∈ wsX7_deed := by decide +kernel
theorem kX7_deed_7 : (Cond.fieldLink RX7 31 "DivisionorderModel" "deedMonth" "[I") ∈ wsX7_deed := by decide +kernel
set_option maxHeartbeats 4000000 in
set_option maxRecDepth 100000 in
theorem cm_X7_deed (l : Launch) (dC : Nat → ClassId) (dI : Nat → Nat → Nat) (dA : Nat → ClassId) (α : Nat → Nat) (σ : Mm) (a1 : Int32) (a2 : Int32) (a3 : Int32) (a4 : Int32) (a5 : Int32) (Qm : Int32 → Mm → Prop) (h : wp_X7_deed σ a1 a2 a3 a4 a5 Qm) (sz : Nat) : Met l yX7_deed wsX7_deed ({ frames := 2, cells := 0, slots := 0, locals := 43 } : Room) (cP dC dI dA Fm α σ sz [fO α (some 200), .int a1, .int a2, .int a3, .int a4, .int a5]) (va_Qi Qm (cB dC dI dA Fm α (wl dA Fm α σ) sz) (va_A (wl dA Fm α σ) sz)) 0 0 (va_A (wl dA Fm α σ) sz) := by
  refine m_start (own := RX7) (lv := [(0, fO α (some 200)), (1, .int a1), (2, .int a2), (3, .int a3), (4, .int a4), (5, .int a5)]) (by decide) rfl rfl (by simp only [lgl_O, lgl_I, lgl_J, lgl_N]; decide) (by simp only [lva_O, lva_I, lva_J, lva_N]) ?_
  intro p e s m below meth c hsz hC hr hlk
  generalize hA : va_A (wl dA Fm α σ) sz = A at hC ⊢
  have hA := hA.symm
  generalize hargs : ([fO α (some 200), .int a1, .int a2, .int a3, .int a4, .int a5] : List Value).toArray = args at hC ⊢
  generalize hQ : MQ below _ args s 0 0 A = Q
  unfold wp_X7_deed at h
  refine r_aload_n hC dX7_deed_0 rfl 0 rfl ?_
  refine r_iload_n hC dX7_deed_1 rfl 1 rfl ?_
  refine r_calli hC [] (m_runV (n := 1) (ci := 7) hC [.int a1] [] (fun sz => cm_X7_isTract l dC dI dA α σ a1 _ h sz) gX7_deed_X7_isTract rfl ⟨rfl, rfl⟩ (by decide +kernel) ⟨Nat.le_of_ble_eq_true rfl, Nat.le_of_ble_eq_true rfl⟩ fx_200 (ct_7 rfl) rfl rfl (Nat.le_of_ble_eq_true rfl) (by decide) dX7_deed_2) (fun x2 σ1 hn => ?_)
  clear h
  revert hn
  intro h
  obtain ⟨J5, hJ5, h⟩ := h
  have KJ5 : ∀ (σ3 : Mm) (x4 : Int32), J5 σ3 x4 → G p l e ({ frames := 2, cells := 0, slots := 0, locals := 43 } : Room) s m args below meth c 0 0 Q dC dI dA Fm α A 10 σ3 36 [(0, fO α (some 200)), (1, .int a1), (2, .int a2), (3, .int a3), (4, .int a4), (5, .int a5)] [.int x4] := by
    clear h
    intro σ3 x4 h
    replace h := hJ5 σ3 x4 h
    refine r_istore (lv' := [(6, .int x4), (0, fO α (some 200)), (1, .int a1), (2, .int a2), (3, .int a3), (4, .int a4), (5, .int a5)]) hC dX7_deed_36 (by decide) rfl ?_
    refine r_iload_n hC dX7_deed_38 rfl 3 rfl ?_
    refine r_iload_n hC dX7_deed_39 rfl 4 rfl ?_
    obtain ⟨J8, hJ8, h⟩ := h
    have KJ8 : ∀ (σ6 : Mm) (x7 : Int32), J8 σ6 x7 → G p l e ({ frames := 2, cells := 0, slots := 0, locals := 43 } : Room) s m args below meth c 0 0 Q dC dI dA Fm α A 10 σ6 60 [(0, fO α (some 200)), (1, .int a1), (2, .int a2), (3, .int a3), (4, .int a4), (5, .int a5), (6, .int x4)] [.int x7] := by
      clear h
      intro σ6 x7 h
      replace h := hJ8 σ6 x7 h
      refine r_istore (lv' := [(7, .int x7), (0, fO α (some 200)), (1, .int a1), (2, .int a2), (3, .int a3), (4, .int a4), (5, .int a5), (6, .int x4)]) hC dX7_deed_60 (by decide) rfl ?_
      refine r_iload hC dX7_deed_62 7 rfl ?_
      obtain ⟨J10, hJ10, h⟩ := h
      have KJ10 : ∀ (x9 : Int32), J10 x9 → G p l e ({ frames := 2, cells := 0, slots := 0, locals := 43 } : Room) s m args below meth c 0 0 Q dC dI dA Fm α A 10 σ6 86 [(0, fO α (some 200)), (1, .int a1), (2, .int a2), (3, .int a3), (4, .int a4), (5, .int a5), (6, .int x4), (7, .int x7)] [.int x9] := by
        clear h
        intro x9 h
        replace h := hJ10 x9 h
        refine r_istore (lv' := [(8, .int x9), (0, fO α (some 200)), (1, .int a1), (2, .int a2), (3, .int a3), (4, .int a4), (5, .int a5), (6, .int x4), (7, .int x7)]) hC dX7_deed_86 (by decide) rfl ?_
        refine r_iload hC dX7_deed_88 6 rfl ?_
        refine r_istore (lv' := [(9, .int a5), (8, .int x9), (0, fO α (some 200)), (1, .int a1), (2, .int a2), (3, .int a3), (4, .int a4), (5, .int a5), (6, .int x4), (7, .int x7)]) hC dX7_deed_90 (by decide) rfl ?_
        refine r_lvs [2, 3, 4, 5, 6, 7, 8, 9, 1, 0] rfl ?_
        obtain ⟨n, h⟩ := h
        refine lpw_ind (S := Mm × Int32 × Int32) (fun s15 => G p l e ({ frames := 2, cells := 0, slots := 0, locals := 43 } : Room) s m args below meth c 0 0 Q dC dI dA Fm α A 10 s15.1 92 [(0, fO α (some 200)), (1, .int a1), (2, .int a2), (3, .int a3), (4, .int a4), (5, .int a5), (6, .int x4), (7, .int x7), (8, .int s15.2.1), (9, .int s15.2.2)] []) ?_ n (σ6, x9, a5) h
        clear h
        intro R14 hR14 s15 h
        obtain ⟨σ11, x12, x13⟩ := s15
        refine r_iload hC dX7_deed_92 9 rfl ?_
        refine r_aload_n hC dX7_deed_94 rfl 0 rfl ?_
        refine r_get (ci := 7) (f := 0) (v := .int (gI σ11 200 0)) hC kX7_deed_0 rfl (by decide) rfl kX7_deed_1 fx_200 (ct_7 rfl) rfl dX7_deed_95 ?_
        obtain ⟨J16, hJ16, h⟩ := h
        have KJ16 : J16 → G p l e ({ frames := 2, cells := 0, slots := 0, locals := 43 } : Room) s m args below meth c 0 0 Q dC dI dA Fm α A 10 σ11 132 [(0, fO α (some 200)), (1, .int a1), (2, .int a2), (3, .int a3), (4, .int a4), (5, .int a5), (6, .int x4), (7, .int x7), (8, .int x12)] [] := by
          clear h
          intro h
          replace h := hJ16 h
          refine r_aload_n hC dX7_deed_132 rfl 0 rfl ?_
          refine r_iload hC dX7_deed_133 6 rfl ?_
          refine r_iload hC dX7_deed_135 7 rfl ?_
          refine r_iload hC dX7_deed_137 8 rfl ?_
          refine r_calli hC [] (m_runV (n := 3) (ci := 7) hC [.int x4, .int x7, .int x12] [] (fun sz => cm_X7_goes l dC dI dA α σ11 x4 x7 x12 _ h sz) gX7_deed_X7_goes rfl ⟨rfl, rfl⟩ (by decide +kernel) ⟨Nat.le_of_ble_eq_true rfl, Nat.le_of_ble_eq_true rfl⟩ fx_200 (ct_7 rfl) rfl rfl (Nat.le_of_ble_eq_true rfl) (by decide) dX7_deed_139) (fun x18 σ17 hn => ?_)
          clear h
          revert hn
          intro h
          refine r_if_ne (tgt := 147) hC dX7_deed_142 (by decide) (fun q => ?_) (fun q => ?_)
          · replace h := h.1 q
            refine r_aload_n hC dX7_deed_147 rfl 0 rfl ?_
            refine r_get (ci := 7) (f := 6) (v := fO α (some 204)) hC kX7_deed_0 rfl (by decide) rfl kX7_deed_2 fx_200 (ct_7 rfl) rfl dX7_deed_148 ?_
            refine r_aload_n hC dX7_deed_151 rfl 0 rfl ?_
            refine r_get (ci := 7) (f := 5) (v := .int (gI σ17 200 5)) hC kX7_deed_0 rfl (by decide) rfl kX7_deed_3 fx_200 (ct_7 rfl) rfl dX7_deed_152 ?_
            refine r_iload_n hC dX7_deed_155 rfl 1 rfl ?_
            obtain ⟨c19, h⟩ := h
            refine r_iast hC fx_204 rfl c19 dX7_deed_156 ?_
            refine r_topm (fun σ20 qσ20 => ?_)
            replace h := h σ20 qσ20
            refine r_aload_n hC dX7_deed_157 rfl 0 rfl ?_
            refine r_get (ci := 7) (f := 7) (v := fO α (some 205)) hC kX7_deed_0 rfl (by decide) rfl kX7_deed_4 fx_200 (ct_7 rfl) rfl dX7_deed_158 ?_
            refine r_aload_n hC dX7_deed_161 rfl 0 rfl ?_
            refine r_get (ci := 7) (f := 5) (v := .int (gI σ20 200 5)) hC kX7_deed_0 rfl (by decide) rfl kX7_deed_3 fx_200 (ct_7 rfl) rfl dX7_deed_162 ?_
            refine r_iload_n hC dX7_deed_165 rfl 2 rfl ?_
            obtain ⟨c21, h⟩ := h
            refine r_iast hC fx_205 rfl c21 dX7_deed_166 ?_
            refine r_topm (fun σ22 qσ22 => ?_)
            replace h := h σ22 qσ22
            refine r_aload_n hC dX7_deed_167 rfl 0 rfl ?_
            refine r_get (ci := 7) (f := 8) (v := fO α (some 206)) hC kX7_deed_0 rfl (by decide) rfl kX7_deed_5 fx_200 (ct_7 rfl) rfl dX7_deed_168 ?_
            refine r_aload_n hC dX7_deed_171 rfl 0 rfl ?_
            refine r_get (ci := 7) (f := 5) (v := .int (gI σ22 200 5)) hC kX7_deed_0 rfl (by decide) rfl kX7_deed_3 fx_200 (ct_7 rfl) rfl dX7_deed_172 ?_
            refine r_iload_n hC dX7_deed_175 rfl 3 rfl ?_
            obtain ⟨c23, h⟩ := h
            refine r_iast hC fx_206 rfl c23 dX7_deed_176 ?_
            refine r_topm (fun σ24 qσ24 => ?_)
            replace h := h σ24 qσ24
            refine r_aload_n hC dX7_deed_177 rfl 0 rfl ?_
            refine r_get (ci := 7) (f := 9) (v := fO α (some 207)) hC kX7_deed_0 rfl (by decide) rfl kX7_deed_6 fx_200 (ct_7 rfl) rfl dX7_deed_178 ?_
            refine r_aload_n hC dX7_deed_181 rfl 0 rfl ?_
            refine r_get (ci := 7) (f := 5) (v := .int (gI σ24 200 5)) hC kX7_deed_0 rfl (by decide) rfl kX7_deed_3 fx_200 (ct_7 rfl) rfl dX7_deed_182 ?_
            refine r_iload hC dX7_deed_185 4 rfl ?_
            obtain ⟨c25, h⟩ := h
            refine r_iast hC fx_207 rfl c25 dX7_deed_187 ?_
            refine r_topm (fun σ26 qσ26 => ?_)
            replace h := h σ26 qσ26
            refine r_aload_n hC dX7_deed_188 rfl 0 rfl ?_
            refine r_get (ci := 7) (f := 10) (v := fO α (some 208)) hC kX7_deed_0 rfl (by decide) rfl kX7_deed_7 fx_200 (ct_7 rfl) rfl dX7_deed_189 ?_
            refine r_aload_n hC dX7_deed_192 rfl 0 rfl ?_
            refine r_get (ci := 7) (f := 5) (v := .int (gI σ26 200 5)) hC kX7_deed_0 rfl (by decide) rfl kX7_deed_3 fx_200 (ct_7 rfl) rfl dX7_deed_193 ?_
            refine r_iload hC dX7_deed_196 5 rfl ?_
            obtain ⟨c27, h⟩ := h
            refine r_iast hC fx_208 rfl c27 dX7_deed_198 ?_
            refine r_topm (fun σ28 qσ28 => ?_)
            replace h := h σ28 qσ28
            refine r_aload_n hC dX7_deed_199 rfl 0 rfl ?_
            refine r_dup hC fO_cat dX7_deed_200 ?_
            refine r_get (ci := 7) (f := 5) (v := .int (gI σ28 200 5)) hC kX7_deed_0 rfl (by decide) rfl kX7_deed_3 fx_200 (ct_7 rfl) rfl dX7_deed_201 ?_
            refine r_iconst (v := 1) hC dX7_deed_204 (by decide) ?_
            refine r_iadd hC dX7_deed_205 ?_
            refine r_put (ci := 7) (f := 5) (v := .int ((gI σ28 200 5) + 1)) (σ' := sI σ28 200 5 ((gI σ28 200 5) + 1)) hC kX7_deed_0 tyX7 tyX7_ok nmX7 rfl (by decide) rfl kX7_deed_3 fx_200 (ct_7 rfl) rfl rfl (Nat.le_of_ble_eq_true rfl) (pt_7_5 rfl) ct_sI dX7_deed_206 ?_
            refine r_topm (fun σ29 qσ29 => ?_)
            replace h := h σ29 qσ29
            refine r_aload_n hC dX7_deed_209 rfl 0 rfl ?_
            refine r_iload_n hC dX7_deed_210 rfl 1 rfl ?_
            refine r_iload_n hC dX7_deed_211 rfl 2 rfl ?_
            refine r_aload_n hC dX7_deed_212 rfl 0 rfl ?_
            refine r_get (ci := 7) (f := 0) (v := .int (gI σ29 200 0)) hC kX7_deed_0 rfl (by decide) rfl kX7_deed_1 fx_200 (ct_7 rfl) rfl dX7_deed_213 ?_
            refine r_calli hC [] (m_runV (n := 3) (ci := 7) hC [.int a1, .int a2, .int (gI σ29 200 0)] [] (fun sz => cm_X7_titleOf l dC dI dA α σ29 a1 a2 (gI σ29 200 0) _ h sz) gX7_deed_X7_titleOf rfl ⟨rfl, rfl⟩ (by decide +kernel) ⟨Nat.le_of_ble_eq_true rfl, Nat.le_of_ble_eq_true rfl⟩ fx_200 (ct_7 rfl) rfl rfl (Nat.le_of_ble_eq_true rfl) (by decide) dX7_deed_216) (fun x31 σ30 hn => ?_)
            clear h
            revert hn
            intro h
            subst hQ
            exact r_iret hC hA hr hlk dX7_deed_219 h
          · replace h := h.2 q
            refine r_iconst (v := 0) hC dX7_deed_145 (by decide) ?_
            subst hQ
            exact r_iret hC hA hr hlk dX7_deed_146 h
        refine r_icmp_gt (tgt := 132) hC dX7_deed_98 (by decide) (fun q => ?_) (fun q => ?_)
        · replace h := h.1 q
          refine r_lvs [0, 1, 2, 3, 4, 5, 6, 7, 8] rfl ?_
          exact KJ16 h
        · replace h := h.2 q
          refine r_iload hC dX7_deed_101 8 rfl ?_
          refine r_if_eq (tgt := 132) hC dX7_deed_103 (by decide) (fun q => ?_) (fun q => ?_)
          · replace h := h.1 q
            refine r_lvs [0, 1, 2, 3, 4, 5, 6, 7, 8] rfl ?_
            exact KJ16 h
          · replace h := h.2 q
            refine r_aload_n hC dX7_deed_106 rfl 0 rfl ?_
            refine r_iload_n hC dX7_deed_107 rfl 1 rfl ?_
            refine r_iload_n hC dX7_deed_108 rfl 2 rfl ?_
            refine r_iload hC dX7_deed_109 9 rfl ?_
            refine r_calli hC [] (m_runV (n := 3) (ci := 7) hC [.int a1, .int a2, .int x13] [] (fun sz => cm_X7_titleOf l dC dI dA α σ11 a1 a2 x13 _ h sz) gX7_deed_X7_titleOf rfl ⟨rfl, rfl⟩ (by decide +kernel) ⟨Nat.le_of_ble_eq_true rfl, Nat.le_of_ble_eq_true rfl⟩ fx_200 (ct_7 rfl) rfl rfl (Nat.le_of_ble_eq_true rfl) (by decide) dX7_deed_111) (fun x33 σ32 hn => ?_)
            clear h
            revert hn
            intro h
            refine r_iload hC dX7_deed_114 4 rfl ?_
            obtain ⟨J35, hJ35, h⟩ := h
            have KJ35 : ∀ (x34 : Int32), J35 x34 → G p l e ({ frames := 2, cells := 0, slots := 0, locals := 43 } : Room) s m args below meth c 0 0 Q dC dI dA Fm α A 10 σ32 124 [(0, fO α (some 200)), (1, .int a1), (2, .int a2), (3, .int a3), (4, .int a4), (5, .int a5), (6, .int x4), (7, .int x7), (9, .int x13)] [.int x34] := by
              clear h
              intro x34 h
              replace h := hJ35 x34 h
              refine r_istore (lv' := [(8, .int x34), (0, fO α (some 200)), (1, .int a1), (2, .int a2), (3, .int a3), (4, .int a4), (5, .int a5), (6, .int x4), (7, .int x7), (9, .int x13)]) hC dX7_deed_124 (by decide) rfl ?_
              obtain ⟨x36, qx36⟩ : ∃ z : Int32, z = x13 + 1 := ⟨_, rfl⟩
              replace h := h x36 qx36
              refine r_iinc (v := x36) (lv' := [(9, .int x36), (8, .int x34), (0, fO α (some 200)), (1, .int a1), (2, .int a2), (3, .int a3), (4, .int a4), (5, .int a5), (6, .int x4), (7, .int x7)]) hC dX7_deed_126 (k := 9) rfl (by rw [qx36]; rfl) (by decide) rfl ?_
              refine r_goto (tgt := 92) hC dX7_deed_129 (by decide) ?_
              refine r_lvs [2, 3, 4, 5, 6, 7, 8, 9, 1, 0] rfl ?_
              exact hR14 _ h
            refine r_icmp_lt (tgt := 123) hC dX7_deed_116 (by decide) (fun q => ?_) (fun q => ?_)
            · replace h := h.1 q
              refine r_iconst (v := 0) hC dX7_deed_123 (by decide) ?_
              refine r_lvs [0, 1, 2, 3, 4, 5, 6, 7, 9] rfl ?_
              exact KJ35 0 h
            · replace h := h.2 q
              refine r_iconst (v := 1) hC dX7_deed_119 (by decide) ?_
              refine r_goto (tgt := 124) hC dX7_deed_120 (by decide) ?_
              refine r_lvs [0, 1, 2, 3, 4, 5, 6, 7, 9] rfl ?_
              exact KJ35 1 h
      obtain ⟨J37, hJ37, h⟩ := h
      have KJ37 : J37 → G p l e ({ frames := 2, cells := 0, slots := 0, locals := 43 } : Room) s m args below meth c 0 0 Q dC dI dA Fm α A 10 σ6 85 [(0, fO α (some 200)), (1, .int a1), (2, .int a2), (3, .int a3), (4, .int a4), (5, .int a5), (6, .int x4), (7, .int x7)] [] := by
        clear h
        intro h
        replace h := hJ37 h
        refine r_iconst (v := 0) hC dX7_deed_85 (by decide) ?_
        exact KJ10 0 h
      refine r_if_eq (tgt := 85) hC dX7_deed_64 (by decide) (fun q => ?_) (fun q => ?_)
      · replace h := h.1 q
        refine r_lvs [1, 2, 3, 4, 5, 6, 7, 0] rfl ?_
        exact KJ37 h
      · replace h := h.2 q
        refine r_iload hC dX7_deed_67 0 rfl ?_
        refine r_if_eq (tgt := 85) hC dX7_deed_69 (by decide) (fun q => ?_) (fun q => ?_)
        · replace h := h.1 q
          refine r_lvs [1, 2, 3, 4, 5, 6, 7, 0] rfl ?_
          exact KJ37 h
        · replace h := h.2 q
          refine r_aload_n hC dX7_deed_72 rfl 1 rfl ?_
          refine r_get (ci := 7) (f := 5) (v := .int (gI σ6 200 5)) hC kX7_deed_0 rfl (by decide) rfl kX7_deed_3 fx_200 (ct_7 rfl) rfl dX7_deed_73 ?_
          refine r_bipush (v := 40) hC dX7_deed_76 (by decide) ?_
          refine r_icmp_ge (tgt := 85) hC dX7_deed_78 (by decide) (fun q => ?_) (fun q => ?_)
          · replace h := h.1 q
            refine r_lvs [1, 2, 3, 4, 5, 6, 7, 0] rfl ?_
            exact KJ37 h
          · replace h := h.2 q
            refine r_iconst (v := 1) hC dX7_deed_81 (by decide) ?_
            refine r_goto (tgt := 86) hC dX7_deed_82 (by decide) ?_
            refine r_lvs [1, 2, 3, 4, 5, 6, 7, 0] rfl ?_
            exact KJ10 1 h
    obtain ⟨J39, hJ39, h⟩ := h
    have KJ39 : ∀ (σ38 : Mm), J39 σ38 → G p l e ({ frames := 2, cells := 0, slots := 0, locals := 43 } : Room) s m args below meth c 0 0 Q dC dI dA Fm α A 10 σ38 59 [(0, fO α (some 200)), (1, .int a1), (2, .int a2), (3, .int a3), (4, .int a4), (5, .int a5), (6, .int x4)] [] := by
      clear h
      intro σ38 h
      replace h := hJ39 σ38 h
      refine r_iconst (v := 0) hC dX7_deed_59 (by decide) ?_
      exact KJ8 σ38 0 h
    refine r_icmp_eq (tgt := 59) hC dX7_deed_40 (by decide) (fun q => ?_) (fun q => ?_)
    · replace h := h.1 q
      refine r_lvs [1, 2, 3, 4, 5, 6, 0] rfl ?_
      exact KJ39 σ3 h
    · replace h := h.2 q
      refine r_iload hC dX7_deed_43 5 rfl ?_
      refine r_iconst (v := 1) hC dX7_deed_45 (by decide) ?_
      refine r_sipush (v := 10000) hC dX7_deed_46 (by decide) ?_
      refine r_calli hC [] (m_runS (n := 3) hC [.int a4, .int 1, .int 10000] [] (fun sz => cm_X7_isBetween l dC dI dA α σ3 a4 1 10000 _ h sz) gX7_deed_X7_isBetween rfl ⟨rfl, rfl⟩ (by decide +kernel) ⟨Nat.le_of_ble_eq_true rfl, Nat.le_of_ble_eq_true rfl⟩ rfl (Nat.le_of_ble_eq_true rfl) (by decide) dX7_deed_49) (fun x41 σ40 hn => ?_)
      clear h
      revert hn
      intro h
      refine r_if_eq (tgt := 59) hC dX7_deed_52 (by decide) (fun q => ?_) (fun q => ?_)
      · replace h := h.1 q
        refine r_lvs [1, 2, 3, 4, 5, 6, 0] rfl ?_
        exact KJ39 σ40 h
      · replace h := h.2 q
        refine r_iconst (v := 1) hC dX7_deed_55 (by decide) ?_
        refine r_goto (tgt := 60) hC dX7_deed_56 (by decide) ?_
        refine r_lvs [1, 2, 3, 4, 5, 6, 0] rfl ?_
        exact KJ8 σ40 1 h
  obtain ⟨J43, hJ43, h⟩ := h
  have KJ43 : ∀ (σ42 : Mm), J43 σ42 → G p l e ({ frames := 2, cells := 0, slots := 0, locals := 43 } : Room) s m args below meth c 0 0 Q dC dI dA Fm α A 10 σ42 35 [(0, fO α (some 200)), (1, .int a1), (2, .int a2), (3, .int a3), (4, .int a4), (5, .int a5)] [] := by
    clear h
    intro σ42 h
    replace h := hJ43 σ42 h
    refine r_iconst (v := 0) hC dX7_deed_35 (by decide) ?_
    exact KJ5 σ42 0 h
  refine r_if_eq (tgt := 35) hC dX7_deed_5 (by decide) (fun q => ?_) (fun q => ?_)
  · replace h := h.1 q
    exact KJ43 σ1 h
  · replace h := h.2 q
    refine r_iload_n hC dX7_deed_8 rfl 2 rfl ?_
    refine r_calli hC [] (m_runS (n := 1) hC [.int a2] [] (fun sz => cm_X7_isOwner l dC dI dA α σ1 a2 _ h sz) gX7_deed_X7_isOwner rfl ⟨rfl, rfl⟩ (by decide +kernel) ⟨Nat.le_of_ble_eq_true rfl, Nat.le_of_ble_eq_true rfl⟩ rfl (Nat.le_of_ble_eq_true rfl) (by decide) dX7_deed_9) (fun x45 σ44 hn => ?_)
    clear h
    revert hn
    intro h
    refine r_if_eq (tgt := 35) hC dX7_deed_12 (by decide) (fun q => ?_) (fun q => ?_)
    · replace h := h.1 q
      exact KJ43 σ44 h
    · replace h := h.2 q
      refine r_iload_n hC dX7_deed_15 rfl 3 rfl ?_
      refine r_calli hC [] (m_runS (n := 1) hC [.int a3] [] (fun sz => cm_X7_isOwner l dC dI dA α σ44 a3 _ h sz) gX7_deed_X7_isOwner rfl ⟨rfl, rfl⟩ (by decide +kernel) ⟨Nat.le_of_ble_eq_true rfl, Nat.le_of_ble_eq_true rfl⟩ rfl (Nat.le_of_ble_eq_true rfl) (by decide) dX7_deed_16) (fun x47 σ46 hn => ?_)
      clear h
      revert hn
      intro h
      refine r_if_eq (tgt := 35) hC dX7_deed_19 (by decide) (fun q => ?_) (fun q => ?_)
      · replace h := h.1 q
        exact KJ43 σ46 h
      · replace h := h.2 q
        refine r_aload_n hC dX7_deed_22 rfl 0 rfl ?_
        refine r_iload hC dX7_deed_23 5 rfl ?_
        refine r_calli hC [] (m_runV (n := 1) (ci := 7) hC [.int a5] [] (fun sz => cm_X7_isMonth l dC dI dA α σ46 a5 _ h sz) gX7_deed_X7_isMonth rfl ⟨rfl, rfl⟩ (by decide +kernel) ⟨Nat.le_of_ble_eq_true rfl, Nat.le_of_ble_eq_true rfl⟩ fx_200 (ct_7 rfl) rfl rfl (Nat.le_of_ble_eq_true rfl) (by decide) dX7_deed_25) (fun x49 σ48 hn => ?_)
        clear h
        revert hn
        intro h
        refine r_if_eq (tgt := 35) hC dX7_deed_28 (by decide) (fun q => ?_) (fun q => ?_)
        · replace h := h.1 q
          exact KJ43 σ48 h
        · replace h := h.2 q
          refine r_iconst (v := 1) hC dX7_deed_31 (by decide) ?_
          refine r_goto (tgt := 36) hC dX7_deed_32 (by decide) ?_
          exact KJ5 σ48 1 h
set_option maxHeartbeats 4000000 in
set_option maxRecDepth 100000 in
theorem cm_X7_title (l : Launch) (dC : Nat → ClassId) (dI : Nat → Nat → Nat) (dA : Nat → ClassId) (α : Nat → Nat) (σ : Mm) (a1 : Int32) (a2 : Int32) (a3 : Int32) (Qm : Int32 → Mm → Prop) (h : wp_X7_title σ a1 a2 a3 Qm) (sz : Nat) : Met l yX7_title wsX7_title ({ frames := 2, cells := 0, slots := 0, locals := 43 } : Room) (cP dC dI dA Fm α σ sz [fO α (some 200), .int a1, .int a2, .int a3]) (va_Qi Qm (cB dC dI dA Fm α (wl dA Fm α σ) sz) (va_A (wl dA Fm α σ) sz)) 0 0 (va_A (wl dA Fm α σ) sz) := by
  refine m_start (own := RX7) (lv := [(0, fO α (some 200)), (1, .int a1), (2, .int a2), (3, .int a3)]) (by decide) rfl rfl (by simp only [lgl_O, lgl_I, lgl_J, lgl_N]; decide) (by simp only [lva_O, lva_I, lva_J, lva_N]) ?_
  intro p e s m below meth c hsz hC hr hlk
  generalize hA : va_A (wl dA Fm α σ) sz = A at hC ⊢
  have hA := hA.symm
  generalize hargs : ([fO α (some 200), .int a1, .int a2, .int a3] : List Value).toArray = args at hC ⊢
  generalize hQ : MQ below _ args s 0 0 A = Q
  unfold wp_X7_title at h
  refine r_aload_n hC dX7_title_0 rfl 0 rfl ?_
  refine r_aload_n hC dX7_title_1 rfl 0 rfl ?_
  refine r_iload_n hC dX7_title_2 rfl 1 rfl ?_
  refine r_calli hC [fO α (some 200)] (m_runV (n := 1) (ci := 7) hC [.int a1] [fO α (some 200)] (fun sz => cm_X7_isTract l dC dI dA α σ a1 _ h sz) gX7_title_X7_isTract rfl ⟨rfl, rfl⟩ (by decide +kernel) ⟨Nat.le_of_ble_eq_true rfl, Nat.le_of_ble_eq_true rfl⟩ fx_200 (ct_7 rfl) rfl rfl (Nat.le_of_ble_eq_true rfl) (by decide) dX7_title_3) (fun x2 σ1 hn => ?_)
  clear h
  revert hn
  intro h
  obtain ⟨J5, hJ5, h⟩ := h
  have KJ5 : ∀ (σ3 : Mm) (x4 : Int32), J5 σ3 x4 → G p l e ({ frames := 2, cells := 0, slots := 0, locals := 43 } : Room) s m args below meth c 0 0 Q dC dI dA Fm α A 4 σ3 29 [(0, fO α (some 200)), (1, .int a1), (2, .int a2), (3, .int a3)] [.int x4, fO α (some 200)] := by
    clear h
    intro σ3 x4 h
    replace h := hJ5 σ3 x4 h
    refine r_iconst (v := 1) hC dX7_title_29 (by decide) ?_
    refine r_iconst (v := 1) hC dX7_title_30 (by decide) ?_
    refine r_calli hC [] (m_runV (n := 3) (ci := 7) hC [.int x4, .int 1, .int 1] [] (fun sz => cm_X7_goes l dC dI dA α σ3 x4 1 1 _ h sz) gX7_title_X7_goes rfl ⟨rfl, rfl⟩ (by decide +kernel) ⟨Nat.le_of_ble_eq_true rfl, Nat.le_of_ble_eq_true rfl⟩ fx_200 (ct_7 rfl) rfl rfl (Nat.le_of_ble_eq_true rfl) (by decide) dX7_title_31) (fun x7 σ6 hn => ?_)
    clear h
    revert hn
    intro h
    refine r_if_ne (tgt := 39) hC dX7_title_34 (by decide) (fun q => ?_) (fun q => ?_)
    · replace h := h.1 q
      refine r_aload_n hC dX7_title_39 rfl 0 rfl ?_
      refine r_iload_n hC dX7_title_40 rfl 1 rfl ?_
      refine r_iload_n hC dX7_title_41 rfl 2 rfl ?_
      refine r_iload_n hC dX7_title_42 rfl 3 rfl ?_
      refine r_calli hC [] (m_runV (n := 3) (ci := 7) hC [.int a1, .int a2, .int a3] [] (fun sz => cm_X7_titleOf l dC dI dA α σ6 a1 a2 a3 _ h sz) gX7_title_X7_titleOf rfl ⟨rfl, rfl⟩ (by decide +kernel) ⟨Nat.le_of_ble_eq_true rfl, Nat.le_of_ble_eq_true rfl⟩ fx_200 (ct_7 rfl) rfl rfl (Nat.le_of_ble_eq_true rfl) (by decide) dX7_title_43) (fun x9 σ8 hn => ?_)
      clear h
      revert hn
      intro h
      subst hQ
      exact r_iret hC hA hr hlk dX7_title_46 h
    · replace h := h.2 q
      refine r_iconst (v := 0) hC dX7_title_37 (by decide) ?_
      subst hQ
      exact r_iret hC hA hr hlk dX7_title_38 h
  obtain ⟨J11, hJ11, h⟩ := h
  have KJ11 : ∀ (σ10 : Mm), J11 σ10 → G p l e ({ frames := 2, cells := 0, slots := 0, locals := 43 } : Room) s m args below meth c 0 0 Q dC dI dA Fm α A 4 σ10 28 [(0, fO α (some 200)), (1, .int a1), (2, .int a2), (3, .int a3)] [fO α (some 200)] := by
    clear h
    intro σ10 h
    replace h := hJ11 σ10 h
    refine r_iconst (v := 0) hC dX7_title_28 (by decide) ?_
    exact KJ5 σ10 0 h
  refine r_if_eq (tgt := 28) hC dX7_title_6 (by decide) (fun q => ?_) (fun q => ?_)
  · replace h := h.1 q
    exact KJ11 σ1 h
  · replace h := h.2 q
    refine r_iload_n hC dX7_title_9 rfl 2 rfl ?_
    refine r_calli hC [fO α (some 200)] (m_runS (n := 1) hC [.int a2] [fO α (some 200)] (fun sz => cm_X7_isOwner l dC dI dA α σ1 a2 _ h sz) gX7_title_X7_isOwner rfl ⟨rfl, rfl⟩ (by decide +kernel) ⟨Nat.le_of_ble_eq_true rfl, Nat.le_of_ble_eq_true rfl⟩ rfl (Nat.le_of_ble_eq_true rfl) (by decide) dX7_title_10) (fun x13 σ12 hn => ?_)
    clear h
    revert hn
    intro h
    refine r_if_eq (tgt := 28) hC dX7_title_13 (by decide) (fun q => ?_) (fun q => ?_)
    · replace h := h.1 q
      exact KJ11 σ12 h
    · replace h := h.2 q
      refine r_aload_n hC dX7_title_16 rfl 0 rfl ?_
      refine r_iload_n hC dX7_title_17 rfl 3 rfl ?_
      refine r_calli hC [fO α (some 200)] (m_runV (n := 1) (ci := 7) hC [.int a3] [fO α (some 200)] (fun sz => cm_X7_isMonth l dC dI dA α σ12 a3 _ h sz) gX7_title_X7_isMonth rfl ⟨rfl, rfl⟩ (by decide +kernel) ⟨Nat.le_of_ble_eq_true rfl, Nat.le_of_ble_eq_true rfl⟩ fx_200 (ct_7 rfl) rfl rfl (Nat.le_of_ble_eq_true rfl) (by decide) dX7_title_18) (fun x15 σ14 hn => ?_)
      clear h
      revert hn
      intro h
      refine r_if_eq (tgt := 28) hC dX7_title_21 (by decide) (fun q => ?_) (fun q => ?_)
      · replace h := h.1 q
        exact KJ11 σ14 h
      · replace h := h.2 q
        refine r_iconst (v := 1) hC dX7_title_24 (by decide) ?_
        refine r_goto (tgt := 29) hC dX7_title_25 (by decide) ?_
        exact KJ5 σ14 1 h
theorem kX7_lease_0 : ∀ w ∈ u_ws RX7 TX7 40, w ∈ wsX7_lease := by decide +kernel
theorem kX7_lease_1 : (Cond.fieldLink RX7 149 "DivisionorderModel" "leases" "I") ∈ wsX7_lease := by decide +kernel
theorem kX7_lease_2 : (Cond.fieldLink RX7 34 "DivisionorderModel" "leaseTract" "[I") ∈ wsX7_lease := by decide +kernel
theorem kX7_lease_3 : (Cond.fieldLink RX7 37 "DivisionorderModel" "lessor" "[I") ∈ wsX7_lease := by decide +kernel
theorem kX7_lease_4 : (Cond.fieldLink RX7 40 "DivisionorderModel" "lessee" "[I") ∈ wsX7_lease := by decide +kernel
theorem kX7_lease_5 : (Cond.fieldLink RX7 43 "DivisionorderModel" "royalty" "[I") ∈ wsX7_lease := by decide +kernel
theorem kX7_lease_6 : (Cond.fieldLink RX7 46 "DivisionorderModel" "leaseMonth" "[I") ∈ wsX7_lease := by decide +kernel
theorem kX7_lease_7 : (Cond.fieldLink RX7 122 "DivisionorderModel" "now" "I") ∈ wsX7_lease := by decide +kernel
theorem kX7_lease_8 : (Cond.fieldLink RX7 49 "DivisionorderModel" "term" "[I") ∈ wsX7_lease := by decide +kernel
set_option maxHeartbeats 4000000 in
set_option maxRecDepth 100000 in
theorem cm_X7_lease (l : Launch) (dC : Nat → ClassId) (dI : Nat → Nat → Nat) (dA : Nat → ClassId) (α : Nat → Nat) (σ : Mm) (a1 : Int32) (a2 : Int32) (a3 : Int32) (a4 : Int32) (a5 : Int32) (Qm : Int32 → Mm → Prop) (h : wp_X7_lease σ a1 a2 a3 a4 a5 Qm) (sz : Nat) : Met l yX7_lease wsX7_lease ({ frames := 2, cells := 0, slots := 0, locals := 43 } : Room) (cP dC dI dA Fm α σ sz [fO α (some 200), .int a1, .int a2, .int a3, .int a4, .int a5]) (va_Qi Qm (cB dC dI dA Fm α (wl dA Fm α σ) sz) (va_A (wl dA Fm α σ) sz)) 0 0 (va_A (wl dA Fm α σ) sz) := by
  refine m_start (own := RX7) (lv := [(0, fO α (some 200)), (1, .int a1), (2, .int a2), (3, .int a3), (4, .int a4), (5, .int a5)]) (by decide) rfl rfl (by simp only [lgl_O, lgl_I, lgl_J, lgl_N]; decide) (by simp only [lva_O, lva_I, lva_J, lva_N]) ?_
  intro p e s m below meth c hsz hC hr hlk
  generalize hA : va_A (wl dA Fm α σ) sz = A at hC ⊢
  have hA := hA.symm
  generalize hargs : ([fO α (some 200), .int a1, .int a2, .int a3, .int a4, .int a5] : List Value).toArray = args at hC ⊢
  generalize hQ : MQ below _ args s 0 0 A = Q
  unfold wp_X7_lease at h
  refine r_aload_n hC dX7_lease_0 rfl 0 rfl ?_
  refine r_iload_n hC dX7_lease_1 rfl 1 rfl ?_
  refine r_calli hC [] (m_runV (n := 1) (ci := 7) hC [.int a1] [] (fun sz => cm_X7_isTract l dC dI dA α σ a1 _ h sz) gX7_lease_X7_isTract rfl ⟨rfl, rfl⟩ (by decide +kernel) ⟨Nat.le_of_ble_eq_true rfl, Nat.le_of_ble_eq_true rfl⟩ fx_200 (ct_7 rfl) rfl rfl (Nat.le_of_ble_eq_true rfl) (by decide) dX7_lease_2) (fun x2 σ1 hn => ?_)
  clear h
  revert hn
  intro h
  obtain ⟨J5, hJ5, h⟩ := h
  have KJ5 : ∀ (σ3 : Mm) (x4 : Int32), J5 σ3 x4 → G p l e ({ frames := 2, cells := 0, slots := 0, locals := 43 } : Room) s m args below meth c 0 0 Q dC dI dA Fm α A 7 σ3 27 [(0, fO α (some 200)), (1, .int a1), (2, .int a2), (3, .int a3), (4, .int a4), (5, .int a5)] [.int x4] := by
    clear h
    intro σ3 x4 h
    replace h := hJ5 σ3 x4 h
    refine r_istore (lv' := [(6, .int x4), (0, fO α (some 200)), (1, .int a1), (2, .int a2), (3, .int a3), (4, .int a4), (5, .int a5)]) hC dX7_lease_27 (by decide) rfl ?_
    refine r_aload_n hC dX7_lease_29 rfl 1 rfl ?_
    refine r_iload hC dX7_lease_30 0 rfl ?_
    refine r_iload_n hC dX7_lease_32 rfl 3 rfl ?_
    refine r_iload_n hC dX7_lease_33 rfl 4 rfl ?_
    obtain ⟨J8, hJ8, h⟩ := h
    have KJ8 : ∀ (σ6 : Mm) (x7 : Int32), J8 σ6 x7 → G p l e ({ frames := 2, cells := 0, slots := 0, locals := 43 } : Room) s m args below meth c 0 0 Q dC dI dA Fm α A 7 σ6 65 [(0, fO α (some 200)), (1, .int a1), (2, .int a2), (3, .int a3), (4, .int a4), (5, .int a5)] [.int x7, .int x4, fO α (some 200)] := by
      clear h
      intro σ6 x7 h
      replace h := hJ8 σ6 x7 h
      refine r_aload_n hC dX7_lease_65 rfl 0 rfl ?_
      refine r_get (ci := 7) (f := 11) (v := .int (gI σ6 200 11)) hC kX7_lease_0 rfl (by decide) rfl kX7_lease_1 fx_200 (ct_7 rfl) rfl dX7_lease_66 ?_
      refine r_bipush (v := 16) hC dX7_lease_69 (by decide) ?_
      obtain ⟨J10, hJ10, h⟩ := h
      have KJ10 : ∀ (x9 : Int32), J10 x9 → G p l e ({ frames := 2, cells := 0, slots := 0, locals := 43 } : Room) s m args below meth c 0 0 Q dC dI dA Fm α A 7 σ6 79 [(0, fO α (some 200)), (1, .int a1), (2, .int a2), (3, .int a3), (4, .int a4), (5, .int a5)] [.int x9, .int x7, .int x4, fO α (some 200)] := by
        clear h
        intro x9 h
        replace h := hJ10 x9 h
        refine r_calli hC [] (m_runV (n := 3) (ci := 7) hC [.int x4, .int x7, .int x9] [] (fun sz => cm_X7_goes l dC dI dA α σ6 x4 x7 x9 _ h sz) gX7_lease_X7_goes rfl ⟨rfl, rfl⟩ (by decide +kernel) ⟨Nat.le_of_ble_eq_true rfl, Nat.le_of_ble_eq_true rfl⟩ fx_200 (ct_7 rfl) rfl rfl (Nat.le_of_ble_eq_true rfl) (by decide) dX7_lease_79) (fun x12 σ11 hn => ?_)
        clear h
        revert hn
        intro h
        refine r_if_ne (tgt := 87) hC dX7_lease_82 (by decide) (fun q => ?_) (fun q => ?_)
        · replace h := h.1 q
          refine r_aload_n hC dX7_lease_87 rfl 0 rfl ?_
          refine r_get (ci := 7) (f := 12) (v := fO α (some 209)) hC kX7_lease_0 rfl (by decide) rfl kX7_lease_2 fx_200 (ct_7 rfl) rfl dX7_lease_88 ?_
          refine r_aload_n hC dX7_lease_91 rfl 0 rfl ?_
          refine r_get (ci := 7) (f := 11) (v := .int (gI σ11 200 11)) hC kX7_lease_0 rfl (by decide) rfl kX7_lease_1 fx_200 (ct_7 rfl) rfl dX7_lease_92 ?_
          refine r_iload_n hC dX7_lease_95 rfl 1 rfl ?_
          obtain ⟨c13, h⟩ := h
          refine r_iast hC fx_209 rfl c13 dX7_lease_96 ?_
          refine r_topm (fun σ14 qσ14 => ?_)
          replace h := h σ14 qσ14
          refine r_aload_n hC dX7_lease_97 rfl 0 rfl ?_
          refine r_get (ci := 7) (f := 13) (v := fO α (some 210)) hC kX7_lease_0 rfl (by decide) rfl kX7_lease_3 fx_200 (ct_7 rfl) rfl dX7_lease_98 ?_
          refine r_aload_n hC dX7_lease_101 rfl 0 rfl ?_
          refine r_get (ci := 7) (f := 11) (v := .int (gI σ14 200 11)) hC kX7_lease_0 rfl (by decide) rfl kX7_lease_1 fx_200 (ct_7 rfl) rfl dX7_lease_102 ?_
          refine r_iload_n hC dX7_lease_105 rfl 2 rfl ?_
          obtain ⟨c15, h⟩ := h
          refine r_iast hC fx_210 rfl c15 dX7_lease_106 ?_
          refine r_topm (fun σ16 qσ16 => ?_)
          replace h := h σ16 qσ16
          refine r_aload_n hC dX7_lease_107 rfl 0 rfl ?_
          refine r_get (ci := 7) (f := 14) (v := fO α (some 211)) hC kX7_lease_0 rfl (by decide) rfl kX7_lease_4 fx_200 (ct_7 rfl) rfl dX7_lease_108 ?_
          refine r_aload_n hC dX7_lease_111 rfl 0 rfl ?_
          refine r_get (ci := 7) (f := 11) (v := .int (gI σ16 200 11)) hC kX7_lease_0 rfl (by decide) rfl kX7_lease_1 fx_200 (ct_7 rfl) rfl dX7_lease_112 ?_
          refine r_iload_n hC dX7_lease_115 rfl 3 rfl ?_
          obtain ⟨c17, h⟩ := h
          refine r_iast hC fx_211 rfl c17 dX7_lease_116 ?_
          refine r_topm (fun σ18 qσ18 => ?_)
          replace h := h σ18 qσ18
          refine r_aload_n hC dX7_lease_117 rfl 0 rfl ?_
          refine r_get (ci := 7) (f := 15) (v := fO α (some 212)) hC kX7_lease_0 rfl (by decide) rfl kX7_lease_5 fx_200 (ct_7 rfl) rfl dX7_lease_118 ?_
          refine r_aload_n hC dX7_lease_121 rfl 0 rfl ?_
          refine r_get (ci := 7) (f := 11) (v := .int (gI σ18 200 11)) hC kX7_lease_0 rfl (by decide) rfl kX7_lease_1 fx_200 (ct_7 rfl) rfl dX7_lease_122 ?_
          refine r_iload hC dX7_lease_125 4 rfl ?_
          obtain ⟨c19, h⟩ := h
          refine r_iast hC fx_212 rfl c19 dX7_lease_127 ?_
          refine r_topm (fun σ20 qσ20 => ?_)
          replace h := h σ20 qσ20
          refine r_aload_n hC dX7_lease_128 rfl 0 rfl ?_
          refine r_get (ci := 7) (f := 16) (v := fO α (some 213)) hC kX7_lease_0 rfl (by decide) rfl kX7_lease_6 fx_200 (ct_7 rfl) rfl dX7_lease_129 ?_
          refine r_aload_n hC dX7_lease_132 rfl 0 rfl ?_
          refine r_get (ci := 7) (f := 11) (v := .int (gI σ20 200 11)) hC kX7_lease_0 rfl (by decide) rfl kX7_lease_1 fx_200 (ct_7 rfl) rfl dX7_lease_133 ?_
          refine r_aload_n hC dX7_lease_136 rfl 0 rfl ?_
          refine r_get (ci := 7) (f := 0) (v := .int (gI σ20 200 0)) hC kX7_lease_0 rfl (by decide) rfl kX7_lease_7 fx_200 (ct_7 rfl) rfl dX7_lease_137 ?_
          obtain ⟨c21, h⟩ := h
          refine r_iast hC fx_213 rfl c21 dX7_lease_140 ?_
          refine r_topm (fun σ22 qσ22 => ?_)
          replace h := h σ22 qσ22
          refine r_aload_n hC dX7_lease_141 rfl 0 rfl ?_
          refine r_get (ci := 7) (f := 17) (v := fO α (some 214)) hC kX7_lease_0 rfl (by decide) rfl kX7_lease_8 fx_200 (ct_7 rfl) rfl dX7_lease_142 ?_
          refine r_aload_n hC dX7_lease_145 rfl 0 rfl ?_
          refine r_get (ci := 7) (f := 11) (v := .int (gI σ22 200 11)) hC kX7_lease_0 rfl (by decide) rfl kX7_lease_1 fx_200 (ct_7 rfl) rfl dX7_lease_146 ?_
          refine r_iload hC dX7_lease_149 5 rfl ?_
          obtain ⟨c23, h⟩ := h
          refine r_iast hC fx_214 rfl c23 dX7_lease_151 ?_
          refine r_topm (fun σ24 qσ24 => ?_)
          replace h := h σ24 qσ24
          refine r_aload_n hC dX7_lease_152 rfl 0 rfl ?_
          refine r_dup hC fO_cat dX7_lease_153 ?_
          refine r_get (ci := 7) (f := 11) (v := .int (gI σ24 200 11)) hC kX7_lease_0 rfl (by decide) rfl kX7_lease_1 fx_200 (ct_7 rfl) rfl dX7_lease_154 ?_
          refine r_iconst (v := 1) hC dX7_lease_157 (by decide) ?_
          refine r_iadd hC dX7_lease_158 ?_
          refine r_put (ci := 7) (f := 11) (v := .int ((gI σ24 200 11) + 1)) (σ' := sI σ24 200 11 ((gI σ24 200 11) + 1)) hC kX7_lease_0 tyX7 tyX7_ok nmX7 rfl (by decide) rfl kX7_lease_1 fx_200 (ct_7 rfl) rfl rfl (Nat.le_of_ble_eq_true rfl) (pt_7_11 rfl) ct_sI dX7_lease_159 ?_
          refine r_topm (fun σ25 qσ25 => ?_)
          replace h := h σ25 qσ25
          refine r_aload_n hC dX7_lease_162 rfl 0 rfl ?_
          refine r_get (ci := 7) (f := 11) (v := .int (gI σ25 200 11)) hC kX7_lease_0 rfl (by decide) rfl kX7_lease_1 fx_200 (ct_7 rfl) rfl dX7_lease_163 ?_
          refine r_iconst (v := 1) hC dX7_lease_166 (by decide) ?_
          refine r_isub hC dX7_lease_167 ?_
          subst hQ
          exact r_iret hC hA hr hlk dX7_lease_168 h
        · replace h := h.2 q
          refine r_iconst (v := 0) hC dX7_lease_85 (by decide) ?_
          subst hQ
          exact r_iret hC hA hr hlk dX7_lease_86 h
      refine r_icmp_ge (tgt := 78) hC dX7_lease_71 (by decide) (fun q => ?_) (fun q => ?_)
      · replace h := h.1 q
        refine r_iconst (v := 0) hC dX7_lease_78 (by decide) ?_
        exact KJ10 0 h
      · replace h := h.2 q
        refine r_iconst (v := 1) hC dX7_lease_74 (by decide) ?_
        refine r_goto (tgt := 79) hC dX7_lease_75 (by decide) ?_
        exact KJ10 1 h
    obtain ⟨J27, hJ27, h⟩ := h
    have KJ27 : ∀ (σ26 : Mm), J27 σ26 → G p l e ({ frames := 2, cells := 0, slots := 0, locals := 43 } : Room) s m args below meth c 0 0 Q dC dI dA Fm α A 7 σ26 64 [(0, fO α (some 200)), (1, .int a1), (2, .int a2), (3, .int a3), (4, .int a4), (5, .int a5)] [.int x4, fO α (some 200)] := by
      clear h
      intro σ26 h
      replace h := hJ27 σ26 h
      refine r_iconst (v := 0) hC dX7_lease_64 (by decide) ?_
      exact KJ8 σ26 0 h
    refine r_icmp_eq (tgt := 64) hC dX7_lease_34 (by decide) (fun q => ?_) (fun q => ?_)
    · replace h := h.1 q
      refine r_lvs [1, 2, 3, 4, 5, 6] rfl ?_
      exact KJ27 σ3 h
    · replace h := h.2 q
      refine r_iload hC dX7_lease_37 5 rfl ?_
      refine r_iconst (v := 0) hC dX7_lease_39 (by decide) ?_
      refine r_sipush (v := 500) hC dX7_lease_40 (by decide) ?_
      refine r_calli hC [.int x4, fO α (some 200)] (m_runS (n := 3) hC [.int a4, .int 0, .int 500] [.int x4, fO α (some 200)] (fun sz => cm_X7_isBetween l dC dI dA α σ3 a4 0 500 _ h sz) gX7_lease_X7_isBetween rfl ⟨rfl, rfl⟩ (by decide +kernel) ⟨Nat.le_of_ble_eq_true rfl, Nat.le_of_ble_eq_true rfl⟩ rfl (Nat.le_of_ble_eq_true rfl) (by decide) dX7_lease_43) (fun x29 σ28 hn => ?_)
      clear h
      revert hn
      intro h
      refine r_if_eq (tgt := 64) hC dX7_lease_46 (by decide) (fun q => ?_) (fun q => ?_)
      · replace h := h.1 q
        refine r_lvs [1, 2, 3, 4, 5, 6] rfl ?_
        exact KJ27 σ28 h
      · replace h := h.2 q
        refine r_iload hC dX7_lease_49 6 rfl ?_
        refine r_iconst (v := 1) hC dX7_lease_51 (by decide) ?_
        refine r_bipush (v := 36) hC dX7_lease_52 (by decide) ?_
        refine r_calli hC [.int x4, fO α (some 200)] (m_runS (n := 3) hC [.int a5, .int 1, .int 36] [.int x4, fO α (some 200)] (fun sz => cm_X7_isBetween l dC dI dA α σ28 a5 1 36 _ h sz) gX7_lease_X7_isBetween rfl ⟨rfl, rfl⟩ (by decide +kernel) ⟨Nat.le_of_ble_eq_true rfl, Nat.le_of_ble_eq_true rfl⟩ rfl (Nat.le_of_ble_eq_true rfl) (by decide) dX7_lease_54) (fun x31 σ30 hn => ?_)
        clear h
        revert hn
        intro h
        refine r_if_eq (tgt := 64) hC dX7_lease_57 (by decide) (fun q => ?_) (fun q => ?_)
        · replace h := h.1 q
          refine r_lvs [1, 2, 3, 4, 5, 6] rfl ?_
          exact KJ27 σ30 h
        · replace h := h.2 q
          refine r_iconst (v := 1) hC dX7_lease_60 (by decide) ?_
          refine r_goto (tgt := 65) hC dX7_lease_61 (by decide) ?_
          refine r_lvs [1, 2, 3, 4, 5, 6] rfl ?_
          exact KJ8 σ30 1 h
  obtain ⟨J33, hJ33, h⟩ := h
  have KJ33 : ∀ (σ32 : Mm), J33 σ32 → G p l e ({ frames := 2, cells := 0, slots := 0, locals := 43 } : Room) s m args below meth c 0 0 Q dC dI dA Fm α A 7 σ32 26 [(0, fO α (some 200)), (1, .int a1), (2, .int a2), (3, .int a3), (4, .int a4), (5, .int a5)] [] := by
    clear h
    intro σ32 h
    replace h := hJ33 σ32 h
    refine r_iconst (v := 0) hC dX7_lease_26 (by decide) ?_
    exact KJ5 σ32 0 h
  refine r_if_eq (tgt := 26) hC dX7_lease_5 (by decide) (fun q => ?_) (fun q => ?_)
  · replace h := h.1 q
    exact KJ33 σ1 h
  · replace h := h.2 q
    refine r_iload_n hC dX7_lease_8 rfl 2 rfl ?_
    refine r_calli hC [] (m_runS (n := 1) hC [.int a2] [] (fun sz => cm_X7_isOwner l dC dI dA α σ1 a2 _ h sz) gX7_lease_X7_isOwner rfl ⟨rfl, rfl⟩ (by decide +kernel) ⟨Nat.le_of_ble_eq_true rfl, Nat.le_of_ble_eq_true rfl⟩ rfl (Nat.le_of_ble_eq_true rfl) (by decide) dX7_lease_9) (fun x35 σ34 hn => ?_)
    clear h
    revert hn
    intro h
    refine r_if_eq (tgt := 26) hC dX7_lease_12 (by decide) (fun q => ?_) (fun q => ?_)
    · replace h := h.1 q
      exact KJ33 σ34 h
    · replace h := h.2 q
      refine r_iload_n hC dX7_lease_15 rfl 3 rfl ?_
      refine r_calli hC [] (m_runS (n := 1) hC [.int a3] [] (fun sz => cm_X7_isOwner l dC dI dA α σ34 a3 _ h sz) gX7_lease_X7_isOwner rfl ⟨rfl, rfl⟩ (by decide +kernel) ⟨Nat.le_of_ble_eq_true rfl, Nat.le_of_ble_eq_true rfl⟩ rfl (Nat.le_of_ble_eq_true rfl) (by decide) dX7_lease_16) (fun x37 σ36 hn => ?_)
      clear h
      revert hn
      intro h
      refine r_if_eq (tgt := 26) hC dX7_lease_19 (by decide) (fun q => ?_) (fun q => ?_)
      · replace h := h.1 q
        exact KJ33 σ36 h
      · replace h := h.2 q
        refine r_iconst (v := 1) hC dX7_lease_22 (by decide) ?_
        refine r_goto (tgt := 27) hC dX7_lease_23 (by decide) ?_
        exact KJ5 σ36 1 h
theorem kX7_gaveOil_0 : ∀ w ∈ u_ws RX7 TX7 40, w ∈ wsX7_gaveOil := by decide +kernel
theorem kX7_gaveOil_1 : (Cond.fieldLink RX7 152 "DivisionorderModel" "wells" "I") ∈ wsX7_gaveOil := by decide +kernel
theorem kX7_gaveOil_2 : (Cond.fieldLink RX7 55 "DivisionorderModel" "wellUnit" "[I") ∈ wsX7_gaveOil := by decide +kernel
theorem kX7_gaveOil_3 : (Cond.fieldLink RX7 58 "DivisionorderModel" "barrels" "[I") ∈ wsX7_gaveOil := by decide +kernel
set_option maxHeartbeats 4000000 in
set_option maxRecDepth 100000 in
theorem cm_X7_gaveOil (l : Launch) (dC : Nat → ClassId) (dI : Nat → Nat → Nat) (dA : Nat → ClassId) (α : Nat → Nat) (σ : Mm) (a1 : Int32) (a2 : Int32) (Qm : Int32 → Mm → Prop) (h : wp_X7_gaveOil σ a1 a2 Qm) (sz : Nat) : Met l yX7_gaveOil wsX7_gaveOil ({ frames := 0, cells := 0, slots := 0, locals := 0 } : Room) (cP dC dI dA Fm α σ sz [fO α (some 200), .int a1, .int a2]) (va_Qi Qm (cB dC dI dA Fm α (wl dA Fm α σ) sz) (va_A (wl dA Fm α σ) sz)) 0 0 (va_A (wl dA Fm α σ) sz) := by
  refine m_start (own := RX7) (lv := [(0, fO α (some 200)), (1, .int a1), (2, .int a2)]) (by decide) rfl rfl (by simp only [lgl_O, lgl_I, lgl_J, lgl_N]; decide) (by simp only [lva_O, lva_I, lva_J, lva_N]) ?_
  intro p e s m below meth c hsz hC hr hlk
  generalize hA : va_A (wl dA Fm α σ) sz = A at hC ⊢
  have hA := hA.symm
  generalize hargs : ([fO α (some 200), .int a1, .int a2] : List Value).toArray = args at hC ⊢
  generalize hQ : MQ below _ args s 0 0 A = Q
  unfold wp_X7_gaveOil at h
  refine r_iconst (v := 0) hC dX7_gaveOil_0 (by decide) ?_
  refine r_istore_n (lv' := [(3, .int 0), (0, fO α (some 200)), (1, .int a1), (2, .int a2)]) hC dX7_gaveOil_1 rfl (by decide) rfl ?_
  refine r_iconst (v := 0) hC dX7_gaveOil_2 (by decide) ?_
  refine r_istore (lv' := [(4, .int 0), (3, .int 0), (0, fO α (some 200)), (1, .int a1), (2, .int a2)]) hC dX7_gaveOil_3 (by decide) rfl ?_
  refine r_lvs [2, 3, 4, 1, 0] rfl ?_
  obtain ⟨n, h⟩ := h
  refine lpw_ind (S := Int32 × Int32) (fun s4 => G p l e ({ frames := 0, cells := 0, slots := 0, locals := 0 } : Room) s m args below meth c 0 0 Q dC dI dA Fm α A 5 σ 5 [(0, fO α (some 200)), (1, .int a1), (2, .int a2), (3, .int s4.1), (4, .int s4.2)] []) ?_ n (0, 0) h
  clear h
  intro R3 hR3 s4 h
  obtain ⟨x1, x2⟩ := s4
  refine r_iload hC dX7_gaveOil_5 4 rfl ?_
  refine r_aload_n hC dX7_gaveOil_7 rfl 0 rfl ?_
  refine r_get (ci := 7) (f := 20) (v := .int (gI σ 200 20)) hC kX7_gaveOil_0 rfl (by decide) rfl kX7_gaveOil_1 fx_200 (ct_7 rfl) rfl dX7_gaveOil_8 ?_
  refine r_icmp_ge (tgt := 56) hC dX7_gaveOil_11 (by decide) (fun q => ?_) (fun q => ?_)
  · replace h := h.1 q
    refine r_iload_n hC dX7_gaveOil_56 rfl 3 rfl ?_
    subst hQ
    exact r_zret hC hA hr hlk dX7_gaveOil_57 h.1 h.2
  · replace h := h.2 q
    refine r_iload_n hC dX7_gaveOil_14 rfl 3 rfl ?_
    obtain ⟨J6, hJ6, h⟩ := h
    have KJ6 : ∀ (x5 : Int32), J6 x5 → G p l e ({ frames := 0, cells := 0, slots := 0, locals := 0 } : Room) s m args below meth c 0 0 Q dC dI dA Fm α A 5 σ 49 [(0, fO α (some 200)), (1, .int a1), (2, .int a2), (4, .int x2)] [.int x5] := by
      clear h
      intro x5 h
      replace h := hJ6 x5 h
      refine r_istore_n (lv' := [(3, .int x5), (0, fO α (some 200)), (1, .int a1), (2, .int a2), (4, .int x2)]) hC dX7_gaveOil_49 rfl (by decide) rfl ?_
      obtain ⟨x7, qx7⟩ : ∃ z : Int32, z = x2 + 1 := ⟨_, rfl⟩
      replace h := h x7 qx7
      refine r_iinc (v := x7) (lv' := [(4, .int x7), (3, .int x5), (0, fO α (some 200)), (1, .int a1), (2, .int a2)]) hC dX7_gaveOil_50 (k := 4) rfl (by rw [qx7]; rfl) (by decide) rfl ?_
      refine r_goto (tgt := 5) hC dX7_gaveOil_53 (by decide) ?_
      refine r_lvs [2, 3, 4, 1, 0] rfl ?_
      exact hR3 _ h
    obtain ⟨J8, hJ8, h⟩ := h
    have KJ8 : J8 → G p l e ({ frames := 0, cells := 0, slots := 0, locals := 0 } : Room) s m args below meth c 0 0 Q dC dI dA Fm α A 5 σ 44 [(0, fO α (some 200)), (1, .int a1), (2, .int a2), (4, .int x2)] [] := by
      clear h
      intro h
      replace h := hJ8 h
      refine r_iconst (v := 1) hC dX7_gaveOil_44 (by decide) ?_
      refine r_goto (tgt := 49) hC dX7_gaveOil_45 (by decide) ?_
      exact KJ6 1 h
    refine r_if_ne (tgt := 44) hC dX7_gaveOil_15 (by decide) (fun q => ?_) (fun q => ?_)
    · replace h := h.1 q
      refine r_lvs [0, 1, 2, 4] rfl ?_
      exact KJ8 h
    · replace h := h.2 q
      refine r_aload_n hC dX7_gaveOil_18 rfl 0 rfl ?_
      refine r_get (ci := 7) (f := 21) (v := fO α (some 216)) hC kX7_gaveOil_0 rfl (by decide) rfl kX7_gaveOil_2 fx_200 (ct_7 rfl) rfl dX7_gaveOil_19 ?_
      refine r_iload hC dX7_gaveOil_22 4 rfl ?_
      obtain ⟨c9, h⟩ := h
      refine r_iald hC fx_216 rfl c9 dX7_gaveOil_24 ?_
      refine r_iload_n hC dX7_gaveOil_25 rfl 1 rfl ?_
      obtain ⟨J10, hJ10, h⟩ := h
      have KJ10 : J10 → G p l e ({ frames := 0, cells := 0, slots := 0, locals := 0 } : Room) s m args below meth c 0 0 Q dC dI dA Fm α A 5 σ 48 [(0, fO α (some 200)), (1, .int a1), (2, .int a2), (4, .int x2)] [] := by
        clear h
        intro h
        replace h := hJ10 h
        refine r_iconst (v := 0) hC dX7_gaveOil_48 (by decide) ?_
        exact KJ6 0 h
      refine r_icmp_ne (tgt := 48) hC dX7_gaveOil_26 (by decide) (fun q => ?_) (fun q => ?_)
      · replace h := h.1 q
        refine r_lvs [0, 1, 2, 4] rfl ?_
        exact KJ10 h
      · replace h := h.2 q
        refine r_aload_n hC dX7_gaveOil_29 rfl 0 rfl ?_
        refine r_get (ci := 7) (f := 22) (v := fO α (some 217)) hC kX7_gaveOil_0 rfl (by decide) rfl kX7_gaveOil_3 fx_200 (ct_7 rfl) rfl dX7_gaveOil_30 ?_
        refine r_bipush (v := 61) hC dX7_gaveOil_33 (by decide) ?_
        refine r_iload hC dX7_gaveOil_35 4 rfl ?_
        refine r_imul hC dX7_gaveOil_37 ?_
        refine r_iload_n hC dX7_gaveOil_38 rfl 2 rfl ?_
        refine r_iadd hC dX7_gaveOil_39 ?_
        obtain ⟨c11, h⟩ := h
        refine r_iald hC fx_217 rfl c11 dX7_gaveOil_40 ?_
        refine r_if_le (tgt := 48) hC dX7_gaveOil_41 (by decide) (fun q => ?_) (fun q => ?_)
        · replace h := h.1 q
          refine r_lvs [0, 1, 2, 4] rfl ?_
          exact KJ10 h
        · replace h := h.2 q
          refine r_lvs [0, 1, 2, 4] rfl ?_
          exact KJ8 h
theorem kX7_holds_0 : ∀ w ∈ u_ws RX7 TX7 40, w ∈ wsX7_holds := by decide +kernel
theorem kX7_holds_1 : (Cond.fieldLink RX7 46 "DivisionorderModel" "leaseMonth" "[I") ∈ wsX7_holds := by decide +kernel
theorem kX7_holds_2 : (Cond.fieldLink RX7 49 "DivisionorderModel" "term" "[I") ∈ wsX7_holds := by decide +kernel
theorem kX7_holds_3 : (Cond.fieldLink RX7 16 "DivisionorderModel" "unitOf" "[I") ∈ wsX7_holds := by decide +kernel
theorem kX7_holds_4 : (Cond.fieldLink RX7 34 "DivisionorderModel" "leaseTract" "[I") ∈ wsX7_holds := by decide +kernel
set_option maxHeartbeats 4000000 in
set_option maxRecDepth 100000 in
theorem cm_X7_holds (l : Launch) (dC : Nat → ClassId) (dI : Nat → Nat → Nat) (dA : Nat → ClassId) (α : Nat → Nat) (σ : Mm) (a1 : Int32) (a2 : Int32) (Qm : Int32 → Mm → Prop) (h : wp_X7_holds σ a1 a2 Qm) (sz : Nat) : Met l yX7_holds wsX7_holds ({ frames := 1, cells := 0, slots := 0, locals := 24 } : Room) (cP dC dI dA Fm α σ sz [fO α (some 200), .int a1, .int a2]) (va_Qi Qm (cB dC dI dA Fm α (wl dA Fm α σ) sz) (va_A (wl dA Fm α σ) sz)) 0 0 (va_A (wl dA Fm α σ) sz) := by
  refine m_start (own := RX7) (lv := [(0, fO α (some 200)), (1, .int a1), (2, .int a2)]) (by decide) rfl rfl (by simp only [lgl_O, lgl_I, lgl_J, lgl_N]; decide) (by simp only [lva_O, lva_I, lva_J, lva_N]) ?_
  intro p e s m below meth c hsz hC hr hlk
  generalize hA : va_A (wl dA Fm α σ) sz = A at hC ⊢
  have hA := hA.symm
  generalize hargs : ([fO α (some 200), .int a1, .int a2] : List Value).toArray = args at hC ⊢
  generalize hQ : MQ below _ args s 0 0 A = Q
  unfold wp_X7_holds at h
  refine r_aload_n hC dX7_holds_0 rfl 0 rfl ?_
  refine r_get (ci := 7) (f := 16) (v := fO α (some 213)) hC kX7_holds_0 rfl (by decide) rfl kX7_holds_1 fx_200 (ct_7 rfl) rfl dX7_holds_1 ?_
  refine r_iload_n hC dX7_holds_4 rfl 1 rfl ?_
  obtain ⟨c1, h⟩ := h
  refine r_iald hC fx_213 rfl c1 dX7_holds_5 ?_
  refine r_aload_n hC dX7_holds_6 rfl 0 rfl ?_
  refine r_get (ci := 7) (f := 17) (v := fO α (some 214)) hC kX7_holds_0 rfl (by decide) rfl kX7_holds_2 fx_200 (ct_7 rfl) rfl dX7_holds_7 ?_
  refine r_iload_n hC dX7_holds_10 rfl 1 rfl ?_
  obtain ⟨c2, h⟩ := h
  refine r_iald hC fx_214 rfl c2 dX7_holds_11 ?_
  refine r_iadd hC dX7_holds_12 ?_
  refine r_iconst (v := 1) hC dX7_holds_13 (by decide) ?_
  refine r_isub hC dX7_holds_14 ?_
  refine r_topi (fun x3 qx3 => ?_)
  replace h := h x3 qx3
  refine r_istore_n (lv' := [(3, .int x3), (0, fO α (some 200)), (1, .int a1), (2, .int a2)]) hC dX7_holds_15 rfl (by decide) rfl ?_
  refine r_iload_n hC dX7_holds_16 rfl 3 rfl ?_
  refine r_aload_n hC dX7_holds_17 rfl 1 rfl ?_
  refine r_get (ci := 7) (f := 16) (v := fO α (some 213)) hC kX7_holds_0 rfl (by decide) rfl kX7_holds_1 fx_200 (ct_7 rfl) rfl dX7_holds_18 ?_
  refine r_iload_n hC dX7_holds_21 rfl 2 rfl ?_
  obtain ⟨c4, h⟩ := h
  refine r_iald hC fx_213 rfl c4 dX7_holds_22 ?_
  obtain ⟨J6, hJ6, h⟩ := h
  have KJ6 : ∀ (x5 : Int32), J6 x5 → G p l e ({ frames := 1, cells := 0, slots := 0, locals := 24 } : Room) s m args below meth c 0 0 Q dC dI dA Fm α A 6 σ 31 [(0, fO α (some 200)), (1, .int a1), (2, .int a2), (3, .int x3)] [.int x5] := by
    clear h
    intro x5 h
    replace h := hJ6 x5 h
    refine r_istore (lv' := [(4, .int x5), (0, fO α (some 200)), (1, .int a1), (2, .int a2), (3, .int x3)]) hC dX7_holds_31 (by decide) rfl ?_
    refine r_iload_n hC dX7_holds_33 rfl 4 rfl ?_
    refine r_istore (lv' := [(5, .int x3), (4, .int x5), (0, fO α (some 200)), (1, .int a1), (2, .int a2), (3, .int x3)]) hC dX7_holds_34 (by decide) rfl ?_
    refine r_lvs [2, 3, 4, 1, 0] rfl ?_
    obtain ⟨n, h⟩ := h
    refine lpw_ind (S := Mm × Int32 × Int32) (fun s11 => G p l e ({ frames := 1, cells := 0, slots := 0, locals := 24 } : Room) s m args below meth c 0 0 Q dC dI dA Fm α A 6 s11.1 36 [(0, fO α (some 200)), (1, .int a1), (2, .int a2), (4, .int s11.2.1), (5, .int s11.2.2)] []) ?_ n (σ, x5, x3) h
    clear h
    intro R10 hR10 s11 h
    obtain ⟨σ7, x8, x9⟩ := s11
    refine r_iload hC dX7_holds_36 4 rfl ?_
    refine r_iload_n hC dX7_holds_38 rfl 2 rfl ?_
    obtain ⟨J12, hJ12, h⟩ := h
    have KJ12 : J12 → G p l e ({ frames := 1, cells := 0, slots := 0, locals := 24 } : Room) s m args below meth c 0 0 Q dC dI dA Fm α A 6 σ7 95 [(4, .int x8)] [] := by
      clear h
      intro h
      replace h := hJ12 h
      refine r_iload hC dX7_holds_95 0 rfl ?_
      subst hQ
      exact r_zret hC hA hr hlk dX7_holds_97 h.1 h.2
    refine r_icmp_ge (tgt := 95) hC dX7_holds_39 (by decide) (fun q => ?_) (fun q => ?_)
    · replace h := h.1 q
      refine r_lvs [3] rfl ?_
      exact KJ12 h
    · replace h := h.2 q
      refine r_iload hC dX7_holds_42 3 rfl ?_
      refine r_if_eq (tgt := 95) hC dX7_holds_44 (by decide) (fun q => ?_) (fun q => ?_)
      · replace h := h.1 q
        refine r_lvs [3] rfl ?_
        exact KJ12 h
      · replace h := h.2 q
        refine r_aload_n hC dX7_holds_47 rfl 0 rfl ?_
        refine r_get (ci := 7) (f := 4) (v := fO α (some 203)) hC kX7_holds_0 rfl (by decide) rfl kX7_holds_3 fx_200 (ct_7 rfl) rfl dX7_holds_48 ?_
        refine r_aload_n hC dX7_holds_51 rfl 0 rfl ?_
        refine r_get (ci := 7) (f := 12) (v := fO α (some 209)) hC kX7_holds_0 rfl (by decide) rfl kX7_holds_4 fx_200 (ct_7 rfl) rfl dX7_holds_52 ?_
        refine r_iload_n hC dX7_holds_55 rfl 1 rfl ?_
        obtain ⟨c13, h⟩ := h
        refine r_iald hC fx_209 rfl c13 dX7_holds_56 ?_
        obtain ⟨c14, h⟩ := h
        refine r_iald hC fx_203 rfl c14 dX7_holds_57 ?_
        refine r_iconst (v := (-1)) hC dX7_holds_58 (by decide) ?_
        obtain ⟨J17, hJ17, h⟩ := h
        have KJ17 : ∀ (σ15 : Mm) (x16 : Int32), J17 σ15 x16 → G p l e ({ frames := 1, cells := 0, slots := 0, locals := 24 } : Room) s m args below meth c 0 0 Q dC dI dA Fm α A 6 σ15 87 [(0, fO α (some 200)), (1, .int a1), (2, .int a2), (5, .int x9)] [.int x16] := by
          clear h
          intro σ15 x16 h
          replace h := hJ17 σ15 x16 h
          refine r_istore (lv' := [(4, .int x16), (0, fO α (some 200)), (1, .int a1), (2, .int a2), (5, .int x9)]) hC dX7_holds_87 (by decide) rfl ?_
          obtain ⟨x18, qx18⟩ : ∃ z : Int32, z = x9 + 1 := ⟨_, rfl⟩
          replace h := h x18 qx18
          refine r_iinc (v := x18) (lv' := [(5, .int x18), (4, .int x16), (0, fO α (some 200)), (1, .int a1), (2, .int a2)]) hC dX7_holds_89 (k := 4) rfl (by rw [qx18]; rfl) (by decide) rfl ?_
          refine r_goto (tgt := 36) hC dX7_holds_92 (by decide) ?_
          refine r_lvs [2, 3, 4, 1, 0] rfl ?_
          exact hR10 _ h
        obtain ⟨J20, hJ20, h⟩ := h
        have KJ20 : ∀ (σ19 : Mm), J20 σ19 → G p l e ({ frames := 1, cells := 0, slots := 0, locals := 24 } : Room) s m args below meth c 0 0 Q dC dI dA Fm α A 6 σ19 86 [(0, fO α (some 200)), (1, .int a1), (2, .int a2), (5, .int x9)] [] := by
          clear h
          intro σ19 h
          replace h := hJ20 σ19 h
          refine r_iconst (v := 0) hC dX7_holds_86 (by decide) ?_
          exact KJ17 σ19 0 h
        refine r_icmp_eq (tgt := 86) hC dX7_holds_59 (by decide) (fun q => ?_) (fun q => ?_)
        · replace h := h.1 q
          refine r_lvs [0, 1, 2, 4] rfl ?_
          exact KJ20 σ7 h
        · replace h := h.2 q
          refine r_aload_n hC dX7_holds_62 rfl 0 rfl ?_
          refine r_aload_n hC dX7_holds_63 rfl 0 rfl ?_
          refine r_get (ci := 7) (f := 4) (v := fO α (some 203)) hC kX7_holds_0 rfl (by decide) rfl kX7_holds_3 fx_200 (ct_7 rfl) rfl dX7_holds_64 ?_
          refine r_aload_n hC dX7_holds_67 rfl 0 rfl ?_
          refine r_get (ci := 7) (f := 12) (v := fO α (some 209)) hC kX7_holds_0 rfl (by decide) rfl kX7_holds_4 fx_200 (ct_7 rfl) rfl dX7_holds_68 ?_
          refine r_iload_n hC dX7_holds_71 rfl 1 rfl ?_
          obtain ⟨c21, h⟩ := h
          refine r_iald hC fx_209 rfl c21 dX7_holds_72 ?_
          obtain ⟨c22, h⟩ := h
          refine r_iald hC fx_203 rfl c22 dX7_holds_73 ?_
          refine r_iload hC dX7_holds_74 4 rfl ?_
          refine r_calli hC [] (m_runV (n := 2) (ci := 7) hC [.int (gI σ7 203 (gI σ7 209 a1.toNatClampNeg).toNatClampNeg), .int x9] [] (fun sz => cm_X7_gaveOil l dC dI dA α σ7 (gI σ7 203 (gI σ7 209 a1.toNatClampNeg).toNatClampNeg) x9 _ h sz) gX7_holds_X7_gaveOil rfl ⟨rfl, rfl⟩ (by decide +kernel) ⟨Nat.le_of_ble_eq_true rfl, Nat.le_of_ble_eq_true rfl⟩ fx_200 (ct_7 rfl) rfl rfl (Nat.le_of_ble_eq_true rfl) (by decide) dX7_holds_76) (fun x24 σ23 hn => ?_)
          clear h
          revert hn
          intro h
          refine r_if_eq (tgt := 86) hC dX7_holds_79 (by decide) (fun q => ?_) (fun q => ?_)
          · replace h := h.1 q
            refine r_lvs [0, 1, 2, 4] rfl ?_
            exact KJ20 σ23 h
          · replace h := h.2 q
            refine r_iconst (v := 1) hC dX7_holds_82 (by decide) ?_
            refine r_goto (tgt := 87) hC dX7_holds_83 (by decide) ?_
            refine r_lvs [0, 1, 2, 4] rfl ?_
            exact KJ17 σ23 1 h
  refine r_icmp_lt (tgt := 30) hC dX7_holds_23 (by decide) (fun q => ?_) (fun q => ?_)
  · replace h := h.1 q
    refine r_iconst (v := 0) hC dX7_holds_30 (by decide) ?_
    refine r_lvs [1, 2, 3, 0] rfl ?_
    exact KJ6 0 h
  · replace h := h.2 q
    refine r_iconst (v := 1) hC dX7_holds_26 (by decide) ?_
    refine r_goto (tgt := 31) hC dX7_holds_27 (by decide) ?_
    refine r_lvs [1, 2, 3, 0] rfl ?_
    exact KJ6 1 h
theorem kX7_isHeld_0 : ∀ w ∈ u_ws RX7 TX7 40, w ∈ wsX7_isHeld := by decide +kernel
theorem kX7_isHeld_1 : (Cond.fieldLink RX7 149 "DivisionorderModel" "leases" "I") ∈ wsX7_isHeld := by decide +kernel
set_option maxHeartbeats 4000000 in
set_option maxRecDepth 100000 in
theorem cm_X7_isHeld (l : Launch) (dC : Nat → ClassId) (dI : Nat → Nat → Nat) (dA : Nat → ClassId) (α : Nat → Nat) (σ : Mm) (a1 : Int32) (a2 : Int32) (Qm : Int32 → Mm → Prop) (h : wp_X7_isHeld σ a1 a2 Qm) (sz : Nat) : Met l yX7_isHeld wsX7_isHeld ({ frames := 2, cells := 0, slots := 0, locals := 49 } : Room) (cP dC dI dA Fm α σ sz [fO α (some 200), .int a1, .int a2]) (va_Qi Qm (cB dC dI dA Fm α (wl dA Fm α σ) sz) (va_A (wl dA Fm α σ) sz)) 0 0 (va_A (wl dA Fm α σ) sz) := by
  refine m_start (own := RX7) (lv := [(0, fO α (some 200)), (1, .int a1), (2, .int a2)]) (by decide) rfl rfl (by simp only [lgl_O, lgl_I, lgl_J, lgl_N]; decide) (by simp only [lva_O, lva_I, lva_J, lva_N]) ?_
  intro p e s m below meth c hsz hC hr hlk
  generalize hA : va_A (wl dA Fm α σ) sz = A at hC ⊢
  have hA := hA.symm
  generalize hargs : ([fO α (some 200), .int a1, .int a2] : List Value).toArray = args at hC ⊢
  generalize hQ : MQ below _ args s 0 0 A = Q
  unfold wp_X7_isHeld at h
  refine r_aload_n hC dX7_isHeld_0 rfl 0 rfl ?_
  refine r_iload_n hC dX7_isHeld_1 rfl 1 rfl ?_
  refine r_iconst (v := 0) hC dX7_isHeld_2 (by decide) ?_
  refine r_aload_n hC dX7_isHeld_3 rfl 0 rfl ?_
  refine r_get (ci := 7) (f := 11) (v := .int (gI σ 200 11)) hC kX7_isHeld_0 rfl (by decide) rfl kX7_isHeld_1 fx_200 (ct_7 rfl) rfl dX7_isHeld_4 ?_
  refine r_iconst (v := 1) hC dX7_isHeld_7 (by decide) ?_
  refine r_isub hC dX7_isHeld_8 ?_
  refine r_calli hC [fO α (some 200)] (m_runS (n := 3) hC [.int a1, .int 0, .int ((gI σ 200 11) - 1)] [fO α (some 200)] (fun sz => cm_X7_isBetween l dC dI dA α σ a1 0 ((gI σ 200 11) - 1) _ h sz) gX7_isHeld_X7_isBetween rfl ⟨rfl, rfl⟩ (by decide +kernel) ⟨Nat.le_of_ble_eq_true rfl, Nat.le_of_ble_eq_true rfl⟩ rfl (Nat.le_of_ble_eq_true rfl) (by decide) dX7_isHeld_9) (fun x2 σ1 hn => ?_)
  clear h
  revert hn
  intro h
  obtain ⟨J5, hJ5, h⟩ := h
  have KJ5 : ∀ (σ3 : Mm) (x4 : Int32), J5 σ3 x4 → G p l e ({ frames := 2, cells := 0, slots := 0, locals := 49 } : Room) s m args below meth c 0 0 Q dC dI dA Fm α A 3 σ3 28 [(0, fO α (some 200)), (1, .int a1), (2, .int a2)] [.int x4, fO α (some 200)] := by
    clear h
    intro σ3 x4 h
    replace h := hJ5 σ3 x4 h
    refine r_iconst (v := 1) hC dX7_isHeld_28 (by decide) ?_
    refine r_iconst (v := 1) hC dX7_isHeld_29 (by decide) ?_
    refine r_calli hC [] (m_runV (n := 3) (ci := 7) hC [.int x4, .int 1, .int 1] [] (fun sz => cm_X7_goes l dC dI dA α σ3 x4 1 1 _ h sz) gX7_isHeld_X7_goes rfl ⟨rfl, rfl⟩ (by decide +kernel) ⟨Nat.le_of_ble_eq_true rfl, Nat.le_of_ble_eq_true rfl⟩ fx_200 (ct_7 rfl) rfl rfl (Nat.le_of_ble_eq_true rfl) (by decide) dX7_isHeld_30) (fun x7 σ6 hn => ?_)
    clear h
    revert hn
    intro h
    obtain ⟨J10, hJ10, h⟩ := h
    have KJ10 : ∀ (σ8 : Mm) (x9 : Int32), J10 σ8 x9 → G p l e ({ frames := 2, cells := 0, slots := 0, locals := 49 } : Room) s m args below meth c 0 0 Q dC dI dA Fm α A 3 σ8 50 [] [.int x9] := by
      clear h
      intro σ8 x9 h
      replace h := hJ10 σ8 x9 h
      subst hQ
      exact r_zret hC hA hr hlk dX7_isHeld_50 h.1 h.2
    obtain ⟨J12, hJ12, h⟩ := h
    have KJ12 : ∀ (σ11 : Mm), J12 σ11 → G p l e ({ frames := 2, cells := 0, slots := 0, locals := 49 } : Room) s m args below meth c 0 0 Q dC dI dA Fm α A 3 σ11 49 [] [] := by
      clear h
      intro σ11 h
      replace h := hJ12 σ11 h
      refine r_iconst (v := 0) hC dX7_isHeld_49 (by decide) ?_
      exact KJ10 σ11 0 h
    refine r_if_eq (tgt := 49) hC dX7_isHeld_33 (by decide) (fun q => ?_) (fun q => ?_)
    · replace h := h.1 q
      refine r_lvs [] rfl ?_
      exact KJ12 σ6 h
    · replace h := h.2 q
      refine r_aload_n hC dX7_isHeld_36 rfl 0 rfl ?_
      refine r_iload_n hC dX7_isHeld_37 rfl 1 rfl ?_
      refine r_iload_n hC dX7_isHeld_38 rfl 2 rfl ?_
      refine r_calli hC [] (m_runV (n := 2) (ci := 7) hC [.int a1, .int a2] [] (fun sz => cm_X7_holds l dC dI dA α σ6 a1 a2 _ h sz) gX7_isHeld_X7_holds rfl ⟨rfl, rfl⟩ (by decide +kernel) ⟨Nat.le_of_ble_eq_true rfl, Nat.le_of_ble_eq_true rfl⟩ fx_200 (ct_7 rfl) rfl rfl (Nat.le_of_ble_eq_true rfl) (by decide) dX7_isHeld_39) (fun x14 σ13 hn => ?_)
      clear h
      revert hn
      intro h
      refine r_if_eq (tgt := 49) hC dX7_isHeld_42 (by decide) (fun q => ?_) (fun q => ?_)
      · replace h := h.1 q
        refine r_lvs [] rfl ?_
        exact KJ12 σ13 h
      · replace h := h.2 q
        refine r_iconst (v := 1) hC dX7_isHeld_45 (by decide) ?_
        refine r_goto (tgt := 50) hC dX7_isHeld_46 (by decide) ?_
        refine r_lvs [] rfl ?_
        exact KJ10 σ13 1 h
  obtain ⟨J16, hJ16, h⟩ := h
  have KJ16 : ∀ (σ15 : Mm), J16 σ15 → G p l e ({ frames := 2, cells := 0, slots := 0, locals := 49 } : Room) s m args below meth c 0 0 Q dC dI dA Fm α A 3 σ15 27 [(0, fO α (some 200)), (1, .int a1), (2, .int a2)] [fO α (some 200)] := by
    clear h
    intro σ15 h
    replace h := hJ16 σ15 h
    refine r_iconst (v := 0) hC dX7_isHeld_27 (by decide) ?_
    exact KJ5 σ15 0 h
  refine r_if_eq (tgt := 27) hC dX7_isHeld_12 (by decide) (fun q => ?_) (fun q => ?_)
  · replace h := h.1 q
    exact KJ16 σ1 h
  · replace h := h.2 q
    refine r_aload_n hC dX7_isHeld_15 rfl 0 rfl ?_
    refine r_iload_n hC dX7_isHeld_16 rfl 2 rfl ?_
    refine r_calli hC [fO α (some 200)] (m_runV (n := 1) (ci := 7) hC [.int a2] [fO α (some 200)] (fun sz => cm_X7_isMonth l dC dI dA α σ1 a2 _ h sz) gX7_isHeld_X7_isMonth rfl ⟨rfl, rfl⟩ (by decide +kernel) ⟨Nat.le_of_ble_eq_true rfl, Nat.le_of_ble_eq_true rfl⟩ fx_200 (ct_7 rfl) rfl rfl (Nat.le_of_ble_eq_true rfl) (by decide) dX7_isHeld_17) (fun x18 σ17 hn => ?_)
    clear h
    revert hn
    intro h
    refine r_if_eq (tgt := 27) hC dX7_isHeld_20 (by decide) (fun q => ?_) (fun q => ?_)
    · replace h := h.1 q
      exact KJ16 σ17 h
    · replace h := h.2 q
      refine r_iconst (v := 1) hC dX7_isHeld_23 (by decide) ?_
      refine r_goto (tgt := 28) hC dX7_isHeld_24 (by decide) ?_
      exact KJ5 σ17 1 h
theorem kX7_unit_0 : ∀ w ∈ u_ws RX7 TX7 40, w ∈ wsX7_unit := by decide +kernel
theorem kX7_unit_1 : (Cond.fieldLink RX7 119 "DivisionorderModel" "tracts" "I") ∈ wsX7_unit := by decide +kernel
theorem kX7_unit_2 : (Cond.fieldLink RX7 52 "DivisionorderModel" "unitMonth" "[I") ∈ wsX7_unit := by decide +kernel
theorem kX7_unit_3 : (Cond.fieldLink RX7 125 "DivisionorderModel" "units" "I") ∈ wsX7_unit := by decide +kernel
theorem kX7_unit_4 : (Cond.fieldLink RX7 122 "DivisionorderModel" "now" "I") ∈ wsX7_unit := by decide +kernel
theorem kX7_unit_5 : (Cond.fieldLink RX7 16 "DivisionorderModel" "unitOf" "[I") ∈ wsX7_unit := by decide +kernel
set_option maxHeartbeats 4000000 in
set_option maxRecDepth 100000 in
theorem cm_X7_unit (l : Launch) (dC : Nat → ClassId) (dI : Nat → Nat → Nat) (dA : Nat → ClassId) (α : Nat → Nat) (σ : Mm) (a1 : Int32) (Qm : Int32 → Mm → Prop) (h : wp_X7_unit σ a1 Qm) (sz : Nat) : Met l yX7_unit wsX7_unit ({ frames := 1, cells := 0, slots := 0, locals := 23 } : Room) (cP dC dI dA Fm α σ sz [fO α (some 200), .int a1]) (va_Qi Qm (cB dC dI dA Fm α (wl dA Fm α σ) sz) (va_A (wl dA Fm α σ) sz)) 0 0 (va_A (wl dA Fm α σ) sz) := by
  refine m_start (own := RX7) (lv := [(0, fO α (some 200)), (1, .int a1)]) (by decide) rfl rfl (by simp only [lgl_O, lgl_I, lgl_J, lgl_N]; decide) (by simp only [lva_O, lva_I, lva_J, lva_N]) ?_
  intro p e s m below meth c hsz hC hr hlk
  generalize hA : va_A (wl dA Fm α σ) sz = A at hC ⊢
  have hA := hA.symm
  generalize hargs : ([fO α (some 200), .int a1] : List Value).toArray = args at hC ⊢
  generalize hQ : MQ below _ args s 0 0 A = Q
  unfold wp_X7_unit at h
  refine r_iload_n hC dX7_unit_0 rfl 1 rfl ?_
  refine r_iconst (v := 1) hC dX7_unit_1 (by decide) ?_
  obtain ⟨J2, hJ2, h⟩ := h
  have KJ2 : ∀ (x1 : Int32), J2 x1 → G p l e ({ frames := 1, cells := 0, slots := 0, locals := 23 } : Room) s m args below meth c 0 0 Q dC dI dA Fm α A 5 σ 19 [(0, fO α (some 200)), (1, .int a1)] [.int x1] := by
    clear h
    intro x1 h
    replace h := hJ2 x1 h
    refine r_istore_n (lv' := [(2, .int x1), (0, fO α (some 200)), (1, .int a1)]) hC dX7_unit_19 rfl (by decide) rfl ?_
    refine r_iload_n hC dX7_unit_20 rfl 0 rfl ?_
    obtain ⟨J4, hJ4, h⟩ := h
    have KJ4 : ∀ (x3 : Int32), J4 x3 → G p l e ({ frames := 1, cells := 0, slots := 0, locals := 23 } : Room) s m args below meth c 0 0 Q dC dI dA Fm α A 5 σ 37 [(0, fO α (some 200)), (1, .int a1), (2, .int x1)] [.int x3] := by
      clear h
      intro x3 h
      replace h := hJ4 x3 h
      refine r_istore_n (lv' := [(3, .int x3), (0, fO α (some 200)), (1, .int a1), (2, .int x1)]) hC dX7_unit_37 rfl (by decide) rfl ?_
      refine r_iconst (v := 0) hC dX7_unit_38 (by decide) ?_
      refine r_istore (lv' := [(4, .int 0), (3, .int x3), (0, fO α (some 200)), (1, .int a1), (2, .int x1)]) hC dX7_unit_39 (by decide) rfl ?_
      refine r_lvs [2, 3, 4, 1, 0] rfl ?_
      obtain ⟨n, h⟩ := h
      refine lpw_ind (S := Int32 × Int32) (fun s8 => G p l e ({ frames := 1, cells := 0, slots := 0, locals := 23 } : Room) s m args below meth c 0 0 Q dC dI dA Fm α A 5 σ 41 [(0, fO α (some 200)), (1, .int a1), (2, .int x1), (3, .int s8.1), (4, .int s8.2)] []) ?_ n (x3, 0) h
      clear h
      intro R7 hR7 s8 h
      obtain ⟨x5, x6⟩ := s8
      refine r_iload hC dX7_unit_41 4 rfl ?_
      refine r_aload_n hC dX7_unit_43 rfl 0 rfl ?_
      refine r_get (ci := 7) (f := 1) (v := .int (gI σ 200 1)) hC kX7_unit_0 rfl (by decide) rfl kX7_unit_1 fx_200 (ct_7 rfl) rfl dX7_unit_44 ?_
      obtain ⟨J9, hJ9, h⟩ := h
      have KJ9 : J9 → G p l e ({ frames := 1, cells := 0, slots := 0, locals := 23 } : Room) s m args below meth c 0 0 Q dC dI dA Fm α A 5 σ 86 [(0, fO α (some 200)), (1, .int a1), (2, .int x1), (3, .int x5)] [] := by
        clear h
        intro h
        replace h := hJ9 h
        refine r_aload_n hC dX7_unit_86 rfl 0 rfl ?_
        refine r_iload_n hC dX7_unit_87 rfl 2 rfl ?_
        refine r_iload_n hC dX7_unit_88 rfl 3 rfl ?_
        refine r_iconst (v := 1) hC dX7_unit_89 (by decide) ?_
        refine r_calli hC [] (m_runV (n := 3) (ci := 7) hC [.int x1, .int x5, .int 1] [] (fun sz => cm_X7_goes l dC dI dA α σ x1 x5 1 _ h sz) gX7_unit_X7_goes rfl ⟨rfl, rfl⟩ (by decide +kernel) ⟨Nat.le_of_ble_eq_true rfl, Nat.le_of_ble_eq_true rfl⟩ fx_200 (ct_7 rfl) rfl rfl (Nat.le_of_ble_eq_true rfl) (by decide) dX7_unit_90) (fun x11 σ10 hn => ?_)
        clear h
        revert hn
        intro h
        refine r_if_ne (tgt := 98) hC dX7_unit_93 (by decide) (fun q => ?_) (fun q => ?_)
        · replace h := h.1 q
          refine r_iconst (v := 0) hC dX7_unit_98 (by decide) ?_
          refine r_istore (lv' := [(4, .int 0), (0, fO α (some 200)), (1, .int a1), (2, .int x1), (3, .int x5)]) hC dX7_unit_99 (by decide) rfl ?_
          refine r_lvs [1, 2, 0] rfl ?_
          obtain ⟨n, h⟩ := h
          refine lpw_ind (S := Mm × Int32) (fun s15 => G p l e ({ frames := 1, cells := 0, slots := 0, locals := 23 } : Room) s m args below meth c 0 0 Q dC dI dA Fm α A 5 s15.1 101 [(0, fO α (some 200)), (1, .int a1), (4, .int s15.2)] []) ?_ n (σ10, 0) h
          clear h
          intro R14 hR14 s15 h
          obtain ⟨σ12, x13⟩ := s15
          refine r_iload hC dX7_unit_101 2 rfl ?_
          refine r_aload_n hC dX7_unit_103 rfl 0 rfl ?_
          refine r_get (ci := 7) (f := 1) (v := .int (gI σ12 200 1)) hC kX7_unit_0 rfl (by decide) rfl kX7_unit_1 fx_200 (ct_7 rfl) rfl dX7_unit_104 ?_
          refine r_icmp_ge (tgt := 147) hC dX7_unit_107 (by decide) (fun q => ?_) (fun q => ?_)
          · replace h := h.1 q
            refine r_aload_n hC dX7_unit_147 rfl 0 rfl ?_
            refine r_get (ci := 7) (f := 19) (v := fO α (some 215)) hC kX7_unit_0 rfl (by decide) rfl kX7_unit_2 fx_200 (ct_7 rfl) rfl dX7_unit_148 ?_
            refine r_aload_n hC dX7_unit_151 rfl 0 rfl ?_
            refine r_get (ci := 7) (f := 18) (v := .int (gI σ12 200 18)) hC kX7_unit_0 rfl (by decide) rfl kX7_unit_3 fx_200 (ct_7 rfl) rfl dX7_unit_152 ?_
            refine r_aload_n hC dX7_unit_155 rfl 0 rfl ?_
            refine r_get (ci := 7) (f := 0) (v := .int (gI σ12 200 0)) hC kX7_unit_0 rfl (by decide) rfl kX7_unit_4 fx_200 (ct_7 rfl) rfl dX7_unit_156 ?_
            obtain ⟨c16, h⟩ := h
            refine r_iast hC fx_215 rfl c16 dX7_unit_159 ?_
            refine r_topm (fun σ17 qσ17 => ?_)
            replace h := h σ17 qσ17
            refine r_aload_n hC dX7_unit_160 rfl 0 rfl ?_
            refine r_dup hC fO_cat dX7_unit_161 ?_
            refine r_get (ci := 7) (f := 18) (v := .int (gI σ17 200 18)) hC kX7_unit_0 rfl (by decide) rfl kX7_unit_3 fx_200 (ct_7 rfl) rfl dX7_unit_162 ?_
            refine r_iconst (v := 1) hC dX7_unit_165 (by decide) ?_
            refine r_iadd hC dX7_unit_166 ?_
            refine r_put (ci := 7) (f := 18) (v := .int ((gI σ17 200 18) + 1)) (σ' := sI σ17 200 18 ((gI σ17 200 18) + 1)) hC kX7_unit_0 tyX7 tyX7_ok nmX7 rfl (by decide) rfl kX7_unit_3 fx_200 (ct_7 rfl) rfl rfl (Nat.le_of_ble_eq_true rfl) (pt_7_18 rfl) ct_sI dX7_unit_167 ?_
            refine r_topm (fun σ18 qσ18 => ?_)
            replace h := h σ18 qσ18
            refine r_aload_n hC dX7_unit_170 rfl 0 rfl ?_
            refine r_get (ci := 7) (f := 18) (v := .int (gI σ18 200 18)) hC kX7_unit_0 rfl (by decide) rfl kX7_unit_3 fx_200 (ct_7 rfl) rfl dX7_unit_171 ?_
            refine r_iconst (v := 1) hC dX7_unit_174 (by decide) ?_
            refine r_isub hC dX7_unit_175 ?_
            subst hQ
            exact r_iret hC hA hr hlk dX7_unit_176 h
          · replace h := h.2 q
            refine r_aload_n hC dX7_unit_110 rfl 0 rfl ?_
            refine r_get (ci := 7) (f := 4) (v := fO α (some 203)) hC kX7_unit_0 rfl (by decide) rfl kX7_unit_5 fx_200 (ct_7 rfl) rfl dX7_unit_111 ?_
            refine r_iload hC dX7_unit_114 2 rfl ?_
            refine r_iload_n hC dX7_unit_116 rfl 1 rfl ?_
            refine r_iload hC dX7_unit_117 2 rfl ?_
            refine r_ishr hC dX7_unit_119 ?_
            refine r_iconst (v := 1) hC dX7_unit_120 (by decide) ?_
            refine r_iand hC dX7_unit_121 ?_
            refine r_iconst (v := 1) hC dX7_unit_122 (by decide) ?_
            obtain ⟨J20, hJ20, h⟩ := h
            have KJ20 : ∀ (x19 : Int32), J20 x19 → G p l e ({ frames := 1, cells := 0, slots := 0, locals := 23 } : Room) s m args below meth c 0 0 Q dC dI dA Fm α A 5 σ12 140 [(0, fO α (some 200)), (1, .int a1), (4, .int x13)] [.int x19, .int x13, fO α (some 203)] := by
              clear h
              intro x19 h
              replace h := hJ20 x19 h
              obtain ⟨c21, h⟩ := h
              refine r_iast hC fx_203 rfl c21 dX7_unit_140 ?_
              refine r_topm (fun σ22 qσ22 => ?_)
              replace h := h σ22 qσ22
              obtain ⟨x23, qx23⟩ : ∃ z : Int32, z = x13 + 1 := ⟨_, rfl⟩
              replace h := h x23 qx23
              refine r_iinc (v := x23) (lv' := [(4, .int x23), (0, fO α (some 200)), (1, .int a1)]) hC dX7_unit_141 (k := 2) rfl (by rw [qx23]; rfl) (by decide) rfl ?_
              refine r_goto (tgt := 101) hC dX7_unit_144 (by decide) ?_
              refine r_lvs [1, 2, 0] rfl ?_
              exact hR14 _ h
            refine r_icmp_ne (tgt := 133) hC dX7_unit_123 (by decide) (fun q => ?_) (fun q => ?_)
            · replace h := h.1 q
              refine r_aload_n hC dX7_unit_133 rfl 0 rfl ?_
              refine r_get (ci := 7) (f := 4) (v := fO α (some 203)) hC kX7_unit_0 rfl (by decide) rfl kX7_unit_5 fx_200 (ct_7 rfl) rfl dX7_unit_134 ?_
              refine r_iload hC dX7_unit_137 2 rfl ?_
              obtain ⟨c24, h⟩ := h
              refine r_iald hC fx_203 rfl c24 dX7_unit_139 ?_
              exact KJ20 (gI σ12 203 x13.toNatClampNeg) h
            · replace h := h.2 q
              refine r_aload_n hC dX7_unit_126 rfl 0 rfl ?_
              refine r_get (ci := 7) (f := 18) (v := .int (gI σ12 200 18)) hC kX7_unit_0 rfl (by decide) rfl kX7_unit_3 fx_200 (ct_7 rfl) rfl dX7_unit_127 ?_
              refine r_goto (tgt := 140) hC dX7_unit_130 (by decide) ?_
              exact KJ20 (gI σ12 200 18) h
        · replace h := h.2 q
          refine r_iconst (v := 0) hC dX7_unit_96 (by decide) ?_
          subst hQ
          exact r_iret hC hA hr hlk dX7_unit_97 h
      refine r_icmp_ge (tgt := 86) hC dX7_unit_47 (by decide) (fun q => ?_) (fun q => ?_)
      · replace h := h.1 q
        refine r_lvs [0, 1, 2, 3] rfl ?_
        exact KJ9 h
      · replace h := h.2 q
        refine r_iload_n hC dX7_unit_50 rfl 3 rfl ?_
        refine r_if_eq (tgt := 86) hC dX7_unit_51 (by decide) (fun q => ?_) (fun q => ?_)
        · replace h := h.1 q
          refine r_lvs [0, 1, 2, 3] rfl ?_
          exact KJ9 h
        · replace h := h.2 q
          refine r_iload_n hC dX7_unit_54 rfl 1 rfl ?_
          refine r_iload hC dX7_unit_55 4 rfl ?_
          refine r_ishr hC dX7_unit_57 ?_
          refine r_iconst (v := 1) hC dX7_unit_58 (by decide) ?_
          refine r_iand hC dX7_unit_59 ?_
          obtain ⟨J26, hJ26, h⟩ := h
          have KJ26 : ∀ (x25 : Int32), J26 x25 → G p l e ({ frames := 1, cells := 0, slots := 0, locals := 23 } : Room) s m args below meth c 0 0 Q dC dI dA Fm α A 5 σ 79 [(0, fO α (some 200)), (1, .int a1), (2, .int x1), (4, .int x6)] [.int x25] := by
            clear h
            intro x25 h
            replace h := hJ26 x25 h
            refine r_istore_n (lv' := [(3, .int x25), (0, fO α (some 200)), (1, .int a1), (2, .int x1), (4, .int x6)]) hC dX7_unit_79 rfl (by decide) rfl ?_
            obtain ⟨x27, qx27⟩ : ∃ z : Int32, z = x6 + 1 := ⟨_, rfl⟩
            replace h := h x27 qx27
            refine r_iinc (v := x27) (lv' := [(4, .int x27), (3, .int x25), (0, fO α (some 200)), (1, .int a1), (2, .int x1)]) hC dX7_unit_80 (k := 4) rfl (by rw [qx27]; rfl) (by decide) rfl ?_
            refine r_goto (tgt := 41) hC dX7_unit_83 (by decide) ?_
            refine r_lvs [2, 3, 4, 1, 0] rfl ?_
            exact hR7 _ h
          obtain ⟨J28, hJ28, h⟩ := h
          have KJ28 : J28 → G p l e ({ frames := 1, cells := 0, slots := 0, locals := 23 } : Room) s m args below meth c 0 0 Q dC dI dA Fm α A 5 σ 74 [(0, fO α (some 200)), (1, .int a1), (2, .int x1), (4, .int x6)] [] := by
            clear h
            intro h
            replace h := hJ28 h
            refine r_iconst (v := 1) hC dX7_unit_74 (by decide) ?_
            refine r_goto (tgt := 79) hC dX7_unit_75 (by decide) ?_
            exact KJ26 1 h
          refine r_if_eq (tgt := 74) hC dX7_unit_60 (by decide) (fun q => ?_) (fun q => ?_)
          · replace h := h.1 q
            refine r_lvs [0, 1, 2, 4] rfl ?_
            exact KJ28 h
          · replace h := h.2 q
            refine r_aload_n hC dX7_unit_63 rfl 0 rfl ?_
            refine r_get (ci := 7) (f := 4) (v := fO α (some 203)) hC kX7_unit_0 rfl (by decide) rfl kX7_unit_5 fx_200 (ct_7 rfl) rfl dX7_unit_64 ?_
            refine r_iload hC dX7_unit_67 4 rfl ?_
            obtain ⟨c29, h⟩ := h
            refine r_iald hC fx_203 rfl c29 dX7_unit_69 ?_
            refine r_iconst (v := (-1)) hC dX7_unit_70 (by decide) ?_
            refine r_icmp_ne (tgt := 78) hC dX7_unit_71 (by decide) (fun q => ?_) (fun q => ?_)
            · replace h := h.1 q
              refine r_iconst (v := 0) hC dX7_unit_78 (by decide) ?_
              refine r_lvs [0, 1, 2, 4] rfl ?_
              exact KJ26 0 h
            · replace h := h.2 q
              refine r_lvs [0, 1, 2, 4] rfl ?_
              exact KJ28 h
    obtain ⟨J30, hJ30, h⟩ := h
    have KJ30 : J30 → G p l e ({ frames := 1, cells := 0, slots := 0, locals := 23 } : Room) s m args below meth c 0 0 Q dC dI dA Fm α A 5 σ 36 [(0, fO α (some 200)), (1, .int a1), (2, .int x1)] [] := by
      clear h
      intro h
      replace h := hJ30 h
      refine r_iconst (v := 0) hC dX7_unit_36 (by decide) ?_
      exact KJ4 0 h
    refine r_if_eq (tgt := 36) hC dX7_unit_21 (by decide) (fun q => ?_) (fun q => ?_)
    · replace h := h.1 q
      refine r_lvs [1, 2, 0] rfl ?_
      exact KJ30 h
    · replace h := h.2 q
      refine r_aload_n hC dX7_unit_24 rfl 1 rfl ?_
      refine r_get (ci := 7) (f := 18) (v := .int (gI σ 200 18)) hC kX7_unit_0 rfl (by decide) rfl kX7_unit_3 fx_200 (ct_7 rfl) rfl dX7_unit_25 ?_
      refine r_iconst (v := 3) hC dX7_unit_28 (by decide) ?_
      refine r_icmp_ge (tgt := 36) hC dX7_unit_29 (by decide) (fun q => ?_) (fun q => ?_)
      · replace h := h.1 q
        refine r_lvs [1, 2, 0] rfl ?_
        exact KJ30 h
      · replace h := h.2 q
        refine r_iconst (v := 1) hC dX7_unit_32 (by decide) ?_
        refine r_goto (tgt := 37) hC dX7_unit_33 (by decide) ?_
        refine r_lvs [1, 2, 0] rfl ?_
        exact KJ4 1 h
  obtain ⟨J31, hJ31, h⟩ := h
  have KJ31 : J31 → G p l e ({ frames := 1, cells := 0, slots := 0, locals := 23 } : Room) s m args below meth c 0 0 Q dC dI dA Fm α A 5 σ 18 [(0, fO α (some 200)), (1, .int a1)] [] := by
    clear h
    intro h
    replace h := hJ31 h
    refine r_iconst (v := 0) hC dX7_unit_18 (by decide) ?_
    exact KJ2 0 h
  refine r_icmp_lt (tgt := 18) hC dX7_unit_2 (by decide) (fun q => ?_) (fun q => ?_)
  · replace h := h.1 q
    exact KJ31 h
  · replace h := h.2 q
    refine r_iload_n hC dX7_unit_5 rfl 1 rfl ?_
    refine r_aload_n hC dX7_unit_6 rfl 0 rfl ?_
    refine r_get (ci := 7) (f := 1) (v := .int (gI σ 200 1)) hC kX7_unit_0 rfl (by decide) rfl kX7_unit_1 fx_200 (ct_7 rfl) rfl dX7_unit_7 ?_
    refine r_ishr hC dX7_unit_10 ?_
    refine r_if_ne (tgt := 18) hC dX7_unit_11 (by decide) (fun q => ?_) (fun q => ?_)
    · replace h := h.1 q
      exact KJ31 h
    · replace h := h.2 q
      refine r_iconst (v := 1) hC dX7_unit_14 (by decide) ?_
      refine r_goto (tgt := 19) hC dX7_unit_15 (by decide) ?_
      exact KJ2 1 h
theorem kX7_well_0 : ∀ w ∈ u_ws RX7 TX7 40, w ∈ wsX7_well := by decide +kernel
theorem kX7_well_1 : (Cond.fieldLink RX7 125 "DivisionorderModel" "units" "I") ∈ wsX7_well := by decide +kernel
theorem kX7_well_2 : (Cond.fieldLink RX7 152 "DivisionorderModel" "wells" "I") ∈ wsX7_well := by decide +kernel
theorem kX7_well_3 : (Cond.fieldLink RX7 55 "DivisionorderModel" "wellUnit" "[I") ∈ wsX7_well := by decide +kernel
set_option maxHeartbeats 4000000 in
set_option maxRecDepth 100000 in
theorem cm_X7_well (l : Launch) (dC : Nat → ClassId) (dI : Nat → Nat → Nat) (dA : Nat → ClassId) (α : Nat → Nat) (σ : Mm) (a1 : Int32) (Qm : Int32 → Mm → Prop) (h : wp_X7_well σ a1 Qm) (sz : Nat) : Met l yX7_well wsX7_well ({ frames := 1, cells := 0, slots := 0, locals := 23 } : Room) (cP dC dI dA Fm α σ sz [fO α (some 200), .int a1]) (va_Qi Qm (cB dC dI dA Fm α (wl dA Fm α σ) sz) (va_A (wl dA Fm α σ) sz)) 0 0 (va_A (wl dA Fm α σ) sz) := by
  refine m_start (own := RX7) (lv := [(0, fO α (some 200)), (1, .int a1)]) (by decide) rfl rfl (by simp only [lgl_O, lgl_I, lgl_J, lgl_N]; decide) (by simp only [lva_O, lva_I, lva_J, lva_N]) ?_
  intro p e s m below meth c hsz hC hr hlk
  generalize hA : va_A (wl dA Fm α σ) sz = A at hC ⊢
  have hA := hA.symm
  generalize hargs : ([fO α (some 200), .int a1] : List Value).toArray = args at hC ⊢
  generalize hQ : MQ below _ args s 0 0 A = Q
  unfold wp_X7_well at h
  refine r_aload_n hC dX7_well_0 rfl 0 rfl ?_
  refine r_iload_n hC dX7_well_1 rfl 1 rfl ?_
  refine r_iconst (v := 0) hC dX7_well_2 (by decide) ?_
  refine r_aload_n hC dX7_well_3 rfl 0 rfl ?_
  refine r_get (ci := 7) (f := 18) (v := .int (gI σ 200 18)) hC kX7_well_0 rfl (by decide) rfl kX7_well_1 fx_200 (ct_7 rfl) rfl dX7_well_4 ?_
  refine r_iconst (v := 1) hC dX7_well_7 (by decide) ?_
  refine r_isub hC dX7_well_8 ?_
  refine r_calli hC [fO α (some 200)] (m_runS (n := 3) hC [.int a1, .int 0, .int ((gI σ 200 18) - 1)] [fO α (some 200)] (fun sz => cm_X7_isBetween l dC dI dA α σ a1 0 ((gI σ 200 18) - 1) _ h sz) gX7_well_X7_isBetween rfl ⟨rfl, rfl⟩ (by decide +kernel) ⟨Nat.le_of_ble_eq_true rfl, Nat.le_of_ble_eq_true rfl⟩ rfl (Nat.le_of_ble_eq_true rfl) (by decide) dX7_well_9) (fun x2 σ1 hn => ?_)
  clear h
  revert hn
  intro h
  refine r_aload_n hC dX7_well_12 rfl 0 rfl ?_
  refine r_get (ci := 7) (f := 20) (v := .int (gI σ1 200 20)) hC kX7_well_0 rfl (by decide) rfl kX7_well_2 fx_200 (ct_7 rfl) rfl dX7_well_13 ?_
  refine r_bipush (v := 6) hC dX7_well_16 (by decide) ?_
  obtain ⟨J4, hJ4, h⟩ := h
  have KJ4 : ∀ (x3 : Int32), J4 x3 → G p l e ({ frames := 1, cells := 0, slots := 0, locals := 23 } : Room) s m args below meth c 0 0 Q dC dI dA Fm α A 2 σ1 26 [(0, fO α (some 200)), (1, .int a1)] [.int x3, .int x2, fO α (some 200)] := by
    clear h
    intro x3 h
    replace h := hJ4 x3 h
    refine r_iconst (v := 1) hC dX7_well_26 (by decide) ?_
    refine r_calli hC [] (m_runV (n := 3) (ci := 7) hC [.int x2, .int x3, .int 1] [] (fun sz => cm_X7_goes l dC dI dA α σ1 x2 x3 1 _ h sz) gX7_well_X7_goes rfl ⟨rfl, rfl⟩ (by decide +kernel) ⟨Nat.le_of_ble_eq_true rfl, Nat.le_of_ble_eq_true rfl⟩ fx_200 (ct_7 rfl) rfl rfl (Nat.le_of_ble_eq_true rfl) (by decide) dX7_well_27) (fun x6 σ5 hn => ?_)
    clear h
    revert hn
    intro h
    refine r_if_ne (tgt := 35) hC dX7_well_30 (by decide) (fun q => ?_) (fun q => ?_)
    · replace h := h.1 q
      refine r_aload_n hC dX7_well_35 rfl 0 rfl ?_
      refine r_get (ci := 7) (f := 21) (v := fO α (some 216)) hC kX7_well_0 rfl (by decide) rfl kX7_well_3 fx_200 (ct_7 rfl) rfl dX7_well_36 ?_
      refine r_aload_n hC dX7_well_39 rfl 0 rfl ?_
      refine r_get (ci := 7) (f := 20) (v := .int (gI σ5 200 20)) hC kX7_well_0 rfl (by decide) rfl kX7_well_2 fx_200 (ct_7 rfl) rfl dX7_well_40 ?_
      refine r_iload_n hC dX7_well_43 rfl 1 rfl ?_
      obtain ⟨c7, h⟩ := h
      refine r_iast hC fx_216 rfl c7 dX7_well_44 ?_
      refine r_topm (fun σ8 qσ8 => ?_)
      replace h := h σ8 qσ8
      refine r_aload_n hC dX7_well_45 rfl 0 rfl ?_
      refine r_dup hC fO_cat dX7_well_46 ?_
      refine r_get (ci := 7) (f := 20) (v := .int (gI σ8 200 20)) hC kX7_well_0 rfl (by decide) rfl kX7_well_2 fx_200 (ct_7 rfl) rfl dX7_well_47 ?_
      refine r_iconst (v := 1) hC dX7_well_50 (by decide) ?_
      refine r_iadd hC dX7_well_51 ?_
      refine r_put (ci := 7) (f := 20) (v := .int ((gI σ8 200 20) + 1)) (σ' := sI σ8 200 20 ((gI σ8 200 20) + 1)) hC kX7_well_0 tyX7 tyX7_ok nmX7 rfl (by decide) rfl kX7_well_2 fx_200 (ct_7 rfl) rfl rfl (Nat.le_of_ble_eq_true rfl) (pt_7_20 rfl) ct_sI dX7_well_52 ?_
      refine r_topm (fun σ9 qσ9 => ?_)
      replace h := h σ9 qσ9
      refine r_aload_n hC dX7_well_55 rfl 0 rfl ?_
      refine r_get (ci := 7) (f := 20) (v := .int (gI σ9 200 20)) hC kX7_well_0 rfl (by decide) rfl kX7_well_2 fx_200 (ct_7 rfl) rfl dX7_well_56 ?_
      refine r_iconst (v := 1) hC dX7_well_59 (by decide) ?_
      refine r_isub hC dX7_well_60 ?_
      subst hQ
      exact r_iret hC hA hr hlk dX7_well_61 h
    · replace h := h.2 q
      refine r_iconst (v := 0) hC dX7_well_33 (by decide) ?_
      subst hQ
      exact r_iret hC hA hr hlk dX7_well_34 h
  refine r_icmp_ge (tgt := 25) hC dX7_well_18 (by decide) (fun q => ?_) (fun q => ?_)
  · replace h := h.1 q
    refine r_iconst (v := 0) hC dX7_well_25 (by decide) ?_
    exact KJ4 0 h
  · replace h := h.2 q
    refine r_iconst (v := 1) hC dX7_well_21 (by decide) ?_
    refine r_goto (tgt := 26) hC dX7_well_22 (by decide) ?_
    exact KJ4 1 h
theorem kX7_isWellMonth_0 : ∀ w ∈ u_ws RX7 TX7 40, w ∈ wsX7_isWellMonth := by decide +kernel
theorem kX7_isWellMonth_1 : (Cond.fieldLink RX7 152 "DivisionorderModel" "wells" "I") ∈ wsX7_isWellMonth := by decide +kernel
set_option maxHeartbeats 4000000 in
set_option maxRecDepth 100000 in
theorem cm_X7_isWellMonth (l : Launch) (dC : Nat → ClassId) (dI : Nat → Nat → Nat) (dA : Nat → ClassId) (α : Nat → Nat) (σ : Mm) (a1 : Int32) (a2 : Int32) (Qm : Int32 → Mm → Prop) (h : wp_X7_isWellMonth σ a1 a2 Qm) (sz : Nat) : Met l yX7_isWellMonth wsX7_isWellMonth ({ frames := 2, cells := 0, slots := 0, locals := 43 } : Room) (cP dC dI dA Fm α σ sz [fO α (some 200), .int a1, .int a2]) (va_Qi Qm (cB dC dI dA Fm α (wl dA Fm α σ) sz) (va_A (wl dA Fm α σ) sz)) 0 0 (va_A (wl dA Fm α σ) sz) := by
  refine m_start (own := RX7) (lv := [(0, fO α (some 200)), (1, .int a1), (2, .int a2)]) (by decide) rfl rfl (by simp only [lgl_O, lgl_I, lgl_J, lgl_N]; decide) (by simp only [lva_O, lva_I, lva_J, lva_N]) ?_
  intro p e s m below meth c hsz hC hr hlk
  generalize hA : va_A (wl dA Fm α σ) sz = A at hC ⊢
  have hA := hA.symm
  generalize hargs : ([fO α (some 200), .int a1, .int a2] : List Value).toArray = args at hC ⊢
  generalize hQ : MQ below _ args s 0 0 A = Q
  unfold wp_X7_isWellMonth at h
  refine r_iload_n hC dX7_isWellMonth_0 rfl 1 rfl ?_
  refine r_iconst (v := 0) hC dX7_isWellMonth_1 (by decide) ?_
  refine r_aload_n hC dX7_isWellMonth_2 rfl 0 rfl ?_
  refine r_get (ci := 7) (f := 20) (v := .int (gI σ 200 20)) hC kX7_isWellMonth_0 rfl (by decide) rfl kX7_isWellMonth_1 fx_200 (ct_7 rfl) rfl dX7_isWellMonth_3 ?_
  refine r_iconst (v := 1) hC dX7_isWellMonth_6 (by decide) ?_
  refine r_isub hC dX7_isWellMonth_7 ?_
  refine r_calli hC [] (m_runS (n := 3) hC [.int a1, .int 0, .int ((gI σ 200 20) - 1)] [] (fun sz => cm_X7_isBetween l dC dI dA α σ a1 0 ((gI σ 200 20) - 1) _ h sz) gX7_isWellMonth_X7_isBetween rfl ⟨rfl, rfl⟩ (by decide +kernel) ⟨Nat.le_of_ble_eq_true rfl, Nat.le_of_ble_eq_true rfl⟩ rfl (Nat.le_of_ble_eq_true rfl) (by decide) dX7_isWellMonth_8) (fun x2 σ1 hn => ?_)
  clear h
  revert hn
  intro h
  obtain ⟨J5, hJ5, h⟩ := h
  have KJ5 : ∀ (σ3 : Mm) (x4 : Int32), J5 σ3 x4 → G p l e ({ frames := 2, cells := 0, slots := 0, locals := 43 } : Room) s m args below meth c 0 0 Q dC dI dA Fm α A 3 σ3 27 [] [.int x4] := by
    clear h
    intro σ3 x4 h
    replace h := hJ5 σ3 x4 h
    subst hQ
    exact r_zret hC hA hr hlk dX7_isWellMonth_27 h.1 h.2
  obtain ⟨J7, hJ7, h⟩ := h
  have KJ7 : ∀ (σ6 : Mm), J7 σ6 → G p l e ({ frames := 2, cells := 0, slots := 0, locals := 43 } : Room) s m args below meth c 0 0 Q dC dI dA Fm α A 3 σ6 26 [] [] := by
    clear h
    intro σ6 h
    replace h := hJ7 σ6 h
    refine r_iconst (v := 0) hC dX7_isWellMonth_26 (by decide) ?_
    exact KJ5 σ6 0 h
  refine r_if_eq (tgt := 26) hC dX7_isWellMonth_11 (by decide) (fun q => ?_) (fun q => ?_)
  · replace h := h.1 q
    refine r_lvs [] rfl ?_
    exact KJ7 σ1 h
  · replace h := h.2 q
    refine r_aload_n hC dX7_isWellMonth_14 rfl 0 rfl ?_
    refine r_iload_n hC dX7_isWellMonth_15 rfl 2 rfl ?_
    refine r_calli hC [] (m_runV (n := 1) (ci := 7) hC [.int a2] [] (fun sz => cm_X7_isMonth l dC dI dA α σ1 a2 _ h sz) gX7_isWellMonth_X7_isMonth rfl ⟨rfl, rfl⟩ (by decide +kernel) ⟨Nat.le_of_ble_eq_true rfl, Nat.le_of_ble_eq_true rfl⟩ fx_200 (ct_7 rfl) rfl rfl (Nat.le_of_ble_eq_true rfl) (by decide) dX7_isWellMonth_16) (fun x9 σ8 hn => ?_)
    clear h
    revert hn
    intro h
    refine r_if_eq (tgt := 26) hC dX7_isWellMonth_19 (by decide) (fun q => ?_) (fun q => ?_)
    · replace h := h.1 q
      refine r_lvs [] rfl ?_
      exact KJ7 σ8 h
    · replace h := h.2 q
      refine r_iconst (v := 1) hC dX7_isWellMonth_22 (by decide) ?_
      refine r_goto (tgt := 27) hC dX7_isWellMonth_23 (by decide) ?_
      refine r_lvs [] rfl ?_
      exact KJ5 σ8 1 h
theorem kX7_oil_0 : ∀ w ∈ u_ws RX7 TX7 40, w ∈ wsX7_oil := by decide +kernel
theorem kX7_oil_1 : (Cond.fieldLink RX7 58 "DivisionorderModel" "barrels" "[I") ∈ wsX7_oil := by decide +kernel
theorem kX7_oil_2 : (Cond.fieldLink RX7 61 "DivisionorderModel" "price" "[I") ∈ wsX7_oil := by decide +kernel
theorem kX7_oil_3 : (Cond.fieldLink RX7 52 "DivisionorderModel" "unitMonth" "[I") ∈ wsX7_oil := by decide +kernel
theorem kX7_oil_4 : (Cond.fieldLink RX7 55 "DivisionorderModel" "wellUnit" "[I") ∈ wsX7_oil := by decide +kernel
set_option maxHeartbeats 4000000 in
set_option maxRecDepth 100000 in
theorem cm_X7_oil (l : Launch) (dC : Nat → ClassId) (dI : Nat → Nat → Nat) (dA : Nat → ClassId) (α : Nat → Nat) (σ : Mm) (a1 : Int32) (a2 : Int32) (a3 : Int32) (a4 : Int32) (Qm : Int32 → Mm → Prop) (h : wp_X7_oil σ a1 a2 a3 a4 Qm) (sz : Nat) : Met l yX7_oil wsX7_oil ({ frames := 3, cells := 0, slots := 0, locals := 65 } : Room) (cP dC dI dA Fm α σ sz [fO α (some 200), .int a1, .int a2, .int a3, .int a4]) (va_Qi Qm (cB dC dI dA Fm α (wl dA Fm α σ) sz) (va_A (wl dA Fm α σ) sz)) 0 0 (va_A (wl dA Fm α σ) sz) := by
  refine m_start (own := RX7) (lv := [(0, fO α (some 200)), (1, .int a1), (2, .int a2), (3, .int a3), (4, .int a4)]) (by decide) rfl rfl (by simp only [lgl_O, lgl_I, lgl_J, lgl_N]; decide) (by simp only [lva_O, lva_I, lva_J, lva_N]) ?_
  intro p e s m below meth c hsz hC hr hlk
  generalize hA : va_A (wl dA Fm α σ) sz = A at hC ⊢
  have hA := hA.symm
  generalize hargs : ([fO α (some 200), .int a1, .int a2, .int a3, .int a4] : List Value).toArray = args at hC ⊢
  generalize hQ : MQ below _ args s 0 0 A = Q
  unfold wp_X7_oil at h
  refine r_aload_n hC dX7_oil_0 rfl 0 rfl ?_
  refine r_iload_n hC dX7_oil_1 rfl 1 rfl ?_
  refine r_iload_n hC dX7_oil_2 rfl 2 rfl ?_
  refine r_calli hC [] (m_runV (n := 2) (ci := 7) hC [.int a1, .int a2] [] (fun sz => cm_X7_isWellMonth l dC dI dA α σ a1 a2 _ h sz) gX7_oil_X7_isWellMonth rfl ⟨rfl, rfl⟩ (by decide +kernel) ⟨Nat.le_of_ble_eq_true rfl, Nat.le_of_ble_eq_true rfl⟩ fx_200 (ct_7 rfl) rfl rfl (Nat.le_of_ble_eq_true rfl) (by decide) dX7_oil_3) (fun x2 σ1 hn => ?_)
  clear h
  revert hn
  intro h
  refine r_istore (lv' := [(5, .int x2), (0, fO α (some 200)), (1, .int a1), (2, .int a2), (3, .int a3), (4, .int a4)]) hC dX7_oil_6 (by decide) rfl ?_
  refine r_aload_n hC dX7_oil_8 rfl 1 rfl ?_
  refine r_iload hC dX7_oil_9 0 rfl ?_
  refine r_iload_n hC dX7_oil_11 rfl 4 rfl ?_
  refine r_iconst (v := 0) hC dX7_oil_12 (by decide) ?_
  refine r_sipush (v := 1000) hC dX7_oil_13 (by decide) ?_
  refine r_calli hC [.int x2, fO α (some 200)] (m_runS (n := 3) hC [.int a3, .int 0, .int 1000] [.int x2, fO α (some 200)] (fun sz => cm_X7_isBetween l dC dI dA α σ1 a3 0 1000 _ h sz) gX7_oil_X7_isBetween rfl ⟨rfl, rfl⟩ (by decide +kernel) ⟨Nat.le_of_ble_eq_true rfl, Nat.le_of_ble_eq_true rfl⟩ rfl (Nat.le_of_ble_eq_true rfl) (by decide) dX7_oil_16) (fun x4 σ3 hn => ?_)
  clear h
  revert hn
  intro h
  obtain ⟨J7, hJ7, h⟩ := h
  have KJ7 : ∀ (σ5 : Mm) (x6 : Int32), J7 σ5 x6 → G p l e ({ frames := 3, cells := 0, slots := 0, locals := 65 } : Room) s m args below meth c 0 0 Q dC dI dA Fm α A 7 σ5 39 [(0, fO α (some 200)), (1, .int a1), (2, .int a2), (3, .int a3), (4, .int a4), (5, .int x2)] [.int x6, .int x2, fO α (some 200)] := by
    clear h
    intro σ5 x6 h
    replace h := hJ7 σ5 x6 h
    refine r_iload hC dX7_oil_39 5 rfl ?_
    obtain ⟨J9, hJ9, h⟩ := h
    have KJ9 : ∀ (x8 : Int32), J9 x8 → G p l e ({ frames := 3, cells := 0, slots := 0, locals := 65 } : Room) s m args below meth c 0 0 Q dC dI dA Fm α A 7 σ5 73 [(0, fO α (some 200)), (1, .int a1), (2, .int a2), (3, .int a3), (4, .int a4)] [.int x8, .int x6, .int x2, fO α (some 200)] := by
      clear h
      intro x8 h
      replace h := hJ9 x8 h
      refine r_calli hC [] (m_runV (n := 3) (ci := 7) hC [.int x2, .int x6, .int x8] [] (fun sz => cm_X7_goes l dC dI dA α σ5 x2 x6 x8 _ h sz) gX7_oil_X7_goes rfl ⟨rfl, rfl⟩ (by decide +kernel) ⟨Nat.le_of_ble_eq_true rfl, Nat.le_of_ble_eq_true rfl⟩ fx_200 (ct_7 rfl) rfl rfl (Nat.le_of_ble_eq_true rfl) (by decide) dX7_oil_73) (fun x11 σ10 hn => ?_)
      clear h
      revert hn
      intro h
      refine r_if_ne (tgt := 81) hC dX7_oil_76 (by decide) (fun q => ?_) (fun q => ?_)
      · replace h := h.1 q
        refine r_aload_n hC dX7_oil_81 rfl 0 rfl ?_
        refine r_get (ci := 7) (f := 22) (v := fO α (some 217)) hC kX7_oil_0 rfl (by decide) rfl kX7_oil_1 fx_200 (ct_7 rfl) rfl dX7_oil_82 ?_
        refine r_bipush (v := 61) hC dX7_oil_85 (by decide) ?_
        refine r_iload_n hC dX7_oil_87 rfl 1 rfl ?_
        refine r_imul hC dX7_oil_88 ?_
        refine r_iload_n hC dX7_oil_89 rfl 2 rfl ?_
        refine r_iadd hC dX7_oil_90 ?_
        obtain ⟨c12, h⟩ := h
        refine r_iald hC fx_217 rfl c12 dX7_oil_91 ?_
        refine r_topi (fun x13 qx13 => ?_)
        replace h := h x13 qx13
        refine r_istore (lv' := [(6, .int x13), (0, fO α (some 200)), (1, .int a1), (2, .int a2), (3, .int a3), (4, .int a4)]) hC dX7_oil_92 (by decide) rfl ?_
        refine r_aload_n hC dX7_oil_94 rfl 1 rfl ?_
        refine r_get (ci := 7) (f := 22) (v := fO α (some 217)) hC kX7_oil_0 rfl (by decide) rfl kX7_oil_1 fx_200 (ct_7 rfl) rfl dX7_oil_95 ?_
        refine r_bipush (v := 61) hC dX7_oil_98 (by decide) ?_
        refine r_iload_n hC dX7_oil_100 rfl 2 rfl ?_
        refine r_imul hC dX7_oil_101 ?_
        refine r_iload_n hC dX7_oil_102 rfl 3 rfl ?_
        refine r_iadd hC dX7_oil_103 ?_
        refine r_iload_n hC dX7_oil_104 rfl 4 rfl ?_
        obtain ⟨c14, h⟩ := h
        refine r_iast hC fx_217 rfl c14 dX7_oil_105 ?_
        refine r_topm (fun σ15 qσ15 => ?_)
        replace h := h σ15 qσ15
        refine r_aload_n hC dX7_oil_106 rfl 1 rfl ?_
        refine r_get (ci := 7) (f := 23) (v := fO α (some 218)) hC kX7_oil_0 rfl (by decide) rfl kX7_oil_2 fx_200 (ct_7 rfl) rfl dX7_oil_107 ?_
        refine r_bipush (v := 61) hC dX7_oil_110 (by decide) ?_
        refine r_iload_n hC dX7_oil_112 rfl 2 rfl ?_
        refine r_imul hC dX7_oil_113 ?_
        refine r_iload_n hC dX7_oil_114 rfl 3 rfl ?_
        refine r_iadd hC dX7_oil_115 ?_
        refine r_iload hC dX7_oil_116 5 rfl ?_
        obtain ⟨c16, h⟩ := h
        refine r_iast hC fx_218 rfl c16 dX7_oil_118 ?_
        refine r_topm (fun σ17 qσ17 => ?_)
        replace h := h σ17 qσ17
        refine r_iload hC dX7_oil_119 0 rfl ?_
        subst hQ
        exact r_iret hC hA hr hlk dX7_oil_121 h
      · replace h := h.2 q
        refine r_iconst (v := 0) hC dX7_oil_79 (by decide) ?_
        subst hQ
        exact r_iret hC hA hr hlk dX7_oil_80 h
    obtain ⟨J18, hJ18, h⟩ := h
    have KJ18 : J18 → G p l e ({ frames := 3, cells := 0, slots := 0, locals := 65 } : Room) s m args below meth c 0 0 Q dC dI dA Fm α A 7 σ5 72 [(0, fO α (some 200)), (1, .int a1), (2, .int a2), (3, .int a3), (4, .int a4)] [.int x6, .int x2, fO α (some 200)] := by
      clear h
      intro h
      replace h := hJ18 h
      refine r_iconst (v := 0) hC dX7_oil_72 (by decide) ?_
      exact KJ9 0 h
    refine r_if_eq (tgt := 72) hC dX7_oil_41 (by decide) (fun q => ?_) (fun q => ?_)
    · replace h := h.1 q
      refine r_lvs [0, 1, 2, 3, 4] rfl ?_
      exact KJ18 h
    · replace h := h.2 q
      refine r_aload_n hC dX7_oil_44 rfl 0 rfl ?_
      refine r_get (ci := 7) (f := 19) (v := fO α (some 215)) hC kX7_oil_0 rfl (by decide) rfl kX7_oil_3 fx_200 (ct_7 rfl) rfl dX7_oil_45 ?_
      refine r_iload hC dX7_oil_48 5 rfl ?_
      obtain ⟨J20, hJ20, h⟩ := h
      have KJ20 : ∀ (x19 : Int32), J20 x19 → G p l e ({ frames := 3, cells := 0, slots := 0, locals := 65 } : Room) s m args below meth c 0 0 Q dC dI dA Fm α A 7 σ5 63 [(0, fO α (some 200)), (1, .int a1), (2, .int a2), (3, .int a3), (4, .int a4)] [.int x19, fO α (some 215), .int x6, .int x2, fO α (some 200)] := by
        clear h
        intro x19 h
        replace h := hJ20 x19 h
        obtain ⟨c21, h⟩ := h
        refine r_iald hC fx_215 rfl c21 dX7_oil_63 ?_
        refine r_iload_n hC dX7_oil_64 rfl 2 rfl ?_
        refine r_icmp_gt (tgt := 72) hC dX7_oil_65 (by decide) (fun q => ?_) (fun q => ?_)
        · replace h := h.1 q
          exact KJ18 h
        · replace h := h.2 q
          refine r_iconst (v := 1) hC dX7_oil_68 (by decide) ?_
          refine r_goto (tgt := 73) hC dX7_oil_69 (by decide) ?_
          exact KJ9 1 h
      refine r_if_eq (tgt := 62) hC dX7_oil_50 (by decide) (fun q => ?_) (fun q => ?_)
      · replace h := h.1 q
        refine r_iconst (v := 0) hC dX7_oil_62 (by decide) ?_
        refine r_lvs [0, 1, 2, 3, 4] rfl ?_
        exact KJ20 0 h
      · replace h := h.2 q
        refine r_aload_n hC dX7_oil_53 rfl 0 rfl ?_
        refine r_get (ci := 7) (f := 21) (v := fO α (some 216)) hC kX7_oil_0 rfl (by decide) rfl kX7_oil_4 fx_200 (ct_7 rfl) rfl dX7_oil_54 ?_
        refine r_iload_n hC dX7_oil_57 rfl 1 rfl ?_
        obtain ⟨c22, h⟩ := h
        refine r_iald hC fx_216 rfl c22 dX7_oil_58 ?_
        refine r_goto (tgt := 63) hC dX7_oil_59 (by decide) ?_
        refine r_lvs [0, 1, 2, 3, 4] rfl ?_
        exact KJ20 (gI σ5 216 a1.toNatClampNeg) h
  obtain ⟨J24, hJ24, h⟩ := h
  have KJ24 : ∀ (σ23 : Mm), J24 σ23 → G p l e ({ frames := 3, cells := 0, slots := 0, locals := 65 } : Room) s m args below meth c 0 0 Q dC dI dA Fm α A 7 σ23 38 [(0, fO α (some 200)), (1, .int a1), (2, .int a2), (3, .int a3), (4, .int a4), (5, .int x2)] [.int x2, fO α (some 200)] := by
    clear h
    intro σ23 h
    replace h := hJ24 σ23 h
    refine r_iconst (v := 0) hC dX7_oil_38 (by decide) ?_
    exact KJ7 σ23 0 h
  refine r_if_eq (tgt := 38) hC dX7_oil_19 (by decide) (fun q => ?_) (fun q => ?_)
  · replace h := h.1 q
    refine r_lvs [1, 2, 3, 4, 5, 0] rfl ?_
    exact KJ24 σ3 h
  · replace h := h.2 q
    refine r_iload hC dX7_oil_22 5 rfl ?_
    refine r_iconst (v := 0) hC dX7_oil_24 (by decide) ?_
    refine r_sipush (v := 10000) hC dX7_oil_25 (by decide) ?_
    refine r_calli hC [.int x2, fO α (some 200)] (m_runS (n := 3) hC [.int a4, .int 0, .int 10000] [.int x2, fO α (some 200)] (fun sz => cm_X7_isBetween l dC dI dA α σ3 a4 0 10000 _ h sz) gX7_oil_X7_isBetween rfl ⟨rfl, rfl⟩ (by decide +kernel) ⟨Nat.le_of_ble_eq_true rfl, Nat.le_of_ble_eq_true rfl⟩ rfl (Nat.le_of_ble_eq_true rfl) (by decide) dX7_oil_28) (fun x26 σ25 hn => ?_)
    clear h
    revert hn
    intro h
    refine r_if_eq (tgt := 38) hC dX7_oil_31 (by decide) (fun q => ?_) (fun q => ?_)
    · replace h := h.1 q
      refine r_lvs [1, 2, 3, 4, 5, 0] rfl ?_
      exact KJ24 σ25 h
    · replace h := h.2 q
      refine r_iconst (v := 1) hC dX7_oil_34 (by decide) ?_
      refine r_goto (tgt := 39) hC dX7_oil_35 (by decide) ?_
      refine r_lvs [1, 2, 3, 4, 5, 0] rfl ?_
      exact KJ7 σ25 1 h
theorem kX7_cost_0 : (Cond.constant RX7 165 (1000000)) ∈ wsX7_cost := by decide +kernel
theorem kX7_cost_1 : ∀ w ∈ u_ws RX7 TX7 40, w ∈ wsX7_cost := by decide +kernel
theorem kX7_cost_2 : (Cond.fieldLink RX7 64 "DivisionorderModel" "costs" "[I") ∈ wsX7_cost := by decide +kernel
theorem kX7_cost_3 : (Cond.fieldLink RX7 52 "DivisionorderModel" "unitMonth" "[I") ∈ wsX7_cost := by decide +kernel
theorem kX7_cost_4 : (Cond.constant RX7 166 (10000000)) ∈ wsX7_cost := by decide +kernel
theorem kX7_cost_5 : (Cond.fieldLink RX7 55 "DivisionorderModel" "wellUnit" "[I") ∈ wsX7_cost := by decide +kernel
set_option maxHeartbeats 4000000 in
set_option maxRecDepth 100000 in
theorem cm_X7_cost (l : Launch) (dC : Nat → ClassId) (dI : Nat → Nat → Nat) (dA : Nat → ClassId) (α : Nat → Nat) (σ : Mm) (a1 : Int32) (a2 : Int32) (a3 : Int32) (Qm : Int32 → Mm → Prop) (h : wp_X7_cost σ a1 a2 a3 Qm) (sz : Nat) : Met l yX7_cost wsX7_cost ({ frames := 3, cells := 0, slots := 0, locals := 65 } : Room) (cP dC dI dA Fm α σ sz [fO α (some 200), .int a1, .int a2, .int a3]) (va_Qi Qm (cB dC dI dA Fm α (wl dA Fm α σ) sz) (va_A (wl dA Fm α σ) sz)) 0 0 (va_A (wl dA Fm α σ) sz) := by
  refine m_start (own := RX7) (lv := [(0, fO α (some 200)), (1, .int a1), (2, .int a2), (3, .int a3)]) (by decide) rfl rfl (by simp only [lgl_O, lgl_I, lgl_J, lgl_N]; decide) (by simp only [lva_O, lva_I, lva_J, lva_N]) ?_
  intro p e s m below meth c hsz hC hr hlk
  generalize hA : va_A (wl dA Fm α σ) sz = A at hC ⊢
  have hA := hA.symm
  generalize hargs : ([fO α (some 200), .int a1, .int a2, .int a3] : List Value).toArray = args at hC ⊢
  generalize hQ : MQ below _ args s 0 0 A = Q
  unfold wp_X7_cost at h
  refine r_aload_n hC dX7_cost_0 rfl 0 rfl ?_
  refine r_iload_n hC dX7_cost_1 rfl 1 rfl ?_
  refine r_iload_n hC dX7_cost_2 rfl 2 rfl ?_
  refine r_calli hC [] (m_runV (n := 2) (ci := 7) hC [.int a1, .int a2] [] (fun sz => cm_X7_isWellMonth l dC dI dA α σ a1 a2 _ h sz) gX7_cost_X7_isWellMonth rfl ⟨rfl, rfl⟩ (by decide +kernel) ⟨Nat.le_of_ble_eq_true rfl, Nat.le_of_ble_eq_true rfl⟩ fx_200 (ct_7 rfl) rfl rfl (Nat.le_of_ble_eq_true rfl) (by decide) dX7_cost_3) (fun x2 σ1 hn => ?_)
  clear h
  revert hn
  intro h
  refine r_istore (lv' := [(4, .int x2), (0, fO α (some 200)), (1, .int a1), (2, .int a2), (3, .int a3)]) hC dX7_cost_6 (by decide) rfl ?_
  refine r_iload_n hC dX7_cost_8 rfl 4 rfl ?_
  refine r_iconst (v := 1) hC dX7_cost_9 (by decide) ?_
  refine r_ldc (v := 1000000) hC kX7_cost_0 dX7_cost_10 ?_
  refine r_calli hC [] (m_runS (n := 3) hC [.int a3, .int 1, .int 1000000] [] (fun sz => cm_X7_isBetween l dC dI dA α σ1 a3 1 1000000 _ h sz) gX7_cost_X7_isBetween rfl ⟨rfl, rfl⟩ (by decide +kernel) ⟨Nat.le_of_ble_eq_true rfl, Nat.le_of_ble_eq_true rfl⟩ rfl (Nat.le_of_ble_eq_true rfl) (by decide) dX7_cost_12) (fun x4 σ3 hn => ?_)
  clear h
  revert hn
  intro h
  refine r_istore (lv' := [(5, .int x4), (4, .int x2), (0, fO α (some 200)), (1, .int a1), (2, .int a2), (3, .int a3)]) hC dX7_cost_15 (by decide) rfl ?_
  refine r_iload hC dX7_cost_17 1 rfl ?_
  obtain ⟨J6, hJ6, h⟩ := h
  have KJ6 : ∀ (x5 : Int32), J6 x5 → G p l e ({ frames := 3, cells := 0, slots := 0, locals := 65 } : Room) s m args below meth c 0 0 Q dC dI dA Fm α A 7 σ3 83 [(0, fO α (some 200)), (1, .int a1), (2, .int a2), (3, .int a3), (4, .int x2), (5, .int x4)] [.int x5] := by
    clear h
    intro x5 h
    replace h := hJ6 x5 h
    refine r_istore (lv' := [(6, .int x5), (0, fO α (some 200)), (1, .int a1), (2, .int a2), (3, .int a3), (4, .int x2), (5, .int x4)]) hC dX7_cost_83 (by decide) rfl ?_
    refine r_aload_n hC dX7_cost_85 rfl 1 rfl ?_
    refine r_iload hC dX7_cost_86 5 rfl ?_
    refine r_iload hC dX7_cost_88 6 rfl ?_
    refine r_iload hC dX7_cost_90 0 rfl ?_
    refine r_calli hC [] (m_runV (n := 3) (ci := 7) hC [.int x2, .int x4, .int x5] [] (fun sz => cm_X7_goes l dC dI dA α σ3 x2 x4 x5 _ h sz) gX7_cost_X7_goes rfl ⟨rfl, rfl⟩ (by decide +kernel) ⟨Nat.le_of_ble_eq_true rfl, Nat.le_of_ble_eq_true rfl⟩ fx_200 (ct_7 rfl) rfl rfl (Nat.le_of_ble_eq_true rfl) (by decide) dX7_cost_92) (fun x8 σ7 hn => ?_)
    clear h
    revert hn
    intro h
    refine r_if_ne (tgt := 100) hC dX7_cost_95 (by decide) (fun q => ?_) (fun q => ?_)
    · replace h := h.1 q
      refine r_aload_n hC dX7_cost_100 rfl 1 rfl ?_
      refine r_get (ci := 7) (f := 24) (v := fO α (some 219)) hC kX7_cost_1 rfl (by decide) rfl kX7_cost_2 fx_200 (ct_7 rfl) rfl dX7_cost_101 ?_
      refine r_bipush (v := 61) hC dX7_cost_104 (by decide) ?_
      refine r_iload_n hC dX7_cost_106 rfl 2 rfl ?_
      refine r_imul hC dX7_cost_107 ?_
      refine r_iload_n hC dX7_cost_108 rfl 3 rfl ?_
      refine r_iadd hC dX7_cost_109 ?_
      refine r_dup2 hC rfl fO_cat dX7_cost_110 ?_
      obtain ⟨c9, h⟩ := h
      refine r_iald hC fx_219 rfl c9 dX7_cost_111 ?_
      refine r_iload_n hC dX7_cost_112 rfl 4 rfl ?_
      refine r_iadd hC dX7_cost_113 ?_
      obtain ⟨c10, h⟩ := h
      refine r_iast hC fx_219 rfl c10 dX7_cost_114 ?_
      refine r_topm (fun σ11 qσ11 => ?_)
      replace h := h σ11 qσ11
      refine r_aload_n hC dX7_cost_115 rfl 1 rfl ?_
      refine r_get (ci := 7) (f := 24) (v := fO α (some 219)) hC kX7_cost_1 rfl (by decide) rfl kX7_cost_2 fx_200 (ct_7 rfl) rfl dX7_cost_116 ?_
      refine r_bipush (v := 61) hC dX7_cost_119 (by decide) ?_
      refine r_iload_n hC dX7_cost_121 rfl 2 rfl ?_
      refine r_imul hC dX7_cost_122 ?_
      refine r_iload_n hC dX7_cost_123 rfl 3 rfl ?_
      refine r_iadd hC dX7_cost_124 ?_
      obtain ⟨c12, h⟩ := h
      refine r_iald hC fx_219 rfl c12 dX7_cost_125 ?_
      subst hQ
      exact r_iret hC hA hr hlk dX7_cost_126 h
    · replace h := h.2 q
      refine r_iconst (v := 0) hC dX7_cost_98 (by decide) ?_
      subst hQ
      exact r_iret hC hA hr hlk dX7_cost_99 h
  obtain ⟨J13, hJ13, h⟩ := h
  have KJ13 : J13 → G p l e ({ frames := 3, cells := 0, slots := 0, locals := 65 } : Room) s m args below meth c 0 0 Q dC dI dA Fm α A 7 σ3 82 [(0, fO α (some 200)), (1, .int a1), (2, .int a2), (3, .int a3), (4, .int x2), (5, .int x4)] [] := by
    clear h
    intro h
    replace h := hJ13 h
    refine r_iconst (v := 0) hC dX7_cost_82 (by decide) ?_
    exact KJ6 0 h
  refine r_if_eq (tgt := 82) hC dX7_cost_19 (by decide) (fun q => ?_) (fun q => ?_)
  · replace h := h.1 q
    refine r_lvs [2, 3, 4, 5, 1, 0] rfl ?_
    exact KJ13 h
  · replace h := h.2 q
    refine r_iload hC dX7_cost_22 0 rfl ?_
    refine r_if_eq (tgt := 82) hC dX7_cost_24 (by decide) (fun q => ?_) (fun q => ?_)
    · replace h := h.1 q
      refine r_lvs [2, 3, 4, 5, 1, 0] rfl ?_
      exact KJ13 h
    · replace h := h.2 q
      refine r_aload_n hC dX7_cost_27 rfl 2 rfl ?_
      refine r_get (ci := 7) (f := 19) (v := fO α (some 215)) hC kX7_cost_1 rfl (by decide) rfl kX7_cost_3 fx_200 (ct_7 rfl) rfl dX7_cost_28 ?_
      refine r_iload hC dX7_cost_31 1 rfl ?_
      obtain ⟨J15, hJ15, h⟩ := h
      have KJ15 : ∀ (x14 : Int32), J15 x14 → G p l e ({ frames := 3, cells := 0, slots := 0, locals := 65 } : Room) s m args below meth c 0 0 Q dC dI dA Fm α A 7 σ3 46 [(0, fO α (some 200)), (1, .int a1), (2, .int a2), (3, .int a3), (4, .int x2), (5, .int x4)] [.int x14, fO α (some 215)] := by
        clear h
        intro x14 h
        replace h := hJ15 x14 h
        obtain ⟨c16, h⟩ := h
        refine r_iald hC fx_215 rfl c16 dX7_cost_46 ?_
        refine r_iload_n hC dX7_cost_47 rfl 2 rfl ?_
        refine r_icmp_gt (tgt := 82) hC dX7_cost_48 (by decide) (fun q => ?_) (fun q => ?_)
        · replace h := h.1 q
          exact KJ13 h
        · replace h := h.2 q
          refine r_aload_n hC dX7_cost_51 rfl 0 rfl ?_
          refine r_get (ci := 7) (f := 24) (v := fO α (some 219)) hC kX7_cost_1 rfl (by decide) rfl kX7_cost_2 fx_200 (ct_7 rfl) rfl dX7_cost_52 ?_
          refine r_iload hC dX7_cost_55 4 rfl ?_
          obtain ⟨J18, hJ18, h⟩ := h
          have KJ18 : ∀ (x17 : Int32), J18 x17 → G p l e ({ frames := 3, cells := 0, slots := 0, locals := 65 } : Room) s m args below meth c 0 0 Q dC dI dA Fm α A 7 σ3 70 [(0, fO α (some 200)), (1, .int a1), (2, .int a2), (3, .int a3), (4, .int x2), (5, .int x4)] [.int x17, fO α (some 219)] := by
            clear h
            intro x17 h
            replace h := hJ18 x17 h
            obtain ⟨c19, h⟩ := h
            refine r_iald hC fx_219 rfl c19 dX7_cost_70 ?_
            refine r_iload_n hC dX7_cost_71 rfl 3 rfl ?_
            refine r_iadd hC dX7_cost_72 ?_
            refine r_ldc (v := 10000000) hC kX7_cost_4 dX7_cost_73 ?_
            refine r_icmp_gt (tgt := 82) hC dX7_cost_75 (by decide) (fun q => ?_) (fun q => ?_)
            · replace h := h.1 q
              exact KJ13 h
            · replace h := h.2 q
              refine r_iconst (v := 1) hC dX7_cost_78 (by decide) ?_
              refine r_goto (tgt := 83) hC dX7_cost_79 (by decide) ?_
              exact KJ6 1 h
          refine r_if_eq (tgt := 69) hC dX7_cost_57 (by decide) (fun q => ?_) (fun q => ?_)
          · replace h := h.1 q
            refine r_iconst (v := 0) hC dX7_cost_69 (by decide) ?_
            exact KJ18 0 h
          · replace h := h.2 q
            refine r_bipush (v := 61) hC dX7_cost_60 (by decide) ?_
            refine r_iload_n hC dX7_cost_62 rfl 1 rfl ?_
            refine r_imul hC dX7_cost_63 ?_
            refine r_iload_n hC dX7_cost_64 rfl 2 rfl ?_
            refine r_iadd hC dX7_cost_65 ?_
            refine r_goto (tgt := 70) hC dX7_cost_66 (by decide) ?_
            exact KJ18 ((61 * a1) + a2) h
      refine r_if_eq (tgt := 45) hC dX7_cost_33 (by decide) (fun q => ?_) (fun q => ?_)
      · replace h := h.1 q
        refine r_iconst (v := 0) hC dX7_cost_45 (by decide) ?_
        refine r_lvs [2, 3, 4, 5, 1, 0] rfl ?_
        exact KJ15 0 h
      · replace h := h.2 q
        refine r_aload_n hC dX7_cost_36 rfl 2 rfl ?_
        refine r_get (ci := 7) (f := 21) (v := fO α (some 216)) hC kX7_cost_1 rfl (by decide) rfl kX7_cost_5 fx_200 (ct_7 rfl) rfl dX7_cost_37 ?_
        refine r_iload_n hC dX7_cost_40 rfl 3 rfl ?_
        obtain ⟨c20, h⟩ := h
        refine r_iald hC fx_216 rfl c20 dX7_cost_41 ?_
        refine r_goto (tgt := 46) hC dX7_cost_42 (by decide) ?_
        refine r_lvs [2, 3, 4, 5, 1, 0] rfl ?_
        exact KJ15 (gI σ3 216 a1.toNatClampNeg) h
theorem kX7_taxOf_0 : ∀ w ∈ u_ws RX7 TX7 40, w ∈ wsX7_taxOf := by decide +kernel
theorem kX7_taxOf_1 : (Cond.fieldLink RX7 67 "DivisionorderModel" "tax" "[I") ∈ wsX7_taxOf := by decide +kernel
set_option maxHeartbeats 4000000 in
set_option maxRecDepth 100000 in
theorem cm_X7_taxOf (l : Launch) (dC : Nat → ClassId) (dI : Nat → Nat → Nat) (dA : Nat → ClassId) (α : Nat → Nat) (σ : Mm) (a1 : Int32) (Qm : Int32 → Mm → Prop) (h : wp_X7_taxOf σ a1 Qm) (sz : Nat) : Met l yX7_taxOf wsX7_taxOf ({ frames := 0, cells := 0, slots := 0, locals := 0 } : Room) (cP dC dI dA Fm α σ sz [fO α (some 200), .int a1]) (va_Qi Qm (cB dC dI dA Fm α (wl dA Fm α σ) sz) (va_A (wl dA Fm α σ) sz)) 0 0 (va_A (wl dA Fm α σ) sz) := by
  refine m_start (own := RX7) (lv := [(0, fO α (some 200)), (1, .int a1)]) (by decide) rfl rfl (by simp only [lgl_O, lgl_I, lgl_J, lgl_N]; decide) (by simp only [lva_O, lva_I, lva_J, lva_N]) ?_
  intro p e s m below meth c hsz hC hr hlk
  generalize hA : va_A (wl dA Fm α σ) sz = A at hC ⊢
  have hA := hA.symm
  generalize hargs : ([fO α (some 200), .int a1] : List Value).toArray = args at hC ⊢
  generalize hQ : MQ below _ args s 0 0 A = Q
  unfold wp_X7_taxOf at h
  refine r_iconst (v := 0) hC dX7_taxOf_0 (by decide) ?_
  refine r_istore_n (lv' := [(2, .int 0), (0, fO α (some 200)), (1, .int a1)]) hC dX7_taxOf_1 rfl (by decide) rfl ?_
  refine r_iconst (v := 0) hC dX7_taxOf_2 (by decide) ?_
  refine r_istore_n (lv' := [(3, .int 0), (2, .int 0), (0, fO α (some 200)), (1, .int a1)]) hC dX7_taxOf_3 rfl (by decide) rfl ?_
  refine r_lvs [2, 3, 1, 0] rfl ?_
  obtain ⟨n, h⟩ := h
  refine lpw_ind (S := Int32 × Int32) (fun s4 => G p l e ({ frames := 0, cells := 0, slots := 0, locals := 0 } : Room) s m args below meth c 0 0 Q dC dI dA Fm α A 4 σ 4 [(0, fO α (some 200)), (1, .int a1), (2, .int s4.1), (3, .int s4.2)] []) ?_ n (0, 0) h
  clear h
  intro R3 hR3 s4 h
  obtain ⟨x1, x2⟩ := s4
  refine r_iload_n hC dX7_taxOf_4 rfl 3 rfl ?_
  refine r_iload_n hC dX7_taxOf_5 rfl 1 rfl ?_
  refine r_icmp_gt (tgt := 36) hC dX7_taxOf_6 (by decide) (fun q => ?_) (fun q => ?_)
  · replace h := h.1 q
    refine r_iload_n hC dX7_taxOf_36 rfl 2 rfl ?_
    subst hQ
    exact r_iret hC hA hr hlk dX7_taxOf_37 h
  · replace h := h.2 q
    refine r_aload_n hC dX7_taxOf_9 rfl 0 rfl ?_
    refine r_get (ci := 7) (f := 25) (v := fO α (some 220)) hC kX7_taxOf_0 rfl (by decide) rfl kX7_taxOf_1 fx_200 (ct_7 rfl) rfl dX7_taxOf_10 ?_
    refine r_iload_n hC dX7_taxOf_13 rfl 3 rfl ?_
    obtain ⟨c5, h⟩ := h
    refine r_iald hC fx_220 rfl c5 dX7_taxOf_14 ?_
    refine r_iconst (v := (-1)) hC dX7_taxOf_15 (by decide) ?_
    obtain ⟨J7, hJ7, h⟩ := h
    have KJ7 : ∀ (x6 : Int32), J7 x6 → G p l e ({ frames := 0, cells := 0, slots := 0, locals := 0 } : Room) s m args below meth c 0 0 Q dC dI dA Fm α A 4 σ 29 [(0, fO α (some 200)), (1, .int a1), (3, .int x2)] [.int x6] := by
      clear h
      intro x6 h
      replace h := hJ7 x6 h
      refine r_istore_n (lv' := [(2, .int x6), (0, fO α (some 200)), (1, .int a1), (3, .int x2)]) hC dX7_taxOf_29 rfl (by decide) rfl ?_
      obtain ⟨x8, qx8⟩ : ∃ z : Int32, z = x2 + 1 := ⟨_, rfl⟩
      replace h := h x8 qx8
      refine r_iinc (v := x8) (lv' := [(3, .int x8), (2, .int x6), (0, fO α (some 200)), (1, .int a1)]) hC dX7_taxOf_30 (k := 3) rfl (by rw [qx8]; rfl) (by decide) rfl ?_
      refine r_goto (tgt := 4) hC dX7_taxOf_33 (by decide) ?_
      refine r_lvs [2, 3, 1, 0] rfl ?_
      exact hR3 _ h
    refine r_icmp_ne (tgt := 23) hC dX7_taxOf_16 (by decide) (fun q => ?_) (fun q => ?_)
    · replace h := h.1 q
      refine r_aload_n hC dX7_taxOf_23 rfl 0 rfl ?_
      refine r_get (ci := 7) (f := 25) (v := fO α (some 220)) hC kX7_taxOf_0 rfl (by decide) rfl kX7_taxOf_1 fx_200 (ct_7 rfl) rfl dX7_taxOf_24 ?_
      refine r_iload_n hC dX7_taxOf_27 rfl 3 rfl ?_
      obtain ⟨c9, h⟩ := h
      refine r_iald hC fx_220 rfl c9 dX7_taxOf_28 ?_
      refine r_lvs [0, 1, 3] rfl ?_
      exact KJ7 (gI σ 220 x2.toNatClampNeg) h
    · replace h := h.2 q
      refine r_iload_n hC dX7_taxOf_19 rfl 2 rfl ?_
      refine r_goto (tgt := 29) hC dX7_taxOf_20 (by decide) ?_
      refine r_lvs [0, 1, 3] rfl ?_
      exact KJ7 x1 h
theorem kX7_tax_0 : ∀ w ∈ u_ws RX7 TX7 40, w ∈ wsX7_tax := by decide +kernel
theorem kX7_tax_1 : (Cond.fieldLink RX7 67 "DivisionorderModel" "tax" "[I") ∈ wsX7_tax := by decide +kernel
set_option maxHeartbeats 4000000 in
set_option maxRecDepth 100000 in
theorem cm_X7_tax (l : Launch) (dC : Nat → ClassId) (dI : Nat → Nat → Nat) (dA : Nat → ClassId) (α : Nat → Nat) (σ : Mm) (a1 : Int32) (a2 : Int32) (Qm : Int32 → Mm → Prop) (h : wp_X7_tax σ a1 a2 Qm) (sz : Nat) : Met l yX7_tax wsX7_tax ({ frames := 2, cells := 0, slots := 0, locals := 43 } : Room) (cP dC dI dA Fm α σ sz [fO α (some 200), .int a1, .int a2]) (va_Qi Qm (cB dC dI dA Fm α (wl dA Fm α σ) sz) (va_A (wl dA Fm α σ) sz)) 0 0 (va_A (wl dA Fm α σ) sz) := by
  refine m_start (own := RX7) (lv := [(0, fO α (some 200)), (1, .int a1), (2, .int a2)]) (by decide) rfl rfl (by simp only [lgl_O, lgl_I, lgl_J, lgl_N]; decide) (by simp only [lva_O, lva_I, lva_J, lva_N]) ?_
  intro p e s m below meth c hsz hC hr hlk
  generalize hA : va_A (wl dA Fm α σ) sz = A at hC ⊢
  have hA := hA.symm
  generalize hargs : ([fO α (some 200), .int a1, .int a2] : List Value).toArray = args at hC ⊢
  generalize hQ : MQ below _ args s 0 0 A = Q
  unfold wp_X7_tax at h
  refine r_aload_n hC dX7_tax_0 rfl 0 rfl ?_
  refine r_aload_n hC dX7_tax_1 rfl 0 rfl ?_
  refine r_iload_n hC dX7_tax_2 rfl 2 rfl ?_
  refine r_calli hC [fO α (some 200)] (m_runV (n := 1) (ci := 7) hC [.int a2] [fO α (some 200)] (fun sz => cm_X7_isMonth l dC dI dA α σ a2 _ h sz) gX7_tax_X7_isMonth rfl ⟨rfl, rfl⟩ (by decide +kernel) ⟨Nat.le_of_ble_eq_true rfl, Nat.le_of_ble_eq_true rfl⟩ fx_200 (ct_7 rfl) rfl rfl (Nat.le_of_ble_eq_true rfl) (by decide) dX7_tax_3) (fun x2 σ1 hn => ?_)
  clear h
  revert hn
  intro h
  refine r_iload_n hC dX7_tax_6 rfl 1 rfl ?_
  refine r_iconst (v := 0) hC dX7_tax_7 (by decide) ?_
  refine r_bipush (v := 50) hC dX7_tax_8 (by decide) ?_
  refine r_calli hC [.int x2, fO α (some 200)] (m_runS (n := 3) hC [.int a1, .int 0, .int 50] [.int x2, fO α (some 200)] (fun sz => cm_X7_isBetween l dC dI dA α σ1 a1 0 50 _ h sz) gX7_tax_X7_isBetween rfl ⟨rfl, rfl⟩ (by decide +kernel) ⟨Nat.le_of_ble_eq_true rfl, Nat.le_of_ble_eq_true rfl⟩ rfl (Nat.le_of_ble_eq_true rfl) (by decide) dX7_tax_10) (fun x4 σ3 hn => ?_)
  clear h
  revert hn
  intro h
  refine r_iconst (v := 1) hC dX7_tax_13 (by decide) ?_
  refine r_calli hC [] (m_runV (n := 3) (ci := 7) hC [.int x2, .int x4, .int 1] [] (fun sz => cm_X7_goes l dC dI dA α σ3 x2 x4 1 _ h sz) gX7_tax_X7_goes rfl ⟨rfl, rfl⟩ (by decide +kernel) ⟨Nat.le_of_ble_eq_true rfl, Nat.le_of_ble_eq_true rfl⟩ fx_200 (ct_7 rfl) rfl rfl (Nat.le_of_ble_eq_true rfl) (by decide) dX7_tax_14) (fun x6 σ5 hn => ?_)
  clear h
  revert hn
  intro h
  refine r_if_ne (tgt := 22) hC dX7_tax_17 (by decide) (fun q => ?_) (fun q => ?_)
  · replace h := h.1 q
    refine r_aload_n hC dX7_tax_22 rfl 0 rfl ?_
    refine r_iload_n hC dX7_tax_23 rfl 2 rfl ?_
    refine r_calli hC [] (m_runV (n := 1) (ci := 7) hC [.int a2] [] (fun sz => cm_X7_taxOf l dC dI dA α σ5 a2 _ h sz) gX7_tax_X7_taxOf rfl ⟨rfl, rfl⟩ (by decide +kernel) ⟨Nat.le_of_ble_eq_true rfl, Nat.le_of_ble_eq_true rfl⟩ fx_200 (ct_7 rfl) rfl rfl (Nat.le_of_ble_eq_true rfl) (by decide) dX7_tax_24) (fun x8 σ7 hn => ?_)
    clear h
    revert hn
    intro h
    refine r_istore_n (lv' := [(3, .int x8), (0, fO α (some 200)), (1, .int a1), (2, .int a2)]) hC dX7_tax_27 rfl (by decide) rfl ?_
    refine r_aload_n hC dX7_tax_28 rfl 1 rfl ?_
    refine r_get (ci := 7) (f := 25) (v := fO α (some 220)) hC kX7_tax_0 rfl (by decide) rfl kX7_tax_1 fx_200 (ct_7 rfl) rfl dX7_tax_29 ?_
    refine r_iload_n hC dX7_tax_32 rfl 3 rfl ?_
    refine r_iload_n hC dX7_tax_33 rfl 2 rfl ?_
    obtain ⟨c9, h⟩ := h
    refine r_iast hC fx_220 rfl c9 dX7_tax_34 ?_
    refine r_topm (fun σ10 qσ10 => ?_)
    replace h := h σ10 qσ10
    refine r_iload_n hC dX7_tax_35 rfl 0 rfl ?_
    subst hQ
    exact r_iret hC hA hr hlk dX7_tax_36 h
  · replace h := h.2 q
    refine r_iconst (v := 0) hC dX7_tax_20 (by decide) ?_
    subst hQ
    exact r_iret hC hA hr hlk dX7_tax_21 h
theorem kX7_doesConsent_0 : ∀ w ∈ u_ws RX7 TX7 40, w ∈ wsX7_doesConsent := by decide +kernel
theorem kX7_doesConsent_1 : (Cond.fieldLink RX7 70 "DivisionorderModel" "told" "[I") ∈ wsX7_doesConsent := by decide +kernel
set_option maxHeartbeats 4000000 in
set_option maxRecDepth 100000 in
theorem cm_X7_doesConsent (l : Launch) (dC : Nat → ClassId) (dI : Nat → Nat → Nat) (dA : Nat → ClassId) (α : Nat → Nat) (σ : Mm) (a1 : Int32) (a2 : Int32) (a3 : Int32) (Qm : Int32 → Mm → Prop) (h : wp_X7_doesConsent σ a1 a2 a3 Qm) (sz : Nat) : Met l yX7_doesConsent wsX7_doesConsent ({ frames := 0, cells := 0, slots := 0, locals := 0 } : Room) (cP dC dI dA Fm α σ sz [fO α (some 200), .int a1, .int a2, .int a3]) (va_Qi Qm (cB dC dI dA Fm α (wl dA Fm α σ) sz) (va_A (wl dA Fm α σ) sz)) 0 0 (va_A (wl dA Fm α σ) sz) := by
  refine m_start (own := RX7) (lv := [(0, fO α (some 200)), (1, .int a1), (2, .int a2), (3, .int a3)]) (by decide) rfl rfl (by simp only [lgl_O, lgl_I, lgl_J, lgl_N]; decide) (by simp only [lva_O, lva_I, lva_J, lva_N]) ?_
  intro p e s m below meth c hsz hC hr hlk
  generalize hA : va_A (wl dA Fm α σ) sz = A at hC ⊢
  have hA := hA.symm
  generalize hargs : ([fO α (some 200), .int a1, .int a2, .int a3] : List Value).toArray = args at hC ⊢
  generalize hQ : MQ below _ args s 0 0 A = Q
  unfold wp_X7_doesConsent at h
  refine r_iconst (v := 1) hC dX7_doesConsent_0 (by decide) ?_
  refine r_istore (lv' := [(4, .int 1), (0, fO α (some 200)), (1, .int a1), (2, .int a2), (3, .int a3)]) hC dX7_doesConsent_1 (by decide) rfl ?_
  refine r_iconst (v := 0) hC dX7_doesConsent_3 (by decide) ?_
  refine r_istore (lv' := [(5, .int 0), (4, .int 1), (0, fO α (some 200)), (1, .int a1), (2, .int a2), (3, .int a3)]) hC dX7_doesConsent_4 (by decide) rfl ?_
  refine r_lvs [2, 3, 4, 5, 1, 0] rfl ?_
  obtain ⟨n, h⟩ := h
  refine lpw_ind (S := Int32 × Int32) (fun s4 => G p l e ({ frames := 0, cells := 0, slots := 0, locals := 0 } : Room) s m args below meth c 0 0 Q dC dI dA Fm α A 7 σ 6 [(0, fO α (some 200)), (1, .int a1), (2, .int a2), (3, .int a3), (4, .int s4.1), (5, .int s4.2)] []) ?_ n (1, 0) h
  clear h
  intro R3 hR3 s4 h
  obtain ⟨x1, x2⟩ := s4
  refine r_iload hC dX7_doesConsent_6 5 rfl ?_
  refine r_iload_n hC dX7_doesConsent_8 rfl 3 rfl ?_
  refine r_icmp_gt (tgt := 52) hC dX7_doesConsent_9 (by decide) (fun q => ?_) (fun q => ?_)
  · replace h := h.1 q
    refine r_iload hC dX7_doesConsent_52 4 rfl ?_
    refine r_iconst (v := 1) hC dX7_doesConsent_54 (by decide) ?_
    obtain ⟨J6, hJ6, h⟩ := h
    have KJ6 : ∀ (x5 : Int32), J6 x5 → G p l e ({ frames := 0, cells := 0, slots := 0, locals := 0 } : Room) s m args below meth c 0 0 Q dC dI dA Fm α A 7 σ 63 [] [.int x5] := by
      clear h
      intro x5 h
      replace h := hJ6 x5 h
      subst hQ
      exact r_zret hC hA hr hlk dX7_doesConsent_63 h.1 h.2
    refine r_icmp_ne (tgt := 62) hC dX7_doesConsent_55 (by decide) (fun q => ?_) (fun q => ?_)
    · replace h := h.1 q
      refine r_iconst (v := 0) hC dX7_doesConsent_62 (by decide) ?_
      refine r_lvs [] rfl ?_
      exact KJ6 0 h
    · replace h := h.2 q
      refine r_iconst (v := 1) hC dX7_doesConsent_58 (by decide) ?_
      refine r_goto (tgt := 63) hC dX7_doesConsent_59 (by decide) ?_
      refine r_lvs [] rfl ?_
      exact KJ6 1 h
  · replace h := h.2 q
    refine r_aload_n hC dX7_doesConsent_12 rfl 0 rfl ?_
    refine r_get (ci := 7) (f := 26) (v := fO α (some 221)) hC kX7_doesConsent_0 rfl (by decide) rfl kX7_doesConsent_1 fx_200 (ct_7 rfl) rfl dX7_doesConsent_13 ?_
    refine r_sipush (v := 610) hC dX7_doesConsent_16 (by decide) ?_
    refine r_iload_n hC dX7_doesConsent_19 rfl 1 rfl ?_
    refine r_imul hC dX7_doesConsent_20 ?_
    refine r_bipush (v := 61) hC dX7_doesConsent_21 (by decide) ?_
    refine r_iload_n hC dX7_doesConsent_23 rfl 2 rfl ?_
    refine r_imul hC dX7_doesConsent_24 ?_
    refine r_iadd hC dX7_doesConsent_25 ?_
    refine r_iload hC dX7_doesConsent_26 5 rfl ?_
    refine r_iadd hC dX7_doesConsent_28 ?_
    obtain ⟨c7, h⟩ := h
    refine r_iald hC fx_221 rfl c7 dX7_doesConsent_29 ?_
    refine r_topi (fun x8 qx8 => ?_)
    replace h := h x8 qx8
    refine r_istore (lv' := [(6, .int x8), (0, fO α (some 200)), (1, .int a1), (2, .int a2), (3, .int a3), (4, .int x1), (5, .int x2)]) hC dX7_doesConsent_30 (by decide) rfl ?_
    refine r_iload hC dX7_doesConsent_32 0 rfl ?_
    obtain ⟨J10, hJ10, h⟩ := h
    have KJ10 : ∀ (x9 : Int32), J10 x9 → G p l e ({ frames := 0, cells := 0, slots := 0, locals := 0 } : Room) s m args below meth c 0 0 Q dC dI dA Fm α A 7 σ 44 [(0, fO α (some 200)), (1, .int a1), (2, .int a2), (3, .int a3), (5, .int x2)] [.int x9] := by
      clear h
      intro x9 h
      replace h := hJ10 x9 h
      refine r_istore (lv' := [(4, .int x9), (0, fO α (some 200)), (1, .int a1), (2, .int a2), (3, .int a3), (5, .int x2)]) hC dX7_doesConsent_44 (by decide) rfl ?_
      obtain ⟨x11, qx11⟩ : ∃ z : Int32, z = x2 + 1 := ⟨_, rfl⟩
      replace h := h x11 qx11
      refine r_iinc (v := x11) (lv' := [(5, .int x11), (4, .int x9), (0, fO α (some 200)), (1, .int a1), (2, .int a2), (3, .int a3)]) hC dX7_doesConsent_46 (k := 5) rfl (by rw [qx11]; rfl) (by decide) rfl ?_
      refine r_goto (tgt := 6) hC dX7_doesConsent_49 (by decide) ?_
      refine r_lvs [2, 3, 4, 5, 1, 0] rfl ?_
      exact hR3 _ h
    refine r_if_ne (tgt := 42) hC dX7_doesConsent_34 (by decide) (fun q => ?_) (fun q => ?_)
    · replace h := h.1 q
      refine r_iload hC dX7_doesConsent_42 0 rfl ?_
      refine r_lvs [1, 2, 3, 4, 6] rfl ?_
      exact KJ10 x8 h
    · replace h := h.2 q
      refine r_iload hC dX7_doesConsent_37 5 rfl ?_
      refine r_goto (tgt := 44) hC dX7_doesConsent_39 (by decide) ?_
      refine r_lvs [1, 2, 3, 4, 6] rfl ?_
      exact KJ10 x1 h
theorem kX7_consent_0 : ∀ w ∈ u_ws RX7 TX7 40, w ∈ wsX7_consent := by decide +kernel
theorem kX7_consent_1 : (Cond.fieldLink RX7 125 "DivisionorderModel" "units" "I") ∈ wsX7_consent := by decide +kernel
theorem kX7_consent_2 : (Cond.fieldLink RX7 122 "DivisionorderModel" "now" "I") ∈ wsX7_consent := by decide +kernel
theorem kX7_consent_3 : (Cond.fieldLink RX7 70 "DivisionorderModel" "told" "[I") ∈ wsX7_consent := by decide +kernel
set_option maxHeartbeats 4000000 in
set_option maxRecDepth 100000 in
theorem cm_X7_consent (l : Launch) (dC : Nat → ClassId) (dI : Nat → Nat → Nat) (dA : Nat → ClassId) (α : Nat → Nat) (σ : Mm) (a1 : Int32) (a2 : Int32) (a3 : Int32) (Qm : Int32 → Mm → Prop) (h : wp_X7_consent σ a1 a2 a3 Qm) (sz : Nat) : Met l yX7_consent wsX7_consent ({ frames := 2, cells := 0, slots := 0, locals := 42 } : Room) (cP dC dI dA Fm α σ sz [fO α (some 200), .int a1, .int a2, .int a3]) (va_Qi Qm (cB dC dI dA Fm α (wl dA Fm α σ) sz) (va_A (wl dA Fm α σ) sz)) 0 0 (va_A (wl dA Fm α σ) sz) := by
  refine m_start (own := RX7) (lv := [(0, fO α (some 200)), (1, .int a1), (2, .int a2), (3, .int a3)]) (by decide) rfl rfl (by simp only [lgl_O, lgl_I, lgl_J, lgl_N]; decide) (by simp only [lva_O, lva_I, lva_J, lva_N]) ?_
  intro p e s m below meth c hsz hC hr hlk
  generalize hA : va_A (wl dA Fm α σ) sz = A at hC ⊢
  have hA := hA.symm
  generalize hargs : ([fO α (some 200), .int a1, .int a2, .int a3] : List Value).toArray = args at hC ⊢
  generalize hQ : MQ below _ args s 0 0 A = Q
  unfold wp_X7_consent at h
  refine r_aload_n hC dX7_consent_0 rfl 0 rfl ?_
  refine r_iload_n hC dX7_consent_1 rfl 1 rfl ?_
  refine r_iconst (v := 0) hC dX7_consent_2 (by decide) ?_
  refine r_aload_n hC dX7_consent_3 rfl 0 rfl ?_
  refine r_get (ci := 7) (f := 18) (v := .int (gI σ 200 18)) hC kX7_consent_0 rfl (by decide) rfl kX7_consent_1 fx_200 (ct_7 rfl) rfl dX7_consent_4 ?_
  refine r_iconst (v := 1) hC dX7_consent_7 (by decide) ?_
  refine r_isub hC dX7_consent_8 ?_
  refine r_calli hC [fO α (some 200)] (m_runS (n := 3) hC [.int a1, .int 0, .int ((gI σ 200 18) - 1)] [fO α (some 200)] (fun sz => cm_X7_isBetween l dC dI dA α σ a1 0 ((gI σ 200 18) - 1) _ h sz) gX7_consent_X7_isBetween rfl ⟨rfl, rfl⟩ (by decide +kernel) ⟨Nat.le_of_ble_eq_true rfl, Nat.le_of_ble_eq_true rfl⟩ rfl (Nat.le_of_ble_eq_true rfl) (by decide) dX7_consent_9) (fun x2 σ1 hn => ?_)
  clear h
  revert hn
  intro h
  obtain ⟨J5, hJ5, h⟩ := h
  have KJ5 : ∀ (σ3 : Mm) (x4 : Int32), J5 σ3 x4 → G p l e ({ frames := 2, cells := 0, slots := 0, locals := 42 } : Room) s m args below meth c 0 0 Q dC dI dA Fm α A 5 σ3 27 [(0, fO α (some 200)), (1, .int a1), (2, .int a2), (3, .int a3)] [.int x4, fO α (some 200)] := by
    clear h
    intro σ3 x4 h
    replace h := hJ5 σ3 x4 h
    refine r_iconst (v := 1) hC dX7_consent_27 (by decide) ?_
    refine r_iconst (v := 1) hC dX7_consent_28 (by decide) ?_
    refine r_calli hC [] (m_runV (n := 3) (ci := 7) hC [.int x4, .int 1, .int 1] [] (fun sz => cm_X7_goes l dC dI dA α σ3 x4 1 1 _ h sz) gX7_consent_X7_goes rfl ⟨rfl, rfl⟩ (by decide +kernel) ⟨Nat.le_of_ble_eq_true rfl, Nat.le_of_ble_eq_true rfl⟩ fx_200 (ct_7 rfl) rfl rfl (Nat.le_of_ble_eq_true rfl) (by decide) dX7_consent_29) (fun x7 σ6 hn => ?_)
    clear h
    revert hn
    intro h
    refine r_if_ne (tgt := 37) hC dX7_consent_32 (by decide) (fun q => ?_) (fun q => ?_)
    · replace h := h.1 q
      refine r_aload_n hC dX7_consent_37 rfl 0 rfl ?_
      refine r_iload_n hC dX7_consent_38 rfl 1 rfl ?_
      refine r_iload_n hC dX7_consent_39 rfl 2 rfl ?_
      refine r_aload_n hC dX7_consent_40 rfl 0 rfl ?_
      refine r_get (ci := 7) (f := 0) (v := .int (gI σ6 200 0)) hC kX7_consent_0 rfl (by decide) rfl kX7_consent_2 fx_200 (ct_7 rfl) rfl dX7_consent_41 ?_
      refine r_calli hC [] (m_runV (n := 3) (ci := 7) hC [.int a1, .int a2, .int (gI σ6 200 0)] [] (fun sz => cm_X7_doesConsent l dC dI dA α σ6 a1 a2 (gI σ6 200 0) _ h sz) gX7_consent_X7_doesConsent rfl ⟨rfl, rfl⟩ (by decide +kernel) ⟨Nat.le_of_ble_eq_true rfl, Nat.le_of_ble_eq_true rfl⟩ fx_200 (ct_7 rfl) rfl rfl (Nat.le_of_ble_eq_true rfl) (by decide) dX7_consent_44) (fun x9 σ8 hn => ?_)
      clear h
      revert hn
      intro h
      refine r_istore (lv' := [(4, .int x9), (0, fO α (some 200)), (1, .int a1), (2, .int a2), (3, .int a3)]) hC dX7_consent_47 (by decide) rfl ?_
      refine r_aload_n hC dX7_consent_49 rfl 1 rfl ?_
      refine r_get (ci := 7) (f := 26) (v := fO α (some 221)) hC kX7_consent_0 rfl (by decide) rfl kX7_consent_3 fx_200 (ct_7 rfl) rfl dX7_consent_50 ?_
      refine r_sipush (v := 610) hC dX7_consent_53 (by decide) ?_
      refine r_iload_n hC dX7_consent_56 rfl 2 rfl ?_
      refine r_imul hC dX7_consent_57 ?_
      refine r_bipush (v := 61) hC dX7_consent_58 (by decide) ?_
      refine r_iload_n hC dX7_consent_60 rfl 3 rfl ?_
      refine r_imul hC dX7_consent_61 ?_
      refine r_iadd hC dX7_consent_62 ?_
      refine r_aload_n hC dX7_consent_63 rfl 1 rfl ?_
      refine r_get (ci := 7) (f := 0) (v := .int (gI σ8 200 0)) hC kX7_consent_0 rfl (by decide) rfl kX7_consent_2 fx_200 (ct_7 rfl) rfl dX7_consent_64 ?_
      refine r_iadd hC dX7_consent_67 ?_
      refine r_iload_n hC dX7_consent_68 rfl 4 rfl ?_
      obtain ⟨J11, hJ11, h⟩ := h
      have KJ11 : ∀ (x10 : Int32), J11 x10 → G p l e ({ frames := 2, cells := 0, slots := 0, locals := 42 } : Room) s m args below meth c 0 0 Q dC dI dA Fm α A 5 σ8 77 [(4, .int x9)] [.int x10, .int (((610 * a1) + (61 * a2)) + (gI σ8 200 0)), fO α (some 221)] := by
        clear h
        intro x10 h
        replace h := hJ11 x10 h
        obtain ⟨c12, h⟩ := h
        refine r_iast hC fx_221 rfl c12 dX7_consent_77 ?_
        refine r_topm (fun σ13 qσ13 => ?_)
        replace h := h σ13 qσ13
        refine r_iload hC dX7_consent_78 0 rfl ?_
        subst hQ
        exact r_zret hC hA hr hlk dX7_consent_80 h.1 h.2
      refine r_if_eq (tgt := 76) hC dX7_consent_69 (by decide) (fun q => ?_) (fun q => ?_)
      · replace h := h.1 q
        refine r_iconst (v := 2) hC dX7_consent_76 (by decide) ?_
        refine r_lvs [0] rfl ?_
        exact KJ11 2 h
      · replace h := h.2 q
        refine r_iconst (v := 1) hC dX7_consent_72 (by decide) ?_
        refine r_goto (tgt := 77) hC dX7_consent_73 (by decide) ?_
        refine r_lvs [0] rfl ?_
        exact KJ11 1 h
    · replace h := h.2 q
      refine r_iconst (v := 0) hC dX7_consent_35 (by decide) ?_
      subst hQ
      exact r_zret hC hA hr hlk dX7_consent_36 (show zb 0 from rfl) h
  obtain ⟨J15, hJ15, h⟩ := h
  have KJ15 : ∀ (σ14 : Mm), J15 σ14 → G p l e ({ frames := 2, cells := 0, slots := 0, locals := 42 } : Room) s m args below meth c 0 0 Q dC dI dA Fm α A 5 σ14 26 [(0, fO α (some 200)), (1, .int a1), (2, .int a2), (3, .int a3)] [fO α (some 200)] := by
    clear h
    intro σ14 h
    replace h := hJ15 σ14 h
    refine r_iconst (v := 0) hC dX7_consent_26 (by decide) ?_
    exact KJ5 σ14 0 h
  refine r_if_eq (tgt := 26) hC dX7_consent_12 (by decide) (fun q => ?_) (fun q => ?_)
  · replace h := h.1 q
    exact KJ15 σ1 h
  · replace h := h.2 q
    refine r_iload_n hC dX7_consent_15 rfl 2 rfl ?_
    refine r_calli hC [fO α (some 200)] (m_runS (n := 1) hC [.int a2] [fO α (some 200)] (fun sz => cm_X7_isOwner l dC dI dA α σ1 a2 _ h sz) gX7_consent_X7_isOwner rfl ⟨rfl, rfl⟩ (by decide +kernel) ⟨Nat.le_of_ble_eq_true rfl, Nat.le_of_ble_eq_true rfl⟩ rfl (Nat.le_of_ble_eq_true rfl) (by decide) dX7_consent_16) (fun x17 σ16 hn => ?_)
    clear h
    revert hn
    intro h
    refine r_if_eq (tgt := 26) hC dX7_consent_19 (by decide) (fun q => ?_) (fun q => ?_)
    · replace h := h.1 q
      exact KJ15 σ16 h
    · replace h := h.2 q
      refine r_iconst (v := 1) hC dX7_consent_22 (by decide) ?_
      refine r_goto (tgt := 27) hC dX7_consent_23 (by decide) ?_
      exact KJ5 σ16 1 h
theorem kX7_penalty_0 : ∀ w ∈ u_ws RX7 TX7 40, w ∈ wsX7_penalty := by decide +kernel
theorem kX7_penalty_1 : (Cond.fieldLink RX7 73 "DivisionorderModel" "penalty" "I") ∈ wsX7_penalty := by decide +kernel
set_option maxHeartbeats 4000000 in
set_option maxRecDepth 100000 in
theorem cm_X7_penalty (l : Launch) (dC : Nat → ClassId) (dI : Nat → Nat → Nat) (dA : Nat → ClassId) (α : Nat → Nat) (σ : Mm) (a1 : Int32) (Qm : Int32 → Mm → Prop) (h : wp_X7_penalty σ a1 Qm) (sz : Nat) : Met l yX7_penalty wsX7_penalty ({ frames := 1, cells := 0, slots := 0, locals := 23 } : Room) (cP dC dI dA Fm α σ sz [fO α (some 200), .int a1]) (va_Qi Qm (cB dC dI dA Fm α (wl dA Fm α σ) sz) (va_A (wl dA Fm α σ) sz)) 0 0 (va_A (wl dA Fm α σ) sz) := by
  refine m_start (own := RX7) (lv := [(0, fO α (some 200)), (1, .int a1)]) (by decide) rfl rfl (by simp only [lgl_O, lgl_I, lgl_J, lgl_N]; decide) (by simp only [lva_O, lva_I, lva_J, lva_N]) ?_
  intro p e s m below meth c hsz hC hr hlk
  generalize hA : va_A (wl dA Fm α σ) sz = A at hC ⊢
  have hA := hA.symm
  generalize hargs : ([fO α (some 200), .int a1] : List Value).toArray = args at hC ⊢
  generalize hQ : MQ below _ args s 0 0 A = Q
  unfold wp_X7_penalty at h
  refine r_aload_n hC dX7_penalty_0 rfl 0 rfl ?_
  refine r_iload_n hC dX7_penalty_1 rfl 1 rfl ?_
  refine r_bipush (v := 100) hC dX7_penalty_2 (by decide) ?_
  refine r_sipush (v := 500) hC dX7_penalty_4 (by decide) ?_
  refine r_calli hC [fO α (some 200)] (m_runS (n := 3) hC [.int a1, .int 100, .int 500] [fO α (some 200)] (fun sz => cm_X7_isBetween l dC dI dA α σ a1 100 500 _ h sz) gX7_penalty_X7_isBetween rfl ⟨rfl, rfl⟩ (by decide +kernel) ⟨Nat.le_of_ble_eq_true rfl, Nat.le_of_ble_eq_true rfl⟩ rfl (Nat.le_of_ble_eq_true rfl) (by decide) dX7_penalty_7) (fun x2 σ1 hn => ?_)
  clear h
  revert hn
  intro h
  refine r_iconst (v := 1) hC dX7_penalty_10 (by decide) ?_
  refine r_iconst (v := 1) hC dX7_penalty_11 (by decide) ?_
  refine r_calli hC [] (m_runV (n := 3) (ci := 7) hC [.int x2, .int 1, .int 1] [] (fun sz => cm_X7_goes l dC dI dA α σ1 x2 1 1 _ h sz) gX7_penalty_X7_goes rfl ⟨rfl, rfl⟩ (by decide +kernel) ⟨Nat.le_of_ble_eq_true rfl, Nat.le_of_ble_eq_true rfl⟩ fx_200 (ct_7 rfl) rfl rfl (Nat.le_of_ble_eq_true rfl) (by decide) dX7_penalty_12) (fun x4 σ3 hn => ?_)
  clear h
  revert hn
  intro h
  refine r_if_ne (tgt := 20) hC dX7_penalty_15 (by decide) (fun q => ?_) (fun q => ?_)
  · replace h := h.1 q
    refine r_aload_n hC dX7_penalty_20 rfl 0 rfl ?_
    refine r_get (ci := 7) (f := 27) (v := .int (gI σ3 200 27)) hC kX7_penalty_0 rfl (by decide) rfl kX7_penalty_1 fx_200 (ct_7 rfl) rfl dX7_penalty_21 ?_
    refine r_topi (fun x5 qx5 => ?_)
    replace h := h x5 qx5
    refine r_istore_n (lv' := [(2, .int x5), (0, fO α (some 200)), (1, .int a1)]) hC dX7_penalty_24 rfl (by decide) rfl ?_
    refine r_aload_n hC dX7_penalty_25 rfl 1 rfl ?_
    refine r_iload_n hC dX7_penalty_26 rfl 2 rfl ?_
    refine r_put (ci := 7) (f := 27) (v := .int a1) (σ' := sI σ3 200 27 a1) hC kX7_penalty_0 tyX7 tyX7_ok nmX7 rfl (by decide) rfl kX7_penalty_1 fx_200 (ct_7 rfl) rfl rfl (Nat.le_of_ble_eq_true rfl) (pt_7_27 rfl) ct_sI dX7_penalty_27 ?_
    refine r_topm (fun σ6 qσ6 => ?_)
    replace h := h σ6 qσ6
    refine r_iload_n hC dX7_penalty_30 rfl 0 rfl ?_
    subst hQ
    exact r_iret hC hA hr hlk dX7_penalty_31 h
  · replace h := h.2 q
    refine r_iconst (v := 0) hC dX7_penalty_18 (by decide) ?_
    subst hQ
    exact r_iret hC hA hr hlk dX7_penalty_19 h
theorem kX7_leaseOf_0 : ∀ w ∈ u_ws RX7 TX7 40, w ∈ wsX7_leaseOf := by decide +kernel
theorem kX7_leaseOf_1 : (Cond.fieldLink RX7 149 "DivisionorderModel" "leases" "I") ∈ wsX7_leaseOf := by decide +kernel
theorem kX7_leaseOf_2 : (Cond.fieldLink RX7 34 "DivisionorderModel" "leaseTract" "[I") ∈ wsX7_leaseOf := by decide +kernel
theorem kX7_leaseOf_3 : (Cond.fieldLink RX7 37 "DivisionorderModel" "lessor" "[I") ∈ wsX7_leaseOf := by decide +kernel
set_option maxHeartbeats 4000000 in
set_option maxRecDepth 100000 in
theorem cm_X7_leaseOf (l : Launch) (dC : Nat → ClassId) (dI : Nat → Nat → Nat) (dA : Nat → ClassId) (α : Nat → Nat) (σ : Mm) (a1 : Int32) (a2 : Int32) (a3 : Int32) (Qm : Int32 → Mm → Prop) (h : wp_X7_leaseOf σ a1 a2 a3 Qm) (sz : Nat) : Met l yX7_leaseOf wsX7_leaseOf ({ frames := 2, cells := 0, slots := 0, locals := 49 } : Room) (cP dC dI dA Fm α σ sz [fO α (some 200), .int a1, .int a2, .int a3]) (va_Qi Qm (cB dC dI dA Fm α (wl dA Fm α σ) sz) (va_A (wl dA Fm α σ) sz)) 0 0 (va_A (wl dA Fm α σ) sz) := by
  refine m_start (own := RX7) (lv := [(0, fO α (some 200)), (1, .int a1), (2, .int a2), (3, .int a3)]) (by decide) rfl rfl (by simp only [lgl_O, lgl_I, lgl_J, lgl_N]; decide) (by simp only [lva_O, lva_I, lva_J, lva_N]) ?_
  intro p e s m below meth c hsz hC hr hlk
  generalize hA : va_A (wl dA Fm α σ) sz = A at hC ⊢
  have hA := hA.symm
  generalize hargs : ([fO α (some 200), .int a1, .int a2, .int a3] : List Value).toArray = args at hC ⊢
  generalize hQ : MQ below _ args s 0 0 A = Q
  unfold wp_X7_leaseOf at h
  refine r_iconst (v := (-1)) hC dX7_leaseOf_0 (by decide) ?_
  refine r_istore (lv' := [(4, .int (-1)), (0, fO α (some 200)), (1, .int a1), (2, .int a2), (3, .int a3)]) hC dX7_leaseOf_1 (by decide) rfl ?_
  refine r_aload_n hC dX7_leaseOf_3 rfl 1 rfl ?_
  refine r_get (ci := 7) (f := 11) (v := .int (gI σ 200 11)) hC kX7_leaseOf_0 rfl (by decide) rfl kX7_leaseOf_1 fx_200 (ct_7 rfl) rfl dX7_leaseOf_4 ?_
  refine r_iconst (v := 1) hC dX7_leaseOf_7 (by decide) ?_
  refine r_isub hC dX7_leaseOf_8 ?_
  refine r_topi (fun x1 qx1 => ?_)
  replace h := h x1 qx1
  refine r_istore (lv' := [(5, .int x1), (4, .int (-1)), (0, fO α (some 200)), (1, .int a1), (2, .int a2), (3, .int a3)]) hC dX7_leaseOf_9 (by decide) rfl ?_
  refine r_lvs [2, 3, 4, 5, 1, 0] rfl ?_
  obtain ⟨n, h⟩ := h
  refine lpw_ind (S := Mm × Int32 × Int32) (fun s6 => G p l e ({ frames := 2, cells := 0, slots := 0, locals := 49 } : Room) s m args below meth c 0 0 Q dC dI dA Fm α A 6 s6.1 11 [(0, fO α (some 200)), (1, .int a1), (2, .int a2), (3, .int a3), (4, .int s6.2.1), (5, .int s6.2.2)] []) ?_ n (σ, (-1), x1) h
  clear h
  intro R5 hR5 s6 h
  obtain ⟨σ2, x3, x4⟩ := s6
  refine r_iload hC dX7_leaseOf_11 5 rfl ?_
  refine r_if_lt (tgt := 63) hC dX7_leaseOf_13 (by decide) (fun q => ?_) (fun q => ?_)
  · replace h := h.1 q
    refine r_iload hC dX7_leaseOf_63 4 rfl ?_
    subst hQ
    exact r_iret hC hA hr hlk dX7_leaseOf_65 h
  · replace h := h.2 q
    refine r_aload_n hC dX7_leaseOf_16 rfl 0 rfl ?_
    refine r_get (ci := 7) (f := 12) (v := fO α (some 209)) hC kX7_leaseOf_0 rfl (by decide) rfl kX7_leaseOf_2 fx_200 (ct_7 rfl) rfl dX7_leaseOf_17 ?_
    refine r_iload hC dX7_leaseOf_20 5 rfl ?_
    obtain ⟨c7, h⟩ := h
    refine r_iald hC fx_209 rfl c7 dX7_leaseOf_22 ?_
    refine r_iload_n hC dX7_leaseOf_23 rfl 1 rfl ?_
    obtain ⟨J10, hJ10, h⟩ := h
    have KJ10 : ∀ (σ8 : Mm) (x9 : Int32), J10 σ8 x9 → G p l e ({ frames := 2, cells := 0, slots := 0, locals := 49 } : Room) s m args below meth c 0 0 Q dC dI dA Fm α A 6 σ8 55 [(0, fO α (some 200)), (1, .int a1), (2, .int a2), (3, .int a3), (5, .int x4)] [.int x9] := by
      clear h
      intro σ8 x9 h
      replace h := hJ10 σ8 x9 h
      refine r_istore (lv' := [(4, .int x9), (0, fO α (some 200)), (1, .int a1), (2, .int a2), (3, .int a3), (5, .int x4)]) hC dX7_leaseOf_55 (by decide) rfl ?_
      obtain ⟨x11, qx11⟩ : ∃ z : Int32, z = x4 + (-1) := ⟨_, rfl⟩
      replace h := h x11 qx11
      refine r_iinc (v := x11) (lv' := [(5, .int x11), (4, .int x9), (0, fO α (some 200)), (1, .int a1), (2, .int a2), (3, .int a3)]) hC dX7_leaseOf_57 (k := 5) rfl (by rw [qx11]; rfl) (by decide) rfl ?_
      refine r_goto (tgt := 11) hC dX7_leaseOf_60 (by decide) ?_
      refine r_lvs [2, 3, 4, 5, 1, 0] rfl ?_
      exact hR5 _ h
    obtain ⟨J13, hJ13, h⟩ := h
    have KJ13 : ∀ (σ12 : Mm), J13 σ12 → G p l e ({ frames := 2, cells := 0, slots := 0, locals := 49 } : Room) s m args below meth c 0 0 Q dC dI dA Fm α A 6 σ12 53 [(0, fO α (some 200)), (1, .int a1), (2, .int a2), (3, .int a3), (4, .int x3), (5, .int x4)] [] := by
      clear h
      intro σ12 h
      replace h := hJ13 σ12 h
      refine r_iload hC dX7_leaseOf_53 4 rfl ?_
      refine r_lvs [0, 1, 2, 3, 5] rfl ?_
      exact KJ10 σ12 x3 h
    refine r_icmp_ne (tgt := 53) hC dX7_leaseOf_24 (by decide) (fun q => ?_) (fun q => ?_)
    · replace h := h.1 q
      exact KJ13 σ2 h
    · replace h := h.2 q
      refine r_aload_n hC dX7_leaseOf_27 rfl 0 rfl ?_
      refine r_get (ci := 7) (f := 13) (v := fO α (some 210)) hC kX7_leaseOf_0 rfl (by decide) rfl kX7_leaseOf_3 fx_200 (ct_7 rfl) rfl dX7_leaseOf_28 ?_
      refine r_iload hC dX7_leaseOf_31 5 rfl ?_
      obtain ⟨c14, h⟩ := h
      refine r_iald hC fx_210 rfl c14 dX7_leaseOf_33 ?_
      refine r_iload_n hC dX7_leaseOf_34 rfl 2 rfl ?_
      refine r_icmp_ne (tgt := 53) hC dX7_leaseOf_35 (by decide) (fun q => ?_) (fun q => ?_)
      · replace h := h.1 q
        exact KJ13 σ2 h
      · replace h := h.2 q
        refine r_aload_n hC dX7_leaseOf_38 rfl 0 rfl ?_
        refine r_iload hC dX7_leaseOf_39 5 rfl ?_
        refine r_iload_n hC dX7_leaseOf_41 rfl 3 rfl ?_
        refine r_calli hC [] (m_runV (n := 2) (ci := 7) hC [.int x4, .int a3] [] (fun sz => cm_X7_holds l dC dI dA α σ2 x4 a3 _ h sz) gX7_leaseOf_X7_holds rfl ⟨rfl, rfl⟩ (by decide +kernel) ⟨Nat.le_of_ble_eq_true rfl, Nat.le_of_ble_eq_true rfl⟩ fx_200 (ct_7 rfl) rfl rfl (Nat.le_of_ble_eq_true rfl) (by decide) dX7_leaseOf_42) (fun x16 σ15 hn => ?_)
        clear h
        revert hn
        intro h
        refine r_if_eq (tgt := 53) hC dX7_leaseOf_45 (by decide) (fun q => ?_) (fun q => ?_)
        · replace h := h.1 q
          exact KJ13 σ15 h
        · replace h := h.2 q
          refine r_iload hC dX7_leaseOf_48 5 rfl ?_
          refine r_goto (tgt := 55) hC dX7_leaseOf_50 (by decide) ?_
          refine r_lvs [0, 1, 2, 3, 5] rfl ?_
          exact KJ10 σ15 x4 h
theorem kX7_decks_0 : ∀ w ∈ u_ws RX7 TX7 40, w ∈ wsX7_decks := by decide +kernel
theorem kX7_decks_1 : (Cond.fieldLink RX7 119 "DivisionorderModel" "tracts" "I") ∈ wsX7_decks := by decide +kernel
theorem kX7_decks_2 : (Cond.fieldLink RX7 16 "DivisionorderModel" "unitOf" "[I") ∈ wsX7_decks := by decide +kernel
theorem kX7_decks_3 : (Cond.fieldLink RX7 7 "DivisionorderModel" "acres" "[I") ∈ wsX7_decks := by decide +kernel
theorem kX7_decks_4 : (Cond.fieldLink RX7 88 "DivisionorderModel" "deck" "[J") ∈ wsX7_decks := by decide +kernel
theorem kX7_decks_5 : (Cond.fieldLink RX7 43 "DivisionorderModel" "royalty" "[I") ∈ wsX7_decks := by decide +kernel
theorem kX7_decks_6 : (Cond.fieldLink RX7 40 "DivisionorderModel" "lessee" "[I") ∈ wsX7_decks := by decide +kernel
theorem kX7_decks_7 : (Cond.constantLong RX7 177 (1000)) ∈ wsX7_decks := by decide +kernel
set_option maxHeartbeats 4000000 in
set_option maxRecDepth 100000 in
theorem cm_X7_decks (l : Launch) (dC : Nat → ClassId) (dI : Nat → Nat → Nat) (dA : Nat → ClassId) (α : Nat → Nat) (σ : Mm) (a1 : Int32) (a2 : Int32) (Qm : Mm → Prop) (h : wp_X7_decks σ a1 a2 Qm) (sz : Nat) : Met l yX7_decks wsX7_decks ({ frames := 3, cells := 0, slots := 0, locals := 74 } : Room) (cP dC dI dA Fm α σ sz [fO α (some 200), .int a1, .int a2]) (va_Qv Qm (cB dC dI dA Fm α (wl dA Fm α σ) sz) (va_A (wl dA Fm α σ) sz)) 0 0 (va_A (wl dA Fm α σ) sz) := by
  refine m_start (own := RX7) (lv := [(0, fO α (some 200)), (1, .int a1), (2, .int a2)]) (by decide) rfl rfl (by simp only [lgl_O, lgl_I, lgl_J, lgl_N]; decide) (by simp only [lva_O, lva_I, lva_J, lva_N]) ?_
  intro p e s m below meth c hsz hC hr hlk
  generalize hA : va_A (wl dA Fm α σ) sz = A at hC ⊢
  have hA := hA.symm
  generalize hargs : ([fO α (some 200), .int a1, .int a2] : List Value).toArray = args at hC ⊢
  generalize hQ : MQ below _ args s 0 0 A = Q
  unfold wp_X7_decks at h
  refine r_iconst (v := 0) hC dX7_decks_0 (by decide) ?_
  refine r_istore_n (lv' := [(3, .int 0), (0, fO α (some 200)), (1, .int a1), (2, .int a2)]) hC dX7_decks_1 rfl (by decide) rfl ?_
  refine r_lvs [1, 2, 3, 0] rfl ?_
  obtain ⟨n, h⟩ := h
  refine lpw_ind (S := Mm × Int32) (fun s4 => G p l e ({ frames := 3, cells := 0, slots := 0, locals := 74 } : Room) s m args below meth c 0 0 Q dC dI dA Fm α A 8 s4.1 2 [(0, fO α (some 200)), (1, .int a1), (2, .int a2), (3, .int s4.2)] []) ?_ n (σ, 0) h
  clear h
  intro R3 hR3 s4 h
  obtain ⟨σ1, x2⟩ := s4
  refine r_iload_n hC dX7_decks_2 rfl 3 rfl ?_
  refine r_bipush (v := 20) hC dX7_decks_3 (by decide) ?_
  refine r_icmp_ge (tgt := 21) hC dX7_decks_5 (by decide) (fun q => ?_) (fun q => ?_)
  · replace h := h.1 q
    refine r_iconst (v := 0) hC dX7_decks_21 (by decide) ?_
    refine r_istore_n (lv' := [(3, .int 0), (0, fO α (some 200)), (1, .int a1), (2, .int a2)]) hC dX7_decks_22 rfl (by decide) rfl ?_
    refine r_lvs [1, 2, 3, 0] rfl ?_
    obtain ⟨n, h⟩ := h
    refine lpw_ind (S := Mm × Int32) (fun s8 => G p l e ({ frames := 3, cells := 0, slots := 0, locals := 74 } : Room) s m args below meth c 0 0 Q dC dI dA Fm α A 8 s8.1 23 [(0, fO α (some 200)), (1, .int a1), (2, .int a2), (3, .int s8.2)] []) ?_ n (σ1, 0) h
    clear h
    intro R7 hR7 s8 h
    obtain ⟨σ5, x6⟩ := s8
    refine r_iload_n hC dX7_decks_23 rfl 3 rfl ?_
    refine r_aload_n hC dX7_decks_24 rfl 0 rfl ?_
    refine r_get (ci := 7) (f := 1) (v := .int (gI σ5 200 1)) hC kX7_decks_0 rfl (by decide) rfl kX7_decks_1 fx_200 (ct_7 rfl) rfl dX7_decks_25 ?_
    refine r_icmp_ge (tgt := 185) hC dX7_decks_28 (by decide) (fun q => ?_) (fun q => ?_)
    · replace h := h.1 q
      subst hQ
      exact r_vret hC hA hr hlk dX7_decks_185 h
    · replace h := h.2 q
      refine r_iconst (v := 0) hC dX7_decks_31 (by decide) ?_
      refine r_istore (lv' := [(4, .int 0), (0, fO α (some 200)), (1, .int a1), (2, .int a2), (3, .int x6)]) hC dX7_decks_32 (by decide) rfl ?_
      refine r_lvs [1, 2, 3, 4, 0] rfl ?_
      obtain ⟨n, h⟩ := h
      refine lpw_ind (S := Mm × Int32) (fun s12 => G p l e ({ frames := 3, cells := 0, slots := 0, locals := 74 } : Room) s m args below meth c 0 0 Q dC dI dA Fm α A 8 s12.1 34 [(0, fO α (some 200)), (1, .int a1), (2, .int a2), (3, .int x6), (4, .int s12.2)] []) ?_ n (σ5, 0) h
      clear h
      intro R11 hR11 s12 h
      obtain ⟨σ9, x10⟩ := s12
      refine r_iload hC dX7_decks_34 4 rfl ?_
      refine r_bipush (v := 10) hC dX7_decks_36 (by decide) ?_
      obtain ⟨J13, hJ13, h⟩ := h
      have KJ13 : J13 → G p l e ({ frames := 3, cells := 0, slots := 0, locals := 74 } : Room) s m args below meth c 0 0 Q dC dI dA Fm α A 8 σ9 179 [(0, fO α (some 200)), (1, .int a1), (2, .int a2), (3, .int x6)] [] := by
        clear h
        intro h
        replace h := hJ13 h
        obtain ⟨x14, qx14⟩ : ∃ z : Int32, z = x6 + 1 := ⟨_, rfl⟩
        replace h := h x14 qx14
        refine r_iinc (v := x14) (lv' := [(3, .int x14), (0, fO α (some 200)), (1, .int a1), (2, .int a2)]) hC dX7_decks_179 (k := 3) rfl (by rw [qx14]; rfl) (by decide) rfl ?_
        refine r_goto (tgt := 23) hC dX7_decks_182 (by decide) ?_
        refine r_lvs [1, 2, 3, 0] rfl ?_
        exact hR7 _ h
      refine r_icmp_ge (tgt := 179) hC dX7_decks_38 (by decide) (fun q => ?_) (fun q => ?_)
      · replace h := h.1 q
        refine r_lvs [0, 1, 2, 3] rfl ?_
        exact KJ13 h
      · replace h := h.2 q
        refine r_aload_n hC dX7_decks_41 rfl 0 rfl ?_
        refine r_get (ci := 7) (f := 4) (v := fO α (some 203)) hC kX7_decks_0 rfl (by decide) rfl kX7_decks_2 fx_200 (ct_7 rfl) rfl dX7_decks_42 ?_
        refine r_iload_n hC dX7_decks_45 rfl 3 rfl ?_
        obtain ⟨c15, h⟩ := h
        refine r_iald hC fx_203 rfl c15 dX7_decks_46 ?_
        refine r_iload_n hC dX7_decks_47 rfl 1 rfl ?_
        refine r_icmp_ne (tgt := 179) hC dX7_decks_48 (by decide) (fun q => ?_) (fun q => ?_)
        · replace h := h.1 q
          refine r_lvs [0, 1, 2, 3] rfl ?_
          exact KJ13 h
        · replace h := h.2 q
          refine r_aload_n hC dX7_decks_51 rfl 0 rfl ?_
          refine r_get (ci := 7) (f := 2) (v := fO α (some 201)) hC kX7_decks_0 rfl (by decide) rfl kX7_decks_3 fx_200 (ct_7 rfl) rfl dX7_decks_52 ?_
          refine r_iload_n hC dX7_decks_55 rfl 3 rfl ?_
          obtain ⟨c16, h⟩ := h
          refine r_iald hC fx_201 rfl c16 dX7_decks_56 ?_
          refine r_i2l hC dX7_decks_57 ?_
          refine r_aload_n hC dX7_decks_58 rfl 0 rfl ?_
          refine r_iload_n hC dX7_decks_59 rfl 3 rfl ?_
          refine r_iload hC dX7_decks_60 4 rfl ?_
          refine r_iload_n hC dX7_decks_62 rfl 2 rfl ?_
          refine r_calli hC [.long ((gI σ9 201 x6.toNatClampNeg).toInt64)] (m_runV (n := 3) (ci := 7) hC [.int x6, .int x10, .int a2] [.long ((gI σ9 201 x6.toNatClampNeg).toInt64)] (fun sz => cm_X7_titleOf l dC dI dA α σ9 x6 x10 a2 _ h sz) gX7_decks_X7_titleOf rfl ⟨rfl, rfl⟩ (by decide +kernel) ⟨Nat.le_of_ble_eq_true rfl, Nat.le_of_ble_eq_true rfl⟩ fx_200 (ct_7 rfl) rfl rfl (Nat.le_of_ble_eq_true rfl) (by decide) dX7_decks_63) (fun x18 σ17 hn => ?_)
          clear h
          revert hn
          intro h
          refine r_i2l hC dX7_decks_66 ?_
          refine r_lmul hC dX7_decks_67 ?_
          refine r_topl (fun y19 qy19 => ?_)
          replace h := h y19 qy19
          refine r_lstore (lv' := [(5, .long y19), (0, fO α (some 200)), (1, .int a1), (2, .int a2), (3, .int x6), (4, .int x10)]) hC dX7_decks_68 (by decide) rfl ?_
          refine r_lload hC dX7_decks_70 0 rfl ?_
          refine r_lconst (v := 0) hC dX7_decks_72 (by decide) ?_
          obtain ⟨J22, hJ22, h⟩ := h
          have KJ22 : ∀ (σ20 : Mm) (x21 : Int32), J22 σ20 x21 → G p l e ({ frames := 3, cells := 0, slots := 0, locals := 74 } : Room) s m args below meth c 0 0 Q dC dI dA Fm α A 8 σ20 89 [(0, fO α (some 200)), (1, .int a1), (2, .int a2), (3, .int x6), (4, .int x10), (5, .long y19)] [.int x21] := by
            clear h
            intro σ20 x21 h
            replace h := hJ22 σ20 x21 h
            refine r_istore (lv' := [(7, .int x21), (0, fO α (some 200)), (1, .int a1), (2, .int a2), (3, .int x6), (4, .int x10), (5, .long y19)]) hC dX7_decks_89 (by decide) rfl ?_
            refine r_iload hC dX7_decks_91 0 rfl ?_
            refine r_iconst (v := (-1)) hC dX7_decks_93 (by decide) ?_
            obtain ⟨J24, hJ24, h⟩ := h
            have KJ24 : ∀ (σ23 : Mm), J24 σ23 → G p l e ({ frames := 3, cells := 0, slots := 0, locals := 74 } : Room) s m args below meth c 0 0 Q dC dI dA Fm α A 8 σ23 173 [(0, fO α (some 200)), (1, .int a1), (2, .int a2), (3, .int x6), (4, .int x10)] [] := by
              clear h
              intro σ23 h
              replace h := hJ24 σ23 h
              obtain ⟨x25, qx25⟩ : ∃ z : Int32, z = x10 + 1 := ⟨_, rfl⟩
              replace h := h x25 qx25
              refine r_iinc (v := x25) (lv' := [(4, .int x25), (0, fO α (some 200)), (1, .int a1), (2, .int a2), (3, .int x6)]) hC dX7_decks_173 (k := 4) rfl (by rw [qx25]; rfl) (by decide) rfl ?_
              refine r_goto (tgt := 34) hC dX7_decks_176 (by decide) ?_
              refine r_lvs [1, 2, 3, 4, 0] rfl ?_
              exact hR11 _ h
            refine r_icmp_ne (tgt := 119) hC dX7_decks_94 (by decide) (fun q => ?_) (fun q => ?_)
            · replace h := h.1 q
              refine r_aload_n hC dX7_decks_119 rfl 1 rfl ?_
              refine r_get (ci := 7) (f := 31) (v := fO α (some 224)) hC kX7_decks_0 rfl (by decide) rfl kX7_decks_4 fx_200 (ct_7 rfl) rfl dX7_decks_120 ?_
              refine r_iload hC dX7_decks_123 5 rfl ?_
              refine r_dup2 hC rfl fO_cat dX7_decks_125 ?_
              obtain ⟨c26, h⟩ := h
              refine r_lald hC fx_224 rfl c26 dX7_decks_126 ?_
              refine r_aload_n hC dX7_decks_127 rfl 1 rfl ?_
              refine r_get (ci := 7) (f := 15) (v := fO α (some 212)) hC kX7_decks_0 rfl (by decide) rfl kX7_decks_5 fx_200 (ct_7 rfl) rfl dX7_decks_128 ?_
              refine r_iload hC dX7_decks_131 0 rfl ?_
              obtain ⟨c27, h⟩ := h
              refine r_iald hC fx_212 rfl c27 dX7_decks_133 ?_
              refine r_i2l hC dX7_decks_134 ?_
              refine r_lload hC dX7_decks_135 6 rfl ?_
              refine r_lmul hC dX7_decks_137 ?_
              refine r_ladd hC dX7_decks_138 ?_
              obtain ⟨c28, h⟩ := h
              refine r_last hC fx_224 rfl c28 dX7_decks_139 ?_
              refine r_topm (fun σ29 qσ29 => ?_)
              replace h := h σ29 qσ29
              refine r_aload_n hC dX7_decks_140 rfl 1 rfl ?_
              refine r_get (ci := 7) (f := 31) (v := fO α (some 224)) hC kX7_decks_0 rfl (by decide) rfl kX7_decks_4 fx_200 (ct_7 rfl) rfl dX7_decks_141 ?_
              refine r_bipush (v := 10) hC dX7_decks_144 (by decide) ?_
              refine r_aload_n hC dX7_decks_146 rfl 1 rfl ?_
              refine r_get (ci := 7) (f := 14) (v := fO α (some 211)) hC kX7_decks_0 rfl (by decide) rfl kX7_decks_6 fx_200 (ct_7 rfl) rfl dX7_decks_147 ?_
              refine r_iload hC dX7_decks_150 0 rfl ?_
              obtain ⟨c30, h⟩ := h
              refine r_iald hC fx_211 rfl c30 dX7_decks_152 ?_
              refine r_iadd hC dX7_decks_153 ?_
              refine r_dup2 hC rfl fO_cat dX7_decks_154 ?_
              obtain ⟨c31, h⟩ := h
              refine r_lald hC fx_224 rfl c31 dX7_decks_155 ?_
              refine r_sipush (v := 1000) hC dX7_decks_156 (by decide) ?_
              refine r_aload_n hC dX7_decks_159 rfl 1 rfl ?_
              refine r_get (ci := 7) (f := 15) (v := fO α (some 212)) hC kX7_decks_0 rfl (by decide) rfl kX7_decks_5 fx_200 (ct_7 rfl) rfl dX7_decks_160 ?_
              refine r_iload hC dX7_decks_163 0 rfl ?_
              obtain ⟨c32, h⟩ := h
              refine r_iald hC fx_212 rfl c32 dX7_decks_165 ?_
              refine r_isub hC dX7_decks_166 ?_
              refine r_i2l hC dX7_decks_167 ?_
              refine r_lload hC dX7_decks_168 6 rfl ?_
              refine r_lmul hC dX7_decks_170 ?_
              refine r_ladd hC dX7_decks_171 ?_
              obtain ⟨c33, h⟩ := h
              refine r_last hC fx_224 rfl c33 dX7_decks_172 ?_
              refine r_topm (fun σ34 qσ34 => ?_)
              replace h := h σ34 qσ34
              refine r_lvs [1, 2, 3, 4, 5] rfl ?_
              exact KJ24 σ34 h
            · replace h := h.2 q
              refine r_aload_n hC dX7_decks_97 rfl 1 rfl ?_
              refine r_get (ci := 7) (f := 31) (v := fO α (some 224)) hC kX7_decks_0 rfl (by decide) rfl kX7_decks_4 fx_200 (ct_7 rfl) rfl dX7_decks_98 ?_
              refine r_bipush (v := 10) hC dX7_decks_101 (by decide) ?_
              refine r_iload hC dX7_decks_103 5 rfl ?_
              refine r_iadd hC dX7_decks_105 ?_
              refine r_dup2 hC rfl fO_cat dX7_decks_106 ?_
              obtain ⟨c35, h⟩ := h
              refine r_lald hC fx_224 rfl c35 dX7_decks_107 ?_
              refine r_ldc2 (v := 1000) hC kX7_decks_7 dX7_decks_108 ?_
              refine r_lload hC dX7_decks_111 6 rfl ?_
              refine r_lmul hC dX7_decks_113 ?_
              refine r_ladd hC dX7_decks_114 ?_
              obtain ⟨c36, h⟩ := h
              refine r_last hC fx_224 rfl c36 dX7_decks_115 ?_
              refine r_topm (fun σ37 qσ37 => ?_)
              replace h := h σ37 qσ37
              refine r_goto (tgt := 173) hC dX7_decks_116 (by decide) ?_
              refine r_lvs [1, 2, 3, 4, 5] rfl ?_
              exact KJ24 σ37 h
          refine r_lcmp_le (tgt := 88) hC dX7_decks_73 dX7_decks_74 (by decide) (fun q => ?_) (fun q => ?_)
          · replace h := h.1 q
            refine r_iconst (v := (-1)) hC dX7_decks_88 (by decide) ?_
            refine r_lvs [1, 2, 3, 4, 5, 0] rfl ?_
            exact KJ22 σ17 (-1) h
          · replace h := h.2 q
            refine r_aload_n hC dX7_decks_77 rfl 1 rfl ?_
            refine r_iload_n hC dX7_decks_78 rfl 4 rfl ?_
            refine r_iload hC dX7_decks_79 5 rfl ?_
            refine r_iload_n hC dX7_decks_81 rfl 3 rfl ?_
            refine r_calli hC [] (m_runV (n := 3) (ci := 7) hC [.int x6, .int x10, .int a2] [] (fun sz => cm_X7_leaseOf l dC dI dA α σ17 x6 x10 a2 _ h sz) gX7_decks_X7_leaseOf rfl ⟨rfl, rfl⟩ (by decide +kernel) ⟨Nat.le_of_ble_eq_true rfl, Nat.le_of_ble_eq_true rfl⟩ fx_200 (ct_7 rfl) rfl rfl (Nat.le_of_ble_eq_true rfl) (by decide) dX7_decks_82) (fun x39 σ38 hn => ?_)
            clear h
            revert hn
            intro h
            refine r_goto (tgt := 89) hC dX7_decks_85 (by decide) ?_
            refine r_lvs [1, 2, 3, 4, 5, 0] rfl ?_
            exact KJ22 σ38 x39 h
  · replace h := h.2 q
    refine r_aload_n hC dX7_decks_8 rfl 0 rfl ?_
    refine r_get (ci := 7) (f := 31) (v := fO α (some 224)) hC kX7_decks_0 rfl (by decide) rfl kX7_decks_4 fx_200 (ct_7 rfl) rfl dX7_decks_9 ?_
    refine r_iload_n hC dX7_decks_12 rfl 3 rfl ?_
    refine r_lconst (v := 0) hC dX7_decks_13 (by decide) ?_
    obtain ⟨c40, h⟩ := h
    refine r_last hC fx_224 rfl c40 dX7_decks_14 ?_
    refine r_topm (fun σ41 qσ41 => ?_)
    replace h := h σ41 qσ41
    obtain ⟨x42, qx42⟩ : ∃ z : Int32, z = x2 + 1 := ⟨_, rfl⟩
    replace h := h x42 qx42
    refine r_iinc (v := x42) (lv' := [(3, .int x42), (0, fO α (some 200)), (1, .int a1), (2, .int a2)]) hC dX7_decks_15 (k := 3) rfl (by rw [qx42]; rfl) (by decide) rfl ?_
    refine r_goto (tgt := 2) hC dX7_decks_18 (by decide) ?_
    refine r_lvs [1, 2, 3, 0] rfl ?_
    exact hR3 _ h
theorem kX7_parted_0 : ∀ w ∈ u_ws RX7 TX7 40, w ∈ wsX7_parted := by decide +kernel
theorem kX7_parted_1 : (Cond.fieldLink RX7 94 "DivisionorderModel" "parts" "[J") ∈ wsX7_parted := by decide +kernel
theorem kX7_parted_2 : (Cond.fieldLink RX7 97 "DivisionorderModel" "rests" "[J") ∈ wsX7_parted := by decide +kernel
theorem kX7_parted_3 : (Cond.constantLong RX7 179 (-1)) ∈ wsX7_parted := by decide +kernel
theorem kX7_parted_4 : (Cond.fieldLink RX7 91 "DivisionorderModel" "weights" "[J") ∈ wsX7_parted := by decide +kernel
set_option maxHeartbeats 4000000 in
set_option maxRecDepth 100000 in
theorem cm_X7_parted (l : Launch) (dC : Nat → ClassId) (dI : Nat → Nat → Nat) (dA : Nat → ClassId) (α : Nat → Nat) (σ : Mm) (a1 : Int64) (a3 : Int32) (Qm : Mm → Prop) (h : wp_X7_parted σ a1 a3 Qm) (sz : Nat) : Met l yX7_parted wsX7_parted ({ frames := 0, cells := 0, slots := 0, locals := 0 } : Room) (cP dC dI dA Fm α σ sz [fO α (some 200), .long a1, .int a3]) (va_Qv Qm (cB dC dI dA Fm α (wl dA Fm α σ) sz) (va_A (wl dA Fm α σ) sz)) 0 0 (va_A (wl dA Fm α σ) sz) := by
  refine m_start (own := RX7) (lv := [(0, fO α (some 200)), (1, .long a1), (3, .int a3)]) (by decide) rfl rfl (by simp only [lgl_O, lgl_I, lgl_J, lgl_N]; decide) (by simp only [lva_O, lva_I, lva_J, lva_N]) ?_
  intro p e s m below meth c hsz hC hr hlk
  generalize hA : va_A (wl dA Fm α σ) sz = A at hC ⊢
  have hA := hA.symm
  generalize hargs : ([fO α (some 200), .long a1, .int a3] : List Value).toArray = args at hC ⊢
  generalize hQ : MQ below _ args s 0 0 A = Q
  unfold wp_X7_parted at h
  refine r_lconst (v := 0) hC dX7_parted_0 (by decide) ?_
  refine r_lstore (lv' := [(4, .long 0), (0, fO α (some 200)), (1, .long a1), (3, .int a3)]) hC dX7_parted_1 (by decide) rfl ?_
  refine r_iconst (v := 0) hC dX7_parted_3 (by decide) ?_
  refine r_istore (lv' := [(6, .int 0), (4, .long 0), (0, fO α (some 200)), (1, .long a1), (3, .int a3)]) hC dX7_parted_4 (by decide) rfl ?_
  refine r_lvs [2, 3, 4, 1, 0] rfl ?_
  obtain ⟨n, h⟩ := h
  refine lpw_ind (S := Int64 × Int32) (fun s4 => G p l e ({ frames := 0, cells := 0, slots := 0, locals := 0 } : Room) s m args below meth c 0 0 Q dC dI dA Fm α A 11 σ 6 [(0, fO α (some 200)), (1, .long a1), (3, .int a3), (4, .long s4.1), (6, .int s4.2)] []) ?_ n (0, 0) h
  clear h
  intro R3 hR3 s4 h
  obtain ⟨y1, x2⟩ := s4
  refine r_iload hC dX7_parted_6 4 rfl ?_
  refine r_iload_n hC dX7_parted_8 rfl 2 rfl ?_
  refine r_icmp_ge (tgt := 30) hC dX7_parted_9 (by decide) (fun q => ?_) (fun q => ?_)
  · replace h := h.1 q
    refine r_lload_n hC dX7_parted_30 rfl 1 rfl ?_
    refine r_lstore (lv' := [(6, .long a1), (0, fO α (some 200)), (1, .long a1), (3, .int a3), (4, .long y1)]) hC dX7_parted_31 (by decide) rfl ?_
    refine r_iconst (v := 0) hC dX7_parted_33 (by decide) ?_
    refine r_istore (lv' := [(8, .int 0), (6, .long a1), (0, fO α (some 200)), (1, .long a1), (3, .int a3), (4, .long y1)]) hC dX7_parted_34 (by decide) rfl ?_
    refine r_lvs [2, 3, 4, 5, 1, 0] rfl ?_
    obtain ⟨n, h⟩ := h
    refine lpw_ind (S := Mm × Int64 × Int32) (fun s9 => G p l e ({ frames := 0, cells := 0, slots := 0, locals := 0 } : Room) s m args below meth c 0 0 Q dC dI dA Fm α A 11 s9.1 36 [(0, fO α (some 200)), (1, .long a1), (3, .int a3), (4, .long y1), (6, .long s9.2.1), (8, .int s9.2.2)] []) ?_ n (σ, a1, 0) h
    clear h
    intro R8 hR8 s9 h
    obtain ⟨σ5, y6, x7⟩ := s9
    refine r_iload hC dX7_parted_36 5 rfl ?_
    refine r_iload_n hC dX7_parted_38 rfl 2 rfl ?_
    refine r_icmp_ge (tgt := 98) hC dX7_parted_39 (by decide) (fun q => ?_) (fun q => ?_)
    · replace h := h.1 q
      refine r_iconst (v := 0) hC dX7_parted_98 (by decide) ?_
      refine r_istore (lv' := [(8, .int 0), (0, fO α (some 200)), (1, .long a1), (3, .int a3), (4, .long y1), (6, .long y6)]) hC dX7_parted_99 (by decide) rfl ?_
      refine r_lvs [1, 3, 5, 0] rfl ?_
      obtain ⟨n, h⟩ := h
      refine lpw_ind (S := Mm × Int32) (fun s13 => G p l e ({ frames := 0, cells := 0, slots := 0, locals := 0 } : Room) s m args below meth c 0 0 Q dC dI dA Fm α A 11 s13.1 101 [(0, fO α (some 200)), (3, .int a3), (6, .long y6), (8, .int s13.2)] []) ?_ n (σ5, 0) h
      clear h
      intro R12 hR12 s13 h
      obtain ⟨σ10, x11⟩ := s13
      refine r_iload hC dX7_parted_101 3 rfl ?_
      refine r_i2l hC dX7_parted_103 ?_
      refine r_lload hC dX7_parted_104 2 rfl ?_
      refine r_lcmp_ge (tgt := 182) hC dX7_parted_106 dX7_parted_107 (by decide) (fun q => ?_) (fun q => ?_)
      · replace h := h.1 q
        subst hQ
        exact r_vret hC hA hr hlk dX7_parted_182 h
      · replace h := h.2 q
        refine r_iconst (v := 0) hC dX7_parted_110 (by decide) ?_
        refine r_istore (lv' := [(9, .int 0), (0, fO α (some 200)), (3, .int a3), (6, .long y6), (8, .int x11)]) hC dX7_parted_111 (by decide) rfl ?_
        refine r_iconst (v := 1) hC dX7_parted_113 (by decide) ?_
        refine r_istore (lv' := [(10, .int 1), (9, .int 0), (0, fO α (some 200)), (3, .int a3), (6, .long y6), (8, .int x11)]) hC dX7_parted_114 (by decide) rfl ?_
        refine r_lvs [2, 3, 4, 5, 1, 0] rfl ?_
        obtain ⟨n, h⟩ := h
        refine lpw_ind (S := Int32 × Int32) (fun s17 => G p l e ({ frames := 0, cells := 0, slots := 0, locals := 0 } : Room) s m args below meth c 0 0 Q dC dI dA Fm α A 11 σ10 116 [(0, fO α (some 200)), (3, .int a3), (6, .long y6), (8, .int x11), (9, .int s17.1), (10, .int s17.2)] []) ?_ n (0, 1) h
        clear h
        intro R16 hR16 s17 h
        obtain ⟨x14, x15⟩ := s17
        refine r_iload hC dX7_parted_116 5 rfl ?_
        refine r_iload_n hC dX7_parted_118 rfl 1 rfl ?_
        refine r_icmp_ge (tgt := 155) hC dX7_parted_119 (by decide) (fun q => ?_) (fun q => ?_)
        · replace h := h.1 q
          refine r_aload_n hC dX7_parted_155 rfl 0 rfl ?_
          refine r_get (ci := 7) (f := 33) (v := fO α (some 226)) hC kX7_parted_0 rfl (by decide) rfl kX7_parted_1 fx_200 (ct_7 rfl) rfl dX7_parted_156 ?_
          refine r_iload hC dX7_parted_159 4 rfl ?_
          refine r_dup2 hC rfl fO_cat dX7_parted_161 ?_
          obtain ⟨c18, h⟩ := h
          refine r_lald hC fx_226 rfl c18 dX7_parted_162 ?_
          refine r_lconst (v := 1) hC dX7_parted_163 (by decide) ?_
          refine r_ladd hC dX7_parted_164 ?_
          obtain ⟨c19, h⟩ := h
          refine r_last hC fx_226 rfl c19 dX7_parted_165 ?_
          refine r_topm (fun σ20 qσ20 => ?_)
          replace h := h σ20 qσ20
          refine r_aload_n hC dX7_parted_166 rfl 0 rfl ?_
          refine r_get (ci := 7) (f := 34) (v := fO α (some 227)) hC kX7_parted_0 rfl (by decide) rfl kX7_parted_2 fx_200 (ct_7 rfl) rfl dX7_parted_167 ?_
          refine r_iload hC dX7_parted_170 4 rfl ?_
          refine r_ldc2 (v := (-1)) hC kX7_parted_3 dX7_parted_172 ?_
          obtain ⟨c21, h⟩ := h
          refine r_last hC fx_227 rfl c21 dX7_parted_175 ?_
          refine r_topm (fun σ22 qσ22 => ?_)
          replace h := h σ22 qσ22
          obtain ⟨x23, qx23⟩ : ∃ z : Int32, z = x11 + 1 := ⟨_, rfl⟩
          replace h := h x23 qx23
          refine r_iinc (v := x23) (lv' := [(8, .int x23), (0, fO α (some 200)), (3, .int a3), (6, .long y6), (9, .int x14), (10, .int x15)]) hC dX7_parted_176 (k := 3) rfl (by rw [qx23]; rfl) (by decide) rfl ?_
          refine r_goto (tgt := 101) hC dX7_parted_179 (by decide) ?_
          refine r_lvs [1, 2, 3, 0] rfl ?_
          exact hR12 _ h
        · replace h := h.2 q
          refine r_aload_n hC dX7_parted_122 rfl 0 rfl ?_
          refine r_get (ci := 7) (f := 34) (v := fO α (some 227)) hC kX7_parted_0 rfl (by decide) rfl kX7_parted_2 fx_200 (ct_7 rfl) rfl dX7_parted_123 ?_
          refine r_iload hC dX7_parted_126 5 rfl ?_
          obtain ⟨c24, h⟩ := h
          refine r_lald hC fx_227 rfl c24 dX7_parted_128 ?_
          refine r_aload_n hC dX7_parted_129 rfl 0 rfl ?_
          refine r_get (ci := 7) (f := 34) (v := fO α (some 227)) hC kX7_parted_0 rfl (by decide) rfl kX7_parted_2 fx_200 (ct_7 rfl) rfl dX7_parted_130 ?_
          refine r_iload hC dX7_parted_133 4 rfl ?_
          obtain ⟨c25, h⟩ := h
          refine r_lald hC fx_227 rfl c25 dX7_parted_135 ?_
          obtain ⟨J27, hJ27, h⟩ := h
          have KJ27 : ∀ (x26 : Int32), J27 x26 → G p l e ({ frames := 0, cells := 0, slots := 0, locals := 0 } : Room) s m args below meth c 0 0 Q dC dI dA Fm α A 11 σ10 147 [(0, fO α (some 200)), (3, .int a3), (6, .long y6), (8, .int x11), (10, .int x15)] [.int x26] := by
            clear h
            intro x26 h
            replace h := hJ27 x26 h
            refine r_istore (lv' := [(9, .int x26), (0, fO α (some 200)), (3, .int a3), (6, .long y6), (8, .int x11), (10, .int x15)]) hC dX7_parted_147 (by decide) rfl ?_
            obtain ⟨x28, qx28⟩ : ∃ z : Int32, z = x15 + 1 := ⟨_, rfl⟩
            replace h := h x28 qx28
            refine r_iinc (v := x28) (lv' := [(10, .int x28), (9, .int x26), (0, fO α (some 200)), (3, .int a3), (6, .long y6), (8, .int x11)]) hC dX7_parted_149 (k := 5) rfl (by rw [qx28]; rfl) (by decide) rfl ?_
            refine r_goto (tgt := 116) hC dX7_parted_152 (by decide) ?_
            refine r_lvs [2, 3, 4, 5, 1, 0] rfl ?_
            exact hR16 _ h
          refine r_lcmp_le (tgt := 145) hC dX7_parted_136 dX7_parted_137 (by decide) (fun q => ?_) (fun q => ?_)
          · replace h := h.1 q
            refine r_iload hC dX7_parted_145 4 rfl ?_
            refine r_lvs [0, 1, 2, 3, 5] rfl ?_
            exact KJ27 x14 h
          · replace h := h.2 q
            refine r_iload hC dX7_parted_140 5 rfl ?_
            refine r_goto (tgt := 147) hC dX7_parted_142 (by decide) ?_
            refine r_lvs [0, 1, 2, 3, 5] rfl ?_
            exact KJ27 x15 h
    · replace h := h.2 q
      refine r_aload_n hC dX7_parted_42 rfl 0 rfl ?_
      refine r_get (ci := 7) (f := 33) (v := fO α (some 226)) hC kX7_parted_0 rfl (by decide) rfl kX7_parted_1 fx_200 (ct_7 rfl) rfl dX7_parted_43 ?_
      refine r_iload hC dX7_parted_46 5 rfl ?_
      refine r_lload_n hC dX7_parted_48 rfl 1 rfl ?_
      refine r_aload_n hC dX7_parted_49 rfl 0 rfl ?_
      refine r_get (ci := 7) (f := 32) (v := fO α (some 225)) hC kX7_parted_0 rfl (by decide) rfl kX7_parted_4 fx_200 (ct_7 rfl) rfl dX7_parted_50 ?_
      refine r_iload hC dX7_parted_53 5 rfl ?_
      obtain ⟨c29, h⟩ := h
      refine r_lald hC fx_225 rfl c29 dX7_parted_55 ?_
      refine r_lmul hC dX7_parted_56 ?_
      refine r_lload hC dX7_parted_57 3 rfl ?_
      obtain ⟨c30, h⟩ := h
      refine r_ldiv hC c30 dX7_parted_59 ?_
      obtain ⟨c31, h⟩ := h
      refine r_last hC fx_226 rfl c31 dX7_parted_60 ?_
      refine r_topm (fun σ32 qσ32 => ?_)
      replace h := h σ32 qσ32
      refine r_aload_n hC dX7_parted_61 rfl 0 rfl ?_
      refine r_get (ci := 7) (f := 34) (v := fO α (some 227)) hC kX7_parted_0 rfl (by decide) rfl kX7_parted_2 fx_200 (ct_7 rfl) rfl dX7_parted_62 ?_
      refine r_iload hC dX7_parted_65 5 rfl ?_
      refine r_lload_n hC dX7_parted_67 rfl 1 rfl ?_
      refine r_aload_n hC dX7_parted_68 rfl 0 rfl ?_
      refine r_get (ci := 7) (f := 32) (v := fO α (some 225)) hC kX7_parted_0 rfl (by decide) rfl kX7_parted_4 fx_200 (ct_7 rfl) rfl dX7_parted_69 ?_
      refine r_iload hC dX7_parted_72 5 rfl ?_
      obtain ⟨c33, h⟩ := h
      refine r_lald hC fx_225 rfl c33 dX7_parted_74 ?_
      refine r_lmul hC dX7_parted_75 ?_
      refine r_lload hC dX7_parted_76 3 rfl ?_
      obtain ⟨c34, h⟩ := h
      refine r_lrem hC c34 dX7_parted_78 ?_
      obtain ⟨c35, h⟩ := h
      refine r_last hC fx_227 rfl c35 dX7_parted_79 ?_
      refine r_topm (fun σ36 qσ36 => ?_)
      replace h := h σ36 qσ36
      refine r_lload hC dX7_parted_80 4 rfl ?_
      refine r_aload_n hC dX7_parted_82 rfl 0 rfl ?_
      refine r_get (ci := 7) (f := 33) (v := fO α (some 226)) hC kX7_parted_0 rfl (by decide) rfl kX7_parted_1 fx_200 (ct_7 rfl) rfl dX7_parted_83 ?_
      refine r_iload hC dX7_parted_86 5 rfl ?_
      obtain ⟨c37, h⟩ := h
      refine r_lald hC fx_226 rfl c37 dX7_parted_88 ?_
      refine r_lsub hC dX7_parted_89 ?_
      refine r_topl (fun y38 qy38 => ?_)
      replace h := h y38 qy38
      refine r_lstore (lv' := [(6, .long y38), (0, fO α (some 200)), (1, .long a1), (3, .int a3), (4, .long y1), (8, .int x7)]) hC dX7_parted_90 (by decide) rfl ?_
      obtain ⟨x39, qx39⟩ : ∃ z : Int32, z = x7 + 1 := ⟨_, rfl⟩
      replace h := h x39 qx39
      refine r_iinc (v := x39) (lv' := [(8, .int x39), (6, .long y38), (0, fO α (some 200)), (1, .long a1), (3, .int a3), (4, .long y1)]) hC dX7_parted_92 (k := 5) rfl (by rw [qx39]; rfl) (by decide) rfl ?_
      refine r_goto (tgt := 36) hC dX7_parted_95 (by decide) ?_
      refine r_lvs [2, 3, 4, 5, 1, 0] rfl ?_
      exact hR8 _ h
  · replace h := h.2 q
    refine r_lload hC dX7_parted_12 3 rfl ?_
    refine r_aload_n hC dX7_parted_14 rfl 0 rfl ?_
    refine r_get (ci := 7) (f := 32) (v := fO α (some 225)) hC kX7_parted_0 rfl (by decide) rfl kX7_parted_4 fx_200 (ct_7 rfl) rfl dX7_parted_15 ?_
    refine r_iload hC dX7_parted_18 4 rfl ?_
    obtain ⟨c40, h⟩ := h
    refine r_lald hC fx_225 rfl c40 dX7_parted_20 ?_
    refine r_ladd hC dX7_parted_21 ?_
    refine r_topl (fun y41 qy41 => ?_)
    replace h := h y41 qy41
    refine r_lstore (lv' := [(4, .long y41), (0, fO α (some 200)), (1, .long a1), (3, .int a3), (6, .int x2)]) hC dX7_parted_22 (by decide) rfl ?_
    obtain ⟨x42, qx42⟩ : ∃ z : Int32, z = x2 + 1 := ⟨_, rfl⟩
    replace h := h x42 qx42
    refine r_iinc (v := x42) (lv' := [(6, .int x42), (4, .long y41), (0, fO α (some 200)), (1, .long a1), (3, .int a3)]) hC dX7_parted_24 (k := 4) rfl (by rw [qx42]; rfl) (by decide) rfl ?_
    refine r_goto (tgt := 6) hC dX7_parted_27 (by decide) ?_
    refine r_lvs [2, 3, 4, 1, 0] rfl ?_
    exact hR3 _ h
theorem kX7_interest_0 : (Cond.constantLong RX7 188 (100000000)) ∈ wsX7_interest := by decide +kernel
theorem kX7_interest_1 : ∀ w ∈ u_ws RX7 TX7 40, w ∈ wsX7_interest := by decide +kernel
theorem kX7_interest_2 : (Cond.fieldLink RX7 94 "DivisionorderModel" "parts" "[J") ∈ wsX7_interest := by decide +kernel
theorem kX7_interest_3 : (Cond.fieldLink RX7 91 "DivisionorderModel" "weights" "[J") ∈ wsX7_interest := by decide +kernel
theorem kX7_interest_4 : (Cond.fieldLink RX7 88 "DivisionorderModel" "deck" "[J") ∈ wsX7_interest := by decide +kernel
set_option maxHeartbeats 4000000 in
set_option maxRecDepth 100000 in
theorem cm_X7_interest (l : Launch) (dC : Nat → ClassId) (dI : Nat → Nat → Nat) (dA : Nat → ClassId) (α : Nat → Nat) (σ : Mm) (a1 : Int32) (a2 : Int32) (a3 : Int32) (a4 : Int32) (Qm : Int32 → Mm → Prop) (h : wp_X7_interest σ a1 a2 a3 a4 Qm) (sz : Nat) : Met l yX7_interest wsX7_interest ({ frames := 4, cells := 0, slots := 0, locals := 101 } : Room) (cP dC dI dA Fm α σ sz [fO α (some 200), .int a1, .int a2, .int a3, .int a4]) (va_Qi Qm (cB dC dI dA Fm α (wl dA Fm α σ) sz) (va_A (wl dA Fm α σ) sz)) 0 0 (va_A (wl dA Fm α σ) sz) := by
  refine m_start (own := RX7) (lv := [(0, fO α (some 200)), (1, .int a1), (2, .int a2), (3, .int a3), (4, .int a4)]) (by decide) rfl rfl (by simp only [lgl_O, lgl_I, lgl_J, lgl_N]; decide) (by simp only [lva_O, lva_I, lva_J, lva_N]) ?_
  intro p e s m below meth c hsz hC hr hlk
  generalize hA : va_A (wl dA Fm α σ) sz = A at hC ⊢
  have hA := hA.symm
  generalize hargs : ([fO α (some 200), .int a1, .int a2, .int a3, .int a4] : List Value).toArray = args at hC ⊢
  generalize hQ : MQ below _ args s 0 0 A = Q
  unfold wp_X7_interest at h
  refine r_aload_n hC dX7_interest_0 rfl 0 rfl ?_
  refine r_aload_n hC dX7_interest_1 rfl 0 rfl ?_
  refine r_iload_n hC dX7_interest_2 rfl 1 rfl ?_
  refine r_iload_n hC dX7_interest_3 rfl 2 rfl ?_
  refine r_calli hC [fO α (some 200)] (m_runV (n := 2) (ci := 7) hC [.int a1, .int a2] [fO α (some 200)] (fun sz => cm_X7_isUnitMonth l dC dI dA α σ a1 a2 _ h sz) gX7_interest_X7_isUnitMonth rfl ⟨rfl, rfl⟩ (by decide +kernel) ⟨Nat.le_of_ble_eq_true rfl, Nat.le_of_ble_eq_true rfl⟩ fx_200 (ct_7 rfl) rfl rfl (Nat.le_of_ble_eq_true rfl) (by decide) dX7_interest_4) (fun x2 σ1 hn => ?_)
  clear h
  revert hn
  intro h
  obtain ⟨J5, hJ5, h⟩ := h
  have KJ5 : ∀ (σ3 : Mm) (x4 : Int32), J5 σ3 x4 → G p l e ({ frames := 4, cells := 0, slots := 0, locals := 101 } : Room) s m args below meth c 0 0 Q dC dI dA Fm α A 6 σ3 22 [(0, fO α (some 200)), (1, .int a1), (2, .int a2), (3, .int a3), (4, .int a4)] [.int x4, fO α (some 200)] := by
    clear h
    intro σ3 x4 h
    replace h := hJ5 σ3 x4 h
    refine r_iconst (v := 1) hC dX7_interest_22 (by decide) ?_
    refine r_iconst (v := 1) hC dX7_interest_23 (by decide) ?_
    refine r_calli hC [] (m_runV (n := 3) (ci := 7) hC [.int x4, .int 1, .int 1] [] (fun sz => cm_X7_goes l dC dI dA α σ3 x4 1 1 _ h sz) gX7_interest_X7_goes rfl ⟨rfl, rfl⟩ (by decide +kernel) ⟨Nat.le_of_ble_eq_true rfl, Nat.le_of_ble_eq_true rfl⟩ fx_200 (ct_7 rfl) rfl rfl (Nat.le_of_ble_eq_true rfl) (by decide) dX7_interest_24) (fun x7 σ6 hn => ?_)
    clear h
    revert hn
    intro h
    refine r_if_ne (tgt := 32) hC dX7_interest_27 (by decide) (fun q => ?_) (fun q => ?_)
    · replace h := h.1 q
      refine r_aload_n hC dX7_interest_32 rfl 0 rfl ?_
      refine r_iload_n hC dX7_interest_33 rfl 1 rfl ?_
      refine r_iload_n hC dX7_interest_34 rfl 2 rfl ?_
      refine r_callv hC [] (m_runV (n := 2) (ci := 7) hC [.int a1, .int a2] [] (fun sz => cm_X7_decks l dC dI dA α σ6 a1 a2 _ h sz) gX7_interest_X7_decks rfl ⟨rfl, rfl⟩ (by decide +kernel) ⟨Nat.le_of_ble_eq_true rfl, Nat.le_of_ble_eq_true rfl⟩ fx_200 (ct_7 rfl) rfl rfl (Nat.le_of_ble_eq_true rfl) (by decide) dX7_interest_35) (fun σ8 hn => ?_)
      clear h
      revert hn
      intro h
      refine r_iconst (v := 0) hC dX7_interest_38 (by decide) ?_
      refine r_istore (lv' := [(5, .int 0), (0, fO α (some 200)), (1, .int a1), (2, .int a2), (3, .int a3), (4, .int a4)]) hC dX7_interest_39 (by decide) rfl ?_
      refine r_lvs [1, 4, 5, 0] rfl ?_
      obtain ⟨n, h⟩ := h
      refine lpw_ind (S := Mm × Int32) (fun s12 => G p l e ({ frames := 4, cells := 0, slots := 0, locals := 101 } : Room) s m args below meth c 0 0 Q dC dI dA Fm α A 6 s12.1 41 [(0, fO α (some 200)), (3, .int a3), (4, .int a4), (5, .int s12.2)] []) ?_ n (σ8, 0) h
      clear h
      intro R11 hR11 s12 h
      obtain ⟨σ9, x10⟩ := s12
      refine r_iload hC dX7_interest_41 3 rfl ?_
      refine r_bipush (v := 20) hC dX7_interest_43 (by decide) ?_
      refine r_icmp_ge (tgt := 68) hC dX7_interest_45 (by decide) (fun q => ?_) (fun q => ?_)
      · replace h := h.1 q
        refine r_aload_n hC dX7_interest_68 rfl 0 rfl ?_
        refine r_ldc2 (v := 100000000) hC kX7_interest_0 dX7_interest_69 ?_
        refine r_bipush (v := 20) hC dX7_interest_72 (by decide) ?_
        refine r_callv hC [] (m_runV (n := 2) (ci := 7) hC [.long 100000000, .int 20] [] (fun sz => cm_X7_parted l dC dI dA α σ9 100000000 20 _ h sz) gX7_interest_X7_parted rfl ⟨rfl, rfl⟩ (by decide +kernel) ⟨Nat.le_of_ble_eq_true rfl, Nat.le_of_ble_eq_true rfl⟩ fx_200 (ct_7 rfl) rfl rfl (Nat.le_of_ble_eq_true rfl) (by decide) dX7_interest_74) (fun σ13 hn => ?_)
        clear h
        revert hn
        intro h
        refine r_aload_n hC dX7_interest_77 rfl 0 rfl ?_
        refine r_get (ci := 7) (f := 33) (v := fO α (some 226)) hC kX7_interest_1 rfl (by decide) rfl kX7_interest_2 fx_200 (ct_7 rfl) rfl dX7_interest_78 ?_
        refine r_iload hC dX7_interest_81 2 rfl ?_
        obtain ⟨J15, hJ15, h⟩ := h
        have KJ15 : ∀ (x14 : Int32), J15 x14 → G p l e ({ frames := 4, cells := 0, slots := 0, locals := 101 } : Room) s m args below meth c 0 0 Q dC dI dA Fm α A 6 σ13 94 [] [.int x14, fO α (some 226)] := by
          clear h
          intro x14 h
          replace h := hJ15 x14 h
          obtain ⟨c16, h⟩ := h
          refine r_lald hC fx_226 rfl c16 dX7_interest_94 ?_
          refine r_l2i hC dX7_interest_95 ?_
          subst hQ
          exact r_iret hC hA hr hlk dX7_interest_96 h
        refine r_if_eq (tgt := 90) hC dX7_interest_83 (by decide) (fun q => ?_) (fun q => ?_)
        · replace h := h.1 q
          refine r_bipush (v := 10) hC dX7_interest_90 (by decide) ?_
          refine r_iload_n hC dX7_interest_92 rfl 1 rfl ?_
          refine r_iadd hC dX7_interest_93 ?_
          refine r_lvs [] rfl ?_
          exact KJ15 (10 + a3) h
        · replace h := h.2 q
          refine r_iload_n hC dX7_interest_86 rfl 1 rfl ?_
          refine r_goto (tgt := 94) hC dX7_interest_87 (by decide) ?_
          refine r_lvs [] rfl ?_
          exact KJ15 a3 h
      · replace h := h.2 q
        refine r_aload_n hC dX7_interest_48 rfl 0 rfl ?_
        refine r_get (ci := 7) (f := 32) (v := fO α (some 225)) hC kX7_interest_1 rfl (by decide) rfl kX7_interest_3 fx_200 (ct_7 rfl) rfl dX7_interest_49 ?_
        refine r_iload hC dX7_interest_52 3 rfl ?_
        refine r_aload_n hC dX7_interest_54 rfl 0 rfl ?_
        refine r_get (ci := 7) (f := 31) (v := fO α (some 224)) hC kX7_interest_1 rfl (by decide) rfl kX7_interest_4 fx_200 (ct_7 rfl) rfl dX7_interest_55 ?_
        refine r_iload hC dX7_interest_58 3 rfl ?_
        obtain ⟨c17, h⟩ := h
        refine r_lald hC fx_224 rfl c17 dX7_interest_60 ?_
        obtain ⟨c18, h⟩ := h
        refine r_last hC fx_225 rfl c18 dX7_interest_61 ?_
        refine r_topm (fun σ19 qσ19 => ?_)
        replace h := h σ19 qσ19
        obtain ⟨x20, qx20⟩ : ∃ z : Int32, z = x10 + 1 := ⟨_, rfl⟩
        replace h := h x20 qx20
        refine r_iinc (v := x20) (lv' := [(5, .int x20), (0, fO α (some 200)), (3, .int a3), (4, .int a4)]) hC dX7_interest_62 (k := 3) rfl (by rw [qx20]; rfl) (by decide) rfl ?_
        refine r_goto (tgt := 41) hC dX7_interest_65 (by decide) ?_
        refine r_lvs [1, 2, 3, 0] rfl ?_
        exact hR11 _ h
    · replace h := h.2 q
      refine r_iconst (v := 0) hC dX7_interest_30 (by decide) ?_
      subst hQ
      exact r_iret hC hA hr hlk dX7_interest_31 h
  obtain ⟨J22, hJ22, h⟩ := h
  have KJ22 : ∀ (σ21 : Mm), J22 σ21 → G p l e ({ frames := 4, cells := 0, slots := 0, locals := 101 } : Room) s m args below meth c 0 0 Q dC dI dA Fm α A 6 σ21 21 [(0, fO α (some 200)), (1, .int a1), (2, .int a2), (3, .int a3), (4, .int a4)] [fO α (some 200)] := by
    clear h
    intro σ21 h
    replace h := hJ22 σ21 h
    refine r_iconst (v := 0) hC dX7_interest_21 (by decide) ?_
    exact KJ5 σ21 0 h
  refine r_if_eq (tgt := 21) hC dX7_interest_7 (by decide) (fun q => ?_) (fun q => ?_)
  · replace h := h.1 q
    exact KJ22 σ1 h
  · replace h := h.2 q
    refine r_iload_n hC dX7_interest_10 rfl 3 rfl ?_
    refine r_calli hC [fO α (some 200)] (m_runS (n := 1) hC [.int a3] [fO α (some 200)] (fun sz => cm_X7_isOwner l dC dI dA α σ1 a3 _ h sz) gX7_interest_X7_isOwner rfl ⟨rfl, rfl⟩ (by decide +kernel) ⟨Nat.le_of_ble_eq_true rfl, Nat.le_of_ble_eq_true rfl⟩ rfl (Nat.le_of_ble_eq_true rfl) (by decide) dX7_interest_11) (fun x24 σ23 hn => ?_)
    clear h
    revert hn
    intro h
    refine r_if_eq (tgt := 21) hC dX7_interest_14 (by decide) (fun q => ?_) (fun q => ?_)
    · replace h := h.1 q
      exact KJ22 σ23 h
    · replace h := h.2 q
      refine r_iconst (v := 1) hC dX7_interest_17 (by decide) ?_
      refine r_goto (tgt := 22) hC dX7_interest_18 (by decide) ?_
      exact KJ5 σ23 1 h
theorem kX7_revenueOf_0 : ∀ w ∈ u_ws RX7 TX7 40, w ∈ wsX7_revenueOf := by decide +kernel
theorem kX7_revenueOf_1 : (Cond.fieldLink RX7 152 "DivisionorderModel" "wells" "I") ∈ wsX7_revenueOf := by decide +kernel
theorem kX7_revenueOf_2 : (Cond.constantLong RX7 194 (100)) ∈ wsX7_revenueOf := by decide +kernel
theorem kX7_revenueOf_3 : (Cond.fieldLink RX7 55 "DivisionorderModel" "wellUnit" "[I") ∈ wsX7_revenueOf := by decide +kernel
theorem kX7_revenueOf_4 : (Cond.fieldLink RX7 58 "DivisionorderModel" "barrels" "[I") ∈ wsX7_revenueOf := by decide +kernel
theorem kX7_revenueOf_5 : (Cond.fieldLink RX7 61 "DivisionorderModel" "price" "[I") ∈ wsX7_revenueOf := by decide +kernel
set_option maxHeartbeats 4000000 in
set_option maxRecDepth 100000 in
theorem cm_X7_revenueOf (l : Launch) (dC : Nat → ClassId) (dI : Nat → Nat → Nat) (dA : Nat → ClassId) (α : Nat → Nat) (σ : Mm) (a1 : Int32) (a2 : Int32) (Qm : Int32 → Mm → Prop) (h : wp_X7_revenueOf σ a1 a2 Qm) (sz : Nat) : Met l yX7_revenueOf wsX7_revenueOf ({ frames := 1, cells := 0, slots := 0, locals := 23 } : Room) (cP dC dI dA Fm α σ sz [fO α (some 200), .int a1, .int a2]) (va_Qi Qm (cB dC dI dA Fm α (wl dA Fm α σ) sz) (va_A (wl dA Fm α σ) sz)) 0 0 (va_A (wl dA Fm α σ) sz) := by
  refine m_start (own := RX7) (lv := [(0, fO α (some 200)), (1, .int a1), (2, .int a2)]) (by decide) rfl rfl (by simp only [lgl_O, lgl_I, lgl_J, lgl_N]; decide) (by simp only [lva_O, lva_I, lva_J, lva_N]) ?_
  intro p e s m below meth c hsz hC hr hlk
  generalize hA : va_A (wl dA Fm α σ) sz = A at hC ⊢
  have hA := hA.symm
  generalize hargs : ([fO α (some 200), .int a1, .int a2] : List Value).toArray = args at hC ⊢
  generalize hQ : MQ below _ args s 0 0 A = Q
  unfold wp_X7_revenueOf at h
  refine r_iconst (v := 0) hC dX7_revenueOf_0 (by decide) ?_
  refine r_istore_n (lv' := [(3, .int 0), (0, fO α (some 200)), (1, .int a1), (2, .int a2)]) hC dX7_revenueOf_1 rfl (by decide) rfl ?_
  refine r_iconst (v := 0) hC dX7_revenueOf_2 (by decide) ?_
  refine r_istore (lv' := [(4, .int 0), (3, .int 0), (0, fO α (some 200)), (1, .int a1), (2, .int a2)]) hC dX7_revenueOf_3 (by decide) rfl ?_
  refine r_lvs [2, 3, 4, 1, 0] rfl ?_
  obtain ⟨n, h⟩ := h
  refine lpw_ind (S := Int32 × Int32) (fun s4 => G p l e ({ frames := 1, cells := 0, slots := 0, locals := 23 } : Room) s m args below meth c 0 0 Q dC dI dA Fm α A 5 σ 5 [(0, fO α (some 200)), (1, .int a1), (2, .int a2), (3, .int s4.1), (4, .int s4.2)] []) ?_ n (0, 0) h
  clear h
  intro R3 hR3 s4 h
  obtain ⟨x1, x2⟩ := s4
  refine r_iload hC dX7_revenueOf_5 4 rfl ?_
  refine r_aload_n hC dX7_revenueOf_7 rfl 0 rfl ?_
  refine r_get (ci := 7) (f := 20) (v := .int (gI σ 200 20)) hC kX7_revenueOf_0 rfl (by decide) rfl kX7_revenueOf_1 fx_200 (ct_7 rfl) rfl dX7_revenueOf_8 ?_
  refine r_icmp_ge (tgt := 63) hC dX7_revenueOf_11 (by decide) (fun q => ?_) (fun q => ?_)
  · replace h := h.1 q
    refine r_iload_n hC dX7_revenueOf_63 rfl 3 rfl ?_
    refine r_iload_n hC dX7_revenueOf_64 rfl 3 rfl ?_
    refine r_i2l hC dX7_revenueOf_65 ?_
    refine r_aload_n hC dX7_revenueOf_66 rfl 0 rfl ?_
    refine r_iload_n hC dX7_revenueOf_67 rfl 2 rfl ?_
    refine r_calli hC [.long x1.toInt64, .int x1] (m_runV (n := 1) (ci := 7) hC [.int a2] [.long x1.toInt64, .int x1] (fun sz => cm_X7_taxOf l dC dI dA α σ a2 _ h sz) gX7_revenueOf_X7_taxOf rfl ⟨rfl, rfl⟩ (by decide +kernel) ⟨Nat.le_of_ble_eq_true rfl, Nat.le_of_ble_eq_true rfl⟩ fx_200 (ct_7 rfl) rfl rfl (Nat.le_of_ble_eq_true rfl) (by decide) dX7_revenueOf_68) (fun x6 σ5 hn => ?_)
    clear h
    revert hn
    intro h
    refine r_i2l hC dX7_revenueOf_71 ?_
    refine r_lmul hC dX7_revenueOf_72 ?_
    refine r_ldc2 (v := 100) hC kX7_revenueOf_2 dX7_revenueOf_73 ?_
    refine r_ldiv hC (by decide) dX7_revenueOf_76 ?_
    refine r_l2i hC dX7_revenueOf_77 ?_
    refine r_isub hC dX7_revenueOf_78 ?_
    subst hQ
    exact r_iret hC hA hr hlk dX7_revenueOf_79 h
  · replace h := h.2 q
    refine r_iload_n hC dX7_revenueOf_14 rfl 3 rfl ?_
    refine r_aload_n hC dX7_revenueOf_15 rfl 0 rfl ?_
    refine r_get (ci := 7) (f := 21) (v := fO α (some 216)) hC kX7_revenueOf_0 rfl (by decide) rfl kX7_revenueOf_3 fx_200 (ct_7 rfl) rfl dX7_revenueOf_16 ?_
    refine r_iload hC dX7_revenueOf_19 4 rfl ?_
    obtain ⟨c7, h⟩ := h
    refine r_iald hC fx_216 rfl c7 dX7_revenueOf_21 ?_
    refine r_iload_n hC dX7_revenueOf_22 rfl 1 rfl ?_
    obtain ⟨J9, hJ9, h⟩ := h
    have KJ9 : ∀ (x8 : Int32), J9 x8 → G p l e ({ frames := 1, cells := 0, slots := 0, locals := 23 } : Room) s m args below meth c 0 0 Q dC dI dA Fm α A 5 σ 55 [(0, fO α (some 200)), (1, .int a1), (2, .int a2), (4, .int x2)] [.int x8, .int x1] := by
      clear h
      intro x8 h
      replace h := hJ9 x8 h
      refine r_iadd hC dX7_revenueOf_55 ?_
      refine r_topi (fun x10 qx10 => ?_)
      replace h := h x10 qx10
      refine r_istore_n (lv' := [(3, .int x10), (0, fO α (some 200)), (1, .int a1), (2, .int a2), (4, .int x2)]) hC dX7_revenueOf_56 rfl (by decide) rfl ?_
      obtain ⟨x11, qx11⟩ : ∃ z : Int32, z = x2 + 1 := ⟨_, rfl⟩
      replace h := h x11 qx11
      refine r_iinc (v := x11) (lv' := [(4, .int x11), (3, .int x10), (0, fO α (some 200)), (1, .int a1), (2, .int a2)]) hC dX7_revenueOf_57 (k := 4) rfl (by rw [qx11]; rfl) (by decide) rfl ?_
      refine r_goto (tgt := 5) hC dX7_revenueOf_60 (by decide) ?_
      refine r_lvs [2, 3, 4, 1, 0] rfl ?_
      exact hR3 _ h
    refine r_icmp_ne (tgt := 54) hC dX7_revenueOf_23 (by decide) (fun q => ?_) (fun q => ?_)
    · replace h := h.1 q
      refine r_iconst (v := 0) hC dX7_revenueOf_54 (by decide) ?_
      refine r_lvs [0, 1, 2, 4] rfl ?_
      exact KJ9 0 h
    · replace h := h.2 q
      refine r_aload_n hC dX7_revenueOf_26 rfl 0 rfl ?_
      refine r_get (ci := 7) (f := 22) (v := fO α (some 217)) hC kX7_revenueOf_0 rfl (by decide) rfl kX7_revenueOf_4 fx_200 (ct_7 rfl) rfl dX7_revenueOf_27 ?_
      refine r_bipush (v := 61) hC dX7_revenueOf_30 (by decide) ?_
      refine r_iload hC dX7_revenueOf_32 4 rfl ?_
      refine r_imul hC dX7_revenueOf_34 ?_
      refine r_iload_n hC dX7_revenueOf_35 rfl 2 rfl ?_
      refine r_iadd hC dX7_revenueOf_36 ?_
      obtain ⟨c12, h⟩ := h
      refine r_iald hC fx_217 rfl c12 dX7_revenueOf_37 ?_
      refine r_aload_n hC dX7_revenueOf_38 rfl 0 rfl ?_
      refine r_get (ci := 7) (f := 23) (v := fO α (some 218)) hC kX7_revenueOf_0 rfl (by decide) rfl kX7_revenueOf_5 fx_200 (ct_7 rfl) rfl dX7_revenueOf_39 ?_
      refine r_bipush (v := 61) hC dX7_revenueOf_42 (by decide) ?_
      refine r_iload hC dX7_revenueOf_44 4 rfl ?_
      refine r_imul hC dX7_revenueOf_46 ?_
      refine r_iload_n hC dX7_revenueOf_47 rfl 2 rfl ?_
      refine r_iadd hC dX7_revenueOf_48 ?_
      obtain ⟨c13, h⟩ := h
      refine r_iald hC fx_218 rfl c13 dX7_revenueOf_49 ?_
      refine r_imul hC dX7_revenueOf_50 ?_
      refine r_goto (tgt := 55) hC dX7_revenueOf_51 (by decide) ?_
      refine r_lvs [0, 1, 2, 4] rfl ?_
      exact KJ9 ((gI σ 217 ((61 * x2) + a2).toNatClampNeg) * (gI σ 218 ((61 * x2) + a2).toNatClampNeg)) h
theorem kX7_costOf_0 : ∀ w ∈ u_ws RX7 TX7 40, w ∈ wsX7_costOf := by decide +kernel
theorem kX7_costOf_1 : (Cond.fieldLink RX7 152 "DivisionorderModel" "wells" "I") ∈ wsX7_costOf := by decide +kernel
theorem kX7_costOf_2 : (Cond.fieldLink RX7 55 "DivisionorderModel" "wellUnit" "[I") ∈ wsX7_costOf := by decide +kernel
theorem kX7_costOf_3 : (Cond.fieldLink RX7 64 "DivisionorderModel" "costs" "[I") ∈ wsX7_costOf := by decide +kernel
set_option maxHeartbeats 4000000 in
set_option maxRecDepth 100000 in
theorem cm_X7_costOf (l : Launch) (dC : Nat → ClassId) (dI : Nat → Nat → Nat) (dA : Nat → ClassId) (α : Nat → Nat) (σ : Mm) (a1 : Int32) (a2 : Int32) (Qm : Int32 → Mm → Prop) (h : wp_X7_costOf σ a1 a2 Qm) (sz : Nat) : Met l yX7_costOf wsX7_costOf ({ frames := 0, cells := 0, slots := 0, locals := 0 } : Room) (cP dC dI dA Fm α σ sz [fO α (some 200), .int a1, .int a2]) (va_Qi Qm (cB dC dI dA Fm α (wl dA Fm α σ) sz) (va_A (wl dA Fm α σ) sz)) 0 0 (va_A (wl dA Fm α σ) sz) := by
  refine m_start (own := RX7) (lv := [(0, fO α (some 200)), (1, .int a1), (2, .int a2)]) (by decide) rfl rfl (by simp only [lgl_O, lgl_I, lgl_J, lgl_N]; decide) (by simp only [lva_O, lva_I, lva_J, lva_N]) ?_
  intro p e s m below meth c hsz hC hr hlk
  generalize hA : va_A (wl dA Fm α σ) sz = A at hC ⊢
  have hA := hA.symm
  generalize hargs : ([fO α (some 200), .int a1, .int a2] : List Value).toArray = args at hC ⊢
  generalize hQ : MQ below _ args s 0 0 A = Q
  unfold wp_X7_costOf at h
  refine r_iconst (v := 0) hC dX7_costOf_0 (by decide) ?_
  refine r_istore_n (lv' := [(3, .int 0), (0, fO α (some 200)), (1, .int a1), (2, .int a2)]) hC dX7_costOf_1 rfl (by decide) rfl ?_
  refine r_iconst (v := 0) hC dX7_costOf_2 (by decide) ?_
  refine r_istore (lv' := [(4, .int 0), (3, .int 0), (0, fO α (some 200)), (1, .int a1), (2, .int a2)]) hC dX7_costOf_3 (by decide) rfl ?_
  refine r_lvs [2, 3, 4, 1, 0] rfl ?_
  obtain ⟨n, h⟩ := h
  refine lpw_ind (S := Int32 × Int32) (fun s4 => G p l e ({ frames := 0, cells := 0, slots := 0, locals := 0 } : Room) s m args below meth c 0 0 Q dC dI dA Fm α A 5 σ 5 [(0, fO α (some 200)), (1, .int a1), (2, .int a2), (3, .int s4.1), (4, .int s4.2)] []) ?_ n (0, 0) h
  clear h
  intro R3 hR3 s4 h
  obtain ⟨x1, x2⟩ := s4
  refine r_iload hC dX7_costOf_5 4 rfl ?_
  refine r_aload_n hC dX7_costOf_7 rfl 0 rfl ?_
  refine r_get (ci := 7) (f := 20) (v := .int (gI σ 200 20)) hC kX7_costOf_0 rfl (by decide) rfl kX7_costOf_1 fx_200 (ct_7 rfl) rfl dX7_costOf_8 ?_
  refine r_icmp_ge (tgt := 50) hC dX7_costOf_11 (by decide) (fun q => ?_) (fun q => ?_)
  · replace h := h.1 q
    refine r_iload_n hC dX7_costOf_50 rfl 3 rfl ?_
    subst hQ
    exact r_iret hC hA hr hlk dX7_costOf_51 h
  · replace h := h.2 q
    refine r_iload_n hC dX7_costOf_14 rfl 3 rfl ?_
    refine r_aload_n hC dX7_costOf_15 rfl 0 rfl ?_
    refine r_get (ci := 7) (f := 21) (v := fO α (some 216)) hC kX7_costOf_0 rfl (by decide) rfl kX7_costOf_2 fx_200 (ct_7 rfl) rfl dX7_costOf_16 ?_
    refine r_iload hC dX7_costOf_19 4 rfl ?_
    obtain ⟨c5, h⟩ := h
    refine r_iald hC fx_216 rfl c5 dX7_costOf_21 ?_
    refine r_iload_n hC dX7_costOf_22 rfl 1 rfl ?_
    obtain ⟨J7, hJ7, h⟩ := h
    have KJ7 : ∀ (x6 : Int32), J7 x6 → G p l e ({ frames := 0, cells := 0, slots := 0, locals := 0 } : Room) s m args below meth c 0 0 Q dC dI dA Fm α A 5 σ 42 [(0, fO α (some 200)), (1, .int a1), (2, .int a2), (4, .int x2)] [.int x6, .int x1] := by
      clear h
      intro x6 h
      replace h := hJ7 x6 h
      refine r_iadd hC dX7_costOf_42 ?_
      refine r_topi (fun x8 qx8 => ?_)
      replace h := h x8 qx8
      refine r_istore_n (lv' := [(3, .int x8), (0, fO α (some 200)), (1, .int a1), (2, .int a2), (4, .int x2)]) hC dX7_costOf_43 rfl (by decide) rfl ?_
      obtain ⟨x9, qx9⟩ : ∃ z : Int32, z = x2 + 1 := ⟨_, rfl⟩
      replace h := h x9 qx9
      refine r_iinc (v := x9) (lv' := [(4, .int x9), (3, .int x8), (0, fO α (some 200)), (1, .int a1), (2, .int a2)]) hC dX7_costOf_44 (k := 4) rfl (by rw [qx9]; rfl) (by decide) rfl ?_
      refine r_goto (tgt := 5) hC dX7_costOf_47 (by decide) ?_
      refine r_lvs [2, 3, 4, 1, 0] rfl ?_
      exact hR3 _ h
    refine r_icmp_ne (tgt := 41) hC dX7_costOf_23 (by decide) (fun q => ?_) (fun q => ?_)
    · replace h := h.1 q
      refine r_iconst (v := 0) hC dX7_costOf_41 (by decide) ?_
      refine r_lvs [0, 1, 2, 4] rfl ?_
      exact KJ7 0 h
    · replace h := h.2 q
      refine r_aload_n hC dX7_costOf_26 rfl 0 rfl ?_
      refine r_get (ci := 7) (f := 24) (v := fO α (some 219)) hC kX7_costOf_0 rfl (by decide) rfl kX7_costOf_3 fx_200 (ct_7 rfl) rfl dX7_costOf_27 ?_
      refine r_bipush (v := 61) hC dX7_costOf_30 (by decide) ?_
      refine r_iload hC dX7_costOf_32 4 rfl ?_
      refine r_imul hC dX7_costOf_34 ?_
      refine r_iload_n hC dX7_costOf_35 rfl 2 rfl ?_
      refine r_iadd hC dX7_costOf_36 ?_
      obtain ⟨c10, h⟩ := h
      refine r_iald hC fx_219 rfl c10 dX7_costOf_37 ?_
      refine r_goto (tgt := 42) hC dX7_costOf_38 (by decide) ?_
      refine r_lvs [0, 1, 2, 4] rfl ?_
      exact KJ7 (gI σ 219 ((61 * x2) + a2).toNatClampNeg) h
set_option maxHeartbeats 4000000 in
set_option maxRecDepth 100000 in
theorem cm_X7_revenue (l : Launch) (dC : Nat → ClassId) (dI : Nat → Nat → Nat) (dA : Nat → ClassId) (α : Nat → Nat) (σ : Mm) (a1 : Int32) (a2 : Int32) (Qm : Int32 → Mm → Prop) (h : wp_X7_revenue σ a1 a2 Qm) (sz : Nat) : Met l yX7_revenue wsX7_revenue ({ frames := 2, cells := 0, slots := 0, locals := 47 } : Room) (cP dC dI dA Fm α σ sz [fO α (some 200), .int a1, .int a2]) (va_Qi Qm (cB dC dI dA Fm α (wl dA Fm α σ) sz) (va_A (wl dA Fm α σ) sz)) 0 0 (va_A (wl dA Fm α σ) sz) := by
  refine m_start (own := RX7) (lv := [(0, fO α (some 200)), (1, .int a1), (2, .int a2)]) (by decide) rfl rfl (by simp only [lgl_O, lgl_I, lgl_J, lgl_N]; decide) (by simp only [lva_O, lva_I, lva_J, lva_N]) ?_
  intro p e s m below meth c hsz hC hr hlk
  generalize hA : va_A (wl dA Fm α σ) sz = A at hC ⊢
  have hA := hA.symm
  generalize hargs : ([fO α (some 200), .int a1, .int a2] : List Value).toArray = args at hC ⊢
  generalize hQ : MQ below _ args s 0 0 A = Q
  unfold wp_X7_revenue at h
  refine r_aload_n hC dX7_revenue_0 rfl 0 rfl ?_
  refine r_aload_n hC dX7_revenue_1 rfl 0 rfl ?_
  refine r_iload_n hC dX7_revenue_2 rfl 1 rfl ?_
  refine r_iload_n hC dX7_revenue_3 rfl 2 rfl ?_
  refine r_calli hC [fO α (some 200)] (m_runV (n := 2) (ci := 7) hC [.int a1, .int a2] [fO α (some 200)] (fun sz => cm_X7_isUnitMonth l dC dI dA α σ a1 a2 _ h sz) gX7_revenue_X7_isUnitMonth rfl ⟨rfl, rfl⟩ (by decide +kernel) ⟨Nat.le_of_ble_eq_true rfl, Nat.le_of_ble_eq_true rfl⟩ fx_200 (ct_7 rfl) rfl rfl (Nat.le_of_ble_eq_true rfl) (by decide) dX7_revenue_4) (fun x2 σ1 hn => ?_)
  clear h
  revert hn
  intro h
  refine r_iconst (v := 1) hC dX7_revenue_7 (by decide) ?_
  refine r_iconst (v := 1) hC dX7_revenue_8 (by decide) ?_
  refine r_calli hC [] (m_runV (n := 3) (ci := 7) hC [.int x2, .int 1, .int 1] [] (fun sz => cm_X7_goes l dC dI dA α σ1 x2 1 1 _ h sz) gX7_revenue_X7_goes rfl ⟨rfl, rfl⟩ (by decide +kernel) ⟨Nat.le_of_ble_eq_true rfl, Nat.le_of_ble_eq_true rfl⟩ fx_200 (ct_7 rfl) rfl rfl (Nat.le_of_ble_eq_true rfl) (by decide) dX7_revenue_9) (fun x4 σ3 hn => ?_)
  clear h
  revert hn
  intro h
  refine r_if_ne (tgt := 17) hC dX7_revenue_12 (by decide) (fun q => ?_) (fun q => ?_)
  · replace h := h.1 q
    refine r_aload_n hC dX7_revenue_17 rfl 0 rfl ?_
    refine r_iload_n hC dX7_revenue_18 rfl 1 rfl ?_
    refine r_iload_n hC dX7_revenue_19 rfl 2 rfl ?_
    refine r_calli hC [] (m_runV (n := 2) (ci := 7) hC [.int a1, .int a2] [] (fun sz => cm_X7_revenueOf l dC dI dA α σ3 a1 a2 _ h sz) gX7_revenue_X7_revenueOf rfl ⟨rfl, rfl⟩ (by decide +kernel) ⟨Nat.le_of_ble_eq_true rfl, Nat.le_of_ble_eq_true rfl⟩ fx_200 (ct_7 rfl) rfl rfl (Nat.le_of_ble_eq_true rfl) (by decide) dX7_revenue_20) (fun x6 σ5 hn => ?_)
    clear h
    revert hn
    intro h
    subst hQ
    exact r_iret hC hA hr hlk dX7_revenue_23 h
  · replace h := h.2 q
    refine r_iconst (v := 0) hC dX7_revenue_15 (by decide) ?_
    subst hQ
    exact r_iret hC hA hr hlk dX7_revenue_16 h
theorem kX7_carries_0 : ∀ w ∈ u_ws RX7 TX7 40, w ∈ wsX7_carries := by decide +kernel
theorem kX7_carries_1 : (Cond.fieldLink RX7 100 "DivisionorderModel" "isCarried" "[Z") ∈ wsX7_carries := by decide +kernel
theorem kX7_carries_2 : (Cond.fieldLink RX7 88 "DivisionorderModel" "deck" "[J") ∈ wsX7_carries := by decide +kernel
theorem kX7_carries_3 : (Cond.fieldLink RX7 103 "DivisionorderModel" "balances" "[J") ∈ wsX7_carries := by decide +kernel
set_option maxHeartbeats 4000000 in
set_option maxRecDepth 100000 in
theorem cm_X7_carries (l : Launch) (dC : Nat → ClassId) (dI : Nat → Nat → Nat) (dA : Nat → ClassId) (α : Nat → Nat) (σ : Mm) (a1 : Int32) (a2 : Int32) (Qm : Mm → Prop) (h : wp_X7_carries σ a1 a2 Qm) (sz : Nat) : Met l yX7_carries wsX7_carries ({ frames := 1, cells := 0, slots := 0, locals := 26 } : Room) (cP dC dI dA Fm α σ sz [fO α (some 200), .int a1, .int a2]) (va_Qv Qm (cB dC dI dA Fm α (wl dA Fm α σ) sz) (va_A (wl dA Fm α σ) sz)) 0 0 (va_A (wl dA Fm α σ) sz) := by
  refine m_start (own := RX7) (lv := [(0, fO α (some 200)), (1, .int a1), (2, .int a2)]) (by decide) rfl rfl (by simp only [lgl_O, lgl_I, lgl_J, lgl_N]; decide) (by simp only [lva_O, lva_I, lva_J, lva_N]) ?_
  intro p e s m below meth c hsz hC hr hlk
  generalize hA : va_A (wl dA Fm α σ) sz = A at hC ⊢
  have hA := hA.symm
  generalize hargs : ([fO α (some 200), .int a1, .int a2] : List Value).toArray = args at hC ⊢
  generalize hQ : MQ below _ args s 0 0 A = Q
  unfold wp_X7_carries at h
  refine r_iconst (v := 0) hC dX7_carries_0 (by decide) ?_
  refine r_istore_n (lv' := [(3, .int 0), (0, fO α (some 200)), (1, .int a1), (2, .int a2)]) hC dX7_carries_1 rfl (by decide) rfl ?_
  refine r_iconst (v := 0) hC dX7_carries_2 (by decide) ?_
  refine r_istore (lv' := [(4, .int 0), (3, .int 0), (0, fO α (some 200)), (1, .int a1), (2, .int a2)]) hC dX7_carries_3 (by decide) rfl ?_
  refine r_lvs [2, 3, 4, 1, 0] rfl ?_
  obtain ⟨n, h⟩ := h
  refine lpw_ind (S := Mm × Int32 × Int32) (fun s5 => G p l e ({ frames := 1, cells := 0, slots := 0, locals := 26 } : Room) s m args below meth c 0 0 Q dC dI dA Fm α A 5 s5.1 5 [(0, fO α (some 200)), (1, .int a1), (2, .int a2), (3, .int s5.2.1), (4, .int s5.2.2)] []) ?_ n (σ, 0, 0) h
  clear h
  intro R4 hR4 s5 h
  obtain ⟨σ1, x2, x3⟩ := s5
  refine r_iload hC dX7_carries_5 4 rfl ?_
  refine r_bipush (v := 10) hC dX7_carries_7 (by decide) ?_
  refine r_icmp_ge (tgt := 103) hC dX7_carries_9 (by decide) (fun q => ?_) (fun q => ?_)
  · replace h := h.1 q
    refine r_iconst (v := 0) hC dX7_carries_103 (by decide) ?_
    refine r_istore (lv' := [(4, .int 0), (0, fO α (some 200)), (1, .int a1), (2, .int a2), (3, .int x2)]) hC dX7_carries_104 (by decide) rfl ?_
    refine r_lvs [1, 4, 0] rfl ?_
    obtain ⟨n, h⟩ := h
    refine lpw_ind (S := Mm × Int32) (fun s9 => G p l e ({ frames := 1, cells := 0, slots := 0, locals := 26 } : Room) s m args below meth c 0 0 Q dC dI dA Fm α A 5 s9.1 106 [(0, fO α (some 200)), (3, .int x2), (4, .int s9.2)] []) ?_ n (σ1, 0) h
    clear h
    intro R8 hR8 s9 h
    obtain ⟨σ6, x7⟩ := s9
    refine r_iload hC dX7_carries_106 2 rfl ?_
    refine r_bipush (v := 10) hC dX7_carries_108 (by decide) ?_
    refine r_icmp_ge (tgt := 145) hC dX7_carries_110 (by decide) (fun q => ?_) (fun q => ?_)
    · replace h := h.1 q
      subst hQ
      exact r_vret hC hA hr hlk dX7_carries_145 h
    · replace h := h.2 q
      refine r_aload_n hC dX7_carries_113 rfl 0 rfl ?_
      refine r_get (ci := 7) (f := 35) (v := fO α (some 228)) hC kX7_carries_0 rfl (by decide) rfl kX7_carries_1 fx_200 (ct_7 rfl) rfl dX7_carries_114 ?_
      refine r_iload hC dX7_carries_117 2 rfl ?_
      refine r_aload_n hC dX7_carries_119 rfl 0 rfl ?_
      refine r_get (ci := 7) (f := 35) (v := fO α (some 228)) hC kX7_carries_0 rfl (by decide) rfl kX7_carries_1 fx_200 (ct_7 rfl) rfl dX7_carries_120 ?_
      refine r_iload hC dX7_carries_123 2 rfl ?_
      obtain ⟨c10, h⟩ := h
      refine r_zald hC fx_228 rfl c10 dX7_carries_125 ?_
      obtain ⟨J12, hJ12, h⟩ := h
      have KJ12 : ∀ (x11 : Int32), J12 x11 → G p l e ({ frames := 1, cells := 0, slots := 0, locals := 26 } : Room) s m args below meth c 0 0 Q dC dI dA Fm α A 5 σ6 138 [(0, fO α (some 200)), (3, .int x2), (4, .int x7)] [.int x11, .int x7, fO α (some 228)] := by
        clear h
        intro x11 h
        replace h := hJ12 x11 h
        obtain ⟨c13, h⟩ := h
        refine r_zast hC fx_228 rfl c13 dX7_carries_138 ?_
        refine r_topm (fun σ14 qσ14 => ?_)
        replace h := h σ14 qσ14
        obtain ⟨x15, qx15⟩ : ∃ z : Int32, z = x7 + 1 := ⟨_, rfl⟩
        replace h := h x15 qx15
        refine r_iinc (v := x15) (lv' := [(4, .int x15), (0, fO α (some 200)), (3, .int x2)]) hC dX7_carries_139 (k := 2) rfl (by rw [qx15]; rfl) (by decide) rfl ?_
        refine r_goto (tgt := 106) hC dX7_carries_142 (by decide) ?_
        refine r_lvs [1, 2, 0] rfl ?_
        exact hR8 _ h
      obtain ⟨J16, hJ16, h⟩ := h
      have KJ16 : J16 → G p l e ({ frames := 1, cells := 0, slots := 0, locals := 26 } : Room) s m args below meth c 0 0 Q dC dI dA Fm α A 5 σ6 137 [(0, fO α (some 200)), (3, .int x2), (4, .int x7)] [.int x7, fO α (some 228)] := by
        clear h
        intro h
        replace h := hJ16 h
        refine r_iconst (v := 0) hC dX7_carries_137 (by decide) ?_
        exact KJ12 0 h
      refine r_if_eq (tgt := 137) hC dX7_carries_126 (by decide) (fun q => ?_) (fun q => ?_)
      · replace h := h.1 q
        exact KJ16 h
      · replace h := h.2 q
        refine r_iload_n hC dX7_carries_129 rfl 1 rfl ?_
        refine r_if_eq (tgt := 137) hC dX7_carries_130 (by decide) (fun q => ?_) (fun q => ?_)
        · replace h := h.1 q
          exact KJ16 h
        · replace h := h.2 q
          refine r_iconst (v := 1) hC dX7_carries_133 (by decide) ?_
          refine r_goto (tgt := 138) hC dX7_carries_134 (by decide) ?_
          exact KJ12 1 h
  · replace h := h.2 q
    refine r_aload_n hC dX7_carries_12 rfl 0 rfl ?_
    refine r_get (ci := 7) (f := 35) (v := fO α (some 228)) hC kX7_carries_0 rfl (by decide) rfl kX7_carries_1 fx_200 (ct_7 rfl) rfl dX7_carries_13 ?_
    refine r_iload hC dX7_carries_16 4 rfl ?_
    refine r_aload_n hC dX7_carries_18 rfl 0 rfl ?_
    refine r_get (ci := 7) (f := 31) (v := fO α (some 224)) hC kX7_carries_0 rfl (by decide) rfl kX7_carries_2 fx_200 (ct_7 rfl) rfl dX7_carries_19 ?_
    refine r_bipush (v := 10) hC dX7_carries_22 (by decide) ?_
    refine r_iload hC dX7_carries_24 4 rfl ?_
    refine r_iadd hC dX7_carries_26 ?_
    obtain ⟨c17, h⟩ := h
    refine r_lald hC fx_224 rfl c17 dX7_carries_27 ?_
    refine r_lconst (v := 0) hC dX7_carries_28 (by decide) ?_
    obtain ⟨J20, hJ20, h⟩ := h
    have KJ20 : ∀ (σ18 : Mm) (x19 : Int32), J20 σ18 x19 → G p l e ({ frames := 1, cells := 0, slots := 0, locals := 26 } : Room) s m args below meth c 0 0 Q dC dI dA Fm α A 5 σ18 61 [(0, fO α (some 200)), (1, .int a1), (2, .int a2), (3, .int x2), (4, .int x3)] [.int x19, .int x3, fO α (some 228)] := by
      clear h
      intro σ18 x19 h
      replace h := hJ20 σ18 x19 h
      obtain ⟨c21, h⟩ := h
      refine r_zast hC fx_228 rfl c21 dX7_carries_61 ?_
      refine r_topm (fun σ22 qσ22 => ?_)
      replace h := h σ22 qσ22
      refine r_iload_n hC dX7_carries_62 rfl 3 rfl ?_
      obtain ⟨J24, hJ24, h⟩ := h
      have KJ24 : ∀ (x23 : Int32), J24 x23 → G p l e ({ frames := 1, cells := 0, slots := 0, locals := 26 } : Room) s m args below meth c 0 0 Q dC dI dA Fm α A 5 σ22 96 [(0, fO α (some 200)), (1, .int a1), (2, .int a2), (4, .int x3)] [.int x23] := by
        clear h
        intro x23 h
        replace h := hJ24 x23 h
        refine r_istore_n (lv' := [(3, .int x23), (0, fO α (some 200)), (1, .int a1), (2, .int a2), (4, .int x3)]) hC dX7_carries_96 rfl (by decide) rfl ?_
        obtain ⟨x25, qx25⟩ : ∃ z : Int32, z = x3 + 1 := ⟨_, rfl⟩
        replace h := h x25 qx25
        refine r_iinc (v := x25) (lv' := [(4, .int x25), (3, .int x23), (0, fO α (some 200)), (1, .int a1), (2, .int a2)]) hC dX7_carries_97 (k := 4) rfl (by rw [qx25]; rfl) (by decide) rfl ?_
        refine r_goto (tgt := 5) hC dX7_carries_100 (by decide) ?_
        refine r_lvs [2, 3, 4, 1, 0] rfl ?_
        exact hR4 _ h
      obtain ⟨J26, hJ26, h⟩ := h
      have KJ26 : J26 → G p l e ({ frames := 1, cells := 0, slots := 0, locals := 26 } : Room) s m args below meth c 0 0 Q dC dI dA Fm α A 5 σ22 91 [(0, fO α (some 200)), (1, .int a1), (2, .int a2), (4, .int x3)] [] := by
        clear h
        intro h
        replace h := hJ26 h
        refine r_iconst (v := 1) hC dX7_carries_91 (by decide) ?_
        refine r_goto (tgt := 96) hC dX7_carries_92 (by decide) ?_
        exact KJ24 1 h
      refine r_if_ne (tgt := 91) hC dX7_carries_63 (by decide) (fun q => ?_) (fun q => ?_)
      · replace h := h.1 q
        refine r_lvs [0, 1, 2, 4] rfl ?_
        exact KJ26 h
      · replace h := h.2 q
        refine r_aload_n hC dX7_carries_66 rfl 0 rfl ?_
        refine r_get (ci := 7) (f := 31) (v := fO α (some 224)) hC kX7_carries_0 rfl (by decide) rfl kX7_carries_2 fx_200 (ct_7 rfl) rfl dX7_carries_67 ?_
        refine r_bipush (v := 10) hC dX7_carries_70 (by decide) ?_
        refine r_iload hC dX7_carries_72 4 rfl ?_
        refine r_iadd hC dX7_carries_74 ?_
        obtain ⟨c27, h⟩ := h
        refine r_lald hC fx_224 rfl c27 dX7_carries_75 ?_
        refine r_lconst (v := 0) hC dX7_carries_76 (by decide) ?_
        obtain ⟨J28, hJ28, h⟩ := h
        have KJ28 : J28 → G p l e ({ frames := 1, cells := 0, slots := 0, locals := 26 } : Room) s m args below meth c 0 0 Q dC dI dA Fm α A 5 σ22 95 [(0, fO α (some 200)), (1, .int a1), (2, .int a2), (4, .int x3)] [] := by
          clear h
          intro h
          replace h := hJ28 h
          refine r_iconst (v := 0) hC dX7_carries_95 (by decide) ?_
          exact KJ24 0 h
        refine r_lcmp_le (tgt := 95) hC dX7_carries_77 dX7_carries_78 (by decide) (fun q => ?_) (fun q => ?_)
        · replace h := h.1 q
          refine r_lvs [0, 1, 2, 4] rfl ?_
          exact KJ28 h
        · replace h := h.2 q
          refine r_aload_n hC dX7_carries_81 rfl 0 rfl ?_
          refine r_get (ci := 7) (f := 35) (v := fO α (some 228)) hC kX7_carries_0 rfl (by decide) rfl kX7_carries_1 fx_200 (ct_7 rfl) rfl dX7_carries_82 ?_
          refine r_iload hC dX7_carries_85 4 rfl ?_
          obtain ⟨c29, h⟩ := h
          refine r_zald hC fx_228 rfl c29 dX7_carries_87 ?_
          refine r_if_ne (tgt := 95) hC dX7_carries_88 (by decide) (fun q => ?_) (fun q => ?_)
          · replace h := h.1 q
            refine r_lvs [0, 1, 2, 4] rfl ?_
            exact KJ28 h
          · replace h := h.2 q
            refine r_lvs [0, 1, 2, 4] rfl ?_
            exact KJ26 h
    obtain ⟨J31, hJ31, h⟩ := h
    have KJ31 : ∀ (σ30 : Mm), J31 σ30 → G p l e ({ frames := 1, cells := 0, slots := 0, locals := 26 } : Room) s m args below meth c 0 0 Q dC dI dA Fm α A 5 σ30 60 [(0, fO α (some 200)), (1, .int a1), (2, .int a2), (3, .int x2), (4, .int x3)] [.int x3, fO α (some 228)] := by
      clear h
      intro σ30 h
      replace h := hJ31 σ30 h
      refine r_iconst (v := 0) hC dX7_carries_60 (by decide) ?_
      exact KJ20 σ30 0 h
    refine r_lcmp_le (tgt := 60) hC dX7_carries_29 dX7_carries_30 (by decide) (fun q => ?_) (fun q => ?_)
    · replace h := h.1 q
      exact KJ31 σ1 h
    · replace h := h.2 q
      refine r_aload_n hC dX7_carries_33 rfl 0 rfl ?_
      refine r_get (ci := 7) (f := 36) (v := fO α (some 229)) hC kX7_carries_0 rfl (by decide) rfl kX7_carries_3 fx_200 (ct_7 rfl) rfl dX7_carries_34 ?_
      refine r_iload hC dX7_carries_37 4 rfl ?_
      obtain ⟨c32, h⟩ := h
      refine r_lald hC fx_229 rfl c32 dX7_carries_39 ?_
      refine r_lconst (v := 0) hC dX7_carries_40 (by decide) ?_
      obtain ⟨J34, hJ34, h⟩ := h
      have KJ34 : ∀ (σ33 : Mm), J34 σ33 → G p l e ({ frames := 1, cells := 0, slots := 0, locals := 26 } : Room) s m args below meth c 0 0 Q dC dI dA Fm α A 5 σ33 56 [(0, fO α (some 200)), (1, .int a1), (2, .int a2), (3, .int x2), (4, .int x3)] [.int x3, fO α (some 228)] := by
        clear h
        intro σ33 h
        replace h := hJ34 σ33 h
        refine r_iconst (v := 1) hC dX7_carries_56 (by decide) ?_
        refine r_goto (tgt := 61) hC dX7_carries_57 (by decide) ?_
        exact KJ20 σ33 1 h
      refine r_lcmp_gt (tgt := 56) hC dX7_carries_41 dX7_carries_42 (by decide) (fun q => ?_) (fun q => ?_)
      · replace h := h.1 q
        exact KJ34 σ1 h
      · replace h := h.2 q
        refine r_aload_n hC dX7_carries_45 rfl 0 rfl ?_
        refine r_iload_n hC dX7_carries_46 rfl 1 rfl ?_
        refine r_iload hC dX7_carries_47 4 rfl ?_
        refine r_iload_n hC dX7_carries_49 rfl 2 rfl ?_
        refine r_calli hC [.int x3, fO α (some 228)] (m_runV (n := 3) (ci := 7) hC [.int a1, .int x3, .int a2] [.int x3, fO α (some 228)] (fun sz => cm_X7_doesConsent l dC dI dA α σ1 a1 x3 a2 _ h sz) gX7_carries_X7_doesConsent rfl ⟨rfl, rfl⟩ (by decide +kernel) ⟨Nat.le_of_ble_eq_true rfl, Nat.le_of_ble_eq_true rfl⟩ fx_200 (ct_7 rfl) rfl rfl (Nat.le_of_ble_eq_true rfl) (by decide) dX7_carries_50) (fun x36 σ35 hn => ?_)
        clear h
        revert hn
        intro h
        refine r_if_ne (tgt := 60) hC dX7_carries_53 (by decide) (fun q => ?_) (fun q => ?_)
        · replace h := h.1 q
          exact KJ31 σ35 h
        · replace h := h.2 q
          exact KJ34 σ35 h
theorem kX7_takesWorking_0 : ∀ w ∈ u_ws RX7 TX7 40, w ∈ wsX7_takesWorking := by decide +kernel
theorem kX7_takesWorking_1 : (Cond.fieldLink RX7 91 "DivisionorderModel" "weights" "[J") ∈ wsX7_takesWorking := by decide +kernel
theorem kX7_takesWorking_2 : (Cond.fieldLink RX7 88 "DivisionorderModel" "deck" "[J") ∈ wsX7_takesWorking := by decide +kernel
theorem kX7_takesWorking_3 : (Cond.fieldLink RX7 100 "DivisionorderModel" "isCarried" "[Z") ∈ wsX7_takesWorking := by decide +kernel
set_option maxHeartbeats 4000000 in
set_option maxRecDepth 100000 in
theorem cm_X7_takesWorking (l : Launch) (dC : Nat → ClassId) (dI : Nat → Nat → Nat) (dA : Nat → ClassId) (α : Nat → Nat) (σ : Mm) (a1 : Int32) (Qm : Mm → Prop) (h : wp_X7_takesWorking σ a1 Qm) (sz : Nat) : Met l yX7_takesWorking wsX7_takesWorking ({ frames := 0, cells := 0, slots := 0, locals := 0 } : Room) (cP dC dI dA Fm α σ sz [fO α (some 200), .int a1]) (va_Qv Qm (cB dC dI dA Fm α (wl dA Fm α σ) sz) (va_A (wl dA Fm α σ) sz)) 0 0 (va_A (wl dA Fm α σ) sz) := by
  refine m_start (own := RX7) (lv := [(0, fO α (some 200)), (1, .int a1)]) (by decide) rfl rfl (by simp only [lgl_O, lgl_I, lgl_J, lgl_N]; decide) (by simp only [lva_O, lva_I, lva_J, lva_N]) ?_
  intro p e s m below meth c hsz hC hr hlk
  generalize hA : va_A (wl dA Fm α σ) sz = A at hC ⊢
  have hA := hA.symm
  generalize hargs : ([fO α (some 200), .int a1] : List Value).toArray = args at hC ⊢
  generalize hQ : MQ below _ args s 0 0 A = Q
  unfold wp_X7_takesWorking at h
  refine r_iconst (v := 0) hC dX7_takesWorking_0 (by decide) ?_
  refine r_istore_n (lv' := [(2, .int 0), (0, fO α (some 200)), (1, .int a1)]) hC dX7_takesWorking_1 rfl (by decide) rfl ?_
  refine r_lvs [1, 2, 0] rfl ?_
  obtain ⟨n, h⟩ := h
  refine lpw_ind (S := Mm × Int32) (fun s4 => G p l e ({ frames := 0, cells := 0, slots := 0, locals := 0 } : Room) s m args below meth c 0 0 Q dC dI dA Fm α A 3 s4.1 2 [(0, fO α (some 200)), (1, .int a1), (2, .int s4.2)] []) ?_ n (σ, 0) h
  clear h
  intro R3 hR3 s4 h
  obtain ⟨σ1, x2⟩ := s4
  refine r_iload_n hC dX7_takesWorking_2 rfl 2 rfl ?_
  refine r_bipush (v := 10) hC dX7_takesWorking_3 (by decide) ?_
  refine r_icmp_ge (tgt := 46) hC dX7_takesWorking_5 (by decide) (fun q => ?_) (fun q => ?_)
  · replace h := h.1 q
    subst hQ
    exact r_vret hC hA hr hlk dX7_takesWorking_46 h
  · replace h := h.2 q
    refine r_aload_n hC dX7_takesWorking_8 rfl 0 rfl ?_
    refine r_get (ci := 7) (f := 32) (v := fO α (some 225)) hC kX7_takesWorking_0 rfl (by decide) rfl kX7_takesWorking_1 fx_200 (ct_7 rfl) rfl dX7_takesWorking_9 ?_
    refine r_iload_n hC dX7_takesWorking_12 rfl 2 rfl ?_
    refine r_iload_n hC dX7_takesWorking_13 rfl 1 rfl ?_
    obtain ⟨J6, hJ6, h⟩ := h
    have KJ6 : ∀ (y5 : Int64), J6 y5 → G p l e ({ frames := 0, cells := 0, slots := 0, locals := 0 } : Room) s m args below meth c 0 0 Q dC dI dA Fm α A 3 σ1 39 [(0, fO α (some 200)), (1, .int a1), (2, .int x2)] [.long y5, .int x2, fO α (some 225)] := by
      clear h
      intro y5 h
      replace h := hJ6 y5 h
      obtain ⟨c7, h⟩ := h
      refine r_last hC fx_225 rfl c7 dX7_takesWorking_39 ?_
      refine r_topm (fun σ8 qσ8 => ?_)
      replace h := h σ8 qσ8
      obtain ⟨x9, qx9⟩ : ∃ z : Int32, z = x2 + 1 := ⟨_, rfl⟩
      replace h := h x9 qx9
      refine r_iinc (v := x9) (lv' := [(2, .int x9), (0, fO α (some 200)), (1, .int a1)]) hC dX7_takesWorking_40 (k := 2) rfl (by rw [qx9]; rfl) (by decide) rfl ?_
      refine r_goto (tgt := 2) hC dX7_takesWorking_43 (by decide) ?_
      refine r_lvs [1, 2, 0] rfl ?_
      exact hR3 _ h
    obtain ⟨J10, hJ10, h⟩ := h
    have KJ10 : J10 → G p l e ({ frames := 0, cells := 0, slots := 0, locals := 0 } : Room) s m args below meth c 0 0 Q dC dI dA Fm α A 3 σ1 26 [(0, fO α (some 200)), (1, .int a1), (2, .int x2)] [.int x2, fO α (some 225)] := by
      clear h
      intro h
      replace h := hJ10 h
      refine r_aload_n hC dX7_takesWorking_26 rfl 0 rfl ?_
      refine r_get (ci := 7) (f := 31) (v := fO α (some 224)) hC kX7_takesWorking_0 rfl (by decide) rfl kX7_takesWorking_2 fx_200 (ct_7 rfl) rfl dX7_takesWorking_27 ?_
      refine r_bipush (v := 10) hC dX7_takesWorking_30 (by decide) ?_
      refine r_iload_n hC dX7_takesWorking_32 rfl 2 rfl ?_
      refine r_iadd hC dX7_takesWorking_33 ?_
      obtain ⟨c11, h⟩ := h
      refine r_lald hC fx_224 rfl c11 dX7_takesWorking_34 ?_
      refine r_goto (tgt := 39) hC dX7_takesWorking_35 (by decide) ?_
      exact KJ6 (gJ σ1 224 (10 + x2).toNatClampNeg) h
    refine r_if_ne (tgt := 26) hC dX7_takesWorking_14 (by decide) (fun q => ?_) (fun q => ?_)
    · replace h := h.1 q
      exact KJ10 h
    · replace h := h.2 q
      refine r_aload_n hC dX7_takesWorking_17 rfl 0 rfl ?_
      refine r_get (ci := 7) (f := 35) (v := fO α (some 228)) hC kX7_takesWorking_0 rfl (by decide) rfl kX7_takesWorking_3 fx_200 (ct_7 rfl) rfl dX7_takesWorking_18 ?_
      refine r_iload_n hC dX7_takesWorking_21 rfl 2 rfl ?_
      obtain ⟨c12, h⟩ := h
      refine r_zald hC fx_228 rfl c12 dX7_takesWorking_22 ?_
      refine r_if_ne (tgt := 38) hC dX7_takesWorking_23 (by decide) (fun q => ?_) (fun q => ?_)
      · replace h := h.1 q
        refine r_lconst (v := 0) hC dX7_takesWorking_38 (by decide) ?_
        exact KJ6 0 h
      · replace h := h.2 q
        exact KJ10 h
theorem kX7_settles_0 : ∀ w ∈ u_ws RX7 TX7 40, w ∈ wsX7_settles := by decide +kernel
theorem kX7_settles_1 : (Cond.fieldLink RX7 106 "DivisionorderModel" "dues" "[J") ∈ wsX7_settles := by decide +kernel
theorem kX7_settles_2 : (Cond.fieldLink RX7 94 "DivisionorderModel" "parts" "[J") ∈ wsX7_settles := by decide +kernel
theorem kX7_settles_3 : (Cond.fieldLink RX7 100 "DivisionorderModel" "isCarried" "[Z") ∈ wsX7_settles := by decide +kernel
theorem kX7_settles_4 : (Cond.fieldLink RX7 103 "DivisionorderModel" "balances" "[J") ∈ wsX7_settles := by decide +kernel
theorem kX7_settles_5 : (Cond.fieldLink RX7 91 "DivisionorderModel" "weights" "[J") ∈ wsX7_settles := by decide +kernel
theorem kX7_settles_6 : (Cond.fieldLink RX7 88 "DivisionorderModel" "deck" "[J") ∈ wsX7_settles := by decide +kernel
theorem kX7_settles_7 : (Cond.fieldLink RX7 73 "DivisionorderModel" "penalty" "I") ∈ wsX7_settles := by decide +kernel
theorem kX7_settles_8 : (Cond.constantLong RX7 194 (100)) ∈ wsX7_settles := by decide +kernel
set_option maxHeartbeats 4000000 in
set_option maxRecDepth 100000 in
theorem cm_X7_settles (l : Launch) (dC : Nat → ClassId) (dI : Nat → Nat → Nat) (dA : Nat → ClassId) (α : Nat → Nat) (σ : Mm) (a1 : Int32) (a2 : Int32) (Qm : Mm → Prop) (h : wp_X7_settles σ a1 a2 Qm) (sz : Nat) : Met l yX7_settles wsX7_settles ({ frames := 4, cells := 0, slots := 0, locals := 101 } : Room) (cP dC dI dA Fm α σ sz [fO α (some 200), .int a1, .int a2]) (va_Qv Qm (cB dC dI dA Fm α (wl dA Fm α σ) sz) (va_A (wl dA Fm α σ) sz)) 0 0 (va_A (wl dA Fm α σ) sz) := by
  refine m_start (own := RX7) (lv := [(0, fO α (some 200)), (1, .int a1), (2, .int a2)]) (by decide) rfl rfl (by simp only [lgl_O, lgl_I, lgl_J, lgl_N]; decide) (by simp only [lva_O, lva_I, lva_J, lva_N]) ?_
  intro p e s m below meth c hsz hC hr hlk
  generalize hA : va_A (wl dA Fm α σ) sz = A at hC ⊢
  have hA := hA.symm
  generalize hargs : ([fO α (some 200), .int a1, .int a2] : List Value).toArray = args at hC ⊢
  generalize hQ : MQ below _ args s 0 0 A = Q
  unfold wp_X7_settles at h
  refine r_aload_n hC dX7_settles_0 rfl 0 rfl ?_
  refine r_iload_n hC dX7_settles_1 rfl 1 rfl ?_
  refine r_iload_n hC dX7_settles_2 rfl 2 rfl ?_
  refine r_callv hC [] (m_runV (n := 2) (ci := 7) hC [.int a1, .int a2] [] (fun sz => cm_X7_decks l dC dI dA α σ a1 a2 _ h sz) gX7_settles_X7_decks rfl ⟨rfl, rfl⟩ (by decide +kernel) ⟨Nat.le_of_ble_eq_true rfl, Nat.le_of_ble_eq_true rfl⟩ fx_200 (ct_7 rfl) rfl rfl (Nat.le_of_ble_eq_true rfl) (by decide) dX7_settles_3) (fun σ1 hn => ?_)
  clear h
  revert hn
  intro h
  refine r_aload_n hC dX7_settles_6 rfl 0 rfl ?_
  refine r_iload_n hC dX7_settles_7 rfl 1 rfl ?_
  refine r_iload_n hC dX7_settles_8 rfl 2 rfl ?_
  refine r_callv hC [] (m_runV (n := 2) (ci := 7) hC [.int a1, .int a2] [] (fun sz => cm_X7_carries l dC dI dA α σ1 a1 a2 _ h sz) gX7_settles_X7_carries rfl ⟨rfl, rfl⟩ (by decide +kernel) ⟨Nat.le_of_ble_eq_true rfl, Nat.le_of_ble_eq_true rfl⟩ fx_200 (ct_7 rfl) rfl rfl (Nat.le_of_ble_eq_true rfl) (by decide) dX7_settles_9) (fun σ2 hn => ?_)
  clear h
  revert hn
  intro h
  refine r_aload_n hC dX7_settles_12 rfl 0 rfl ?_
  refine r_iload_n hC dX7_settles_13 rfl 1 rfl ?_
  refine r_iload_n hC dX7_settles_14 rfl 2 rfl ?_
  refine r_calli hC [] (m_runV (n := 2) (ci := 7) hC [.int a1, .int a2] [] (fun sz => cm_X7_costOf l dC dI dA α σ2 a1 a2 _ h sz) gX7_settles_X7_costOf rfl ⟨rfl, rfl⟩ (by decide +kernel) ⟨Nat.le_of_ble_eq_true rfl, Nat.le_of_ble_eq_true rfl⟩ fx_200 (ct_7 rfl) rfl rfl (Nat.le_of_ble_eq_true rfl) (by decide) dX7_settles_15) (fun x4 σ3 hn => ?_)
  clear h
  revert hn
  intro h
  refine r_istore_n (lv' := [(3, .int x4), (0, fO α (some 200)), (1, .int a1), (2, .int a2)]) hC dX7_settles_18 rfl (by decide) rfl ?_
  refine r_aload_n hC dX7_settles_19 rfl 1 rfl ?_
  refine r_iconst (v := 1) hC dX7_settles_20 (by decide) ?_
  refine r_callv hC [] (m_runV (n := 1) (ci := 7) hC [.int 1] [] (fun sz => cm_X7_takesWorking l dC dI dA α σ3 1 _ h sz) gX7_settles_X7_takesWorking rfl ⟨rfl, rfl⟩ (by decide +kernel) ⟨Nat.le_of_ble_eq_true rfl, Nat.le_of_ble_eq_true rfl⟩ fx_200 (ct_7 rfl) rfl rfl (Nat.le_of_ble_eq_true rfl) (by decide) dX7_settles_21) (fun σ5 hn => ?_)
  clear h
  revert hn
  intro h
  refine r_aload_n hC dX7_settles_24 rfl 1 rfl ?_
  refine r_iload_n hC dX7_settles_25 rfl 0 rfl ?_
  refine r_i2l hC dX7_settles_26 ?_
  refine r_bipush (v := 10) hC dX7_settles_27 (by decide) ?_
  refine r_callv hC [] (m_runV (n := 2) (ci := 7) hC [.long x4.toInt64, .int 10] [] (fun sz => cm_X7_parted l dC dI dA α σ5 x4.toInt64 10 _ h sz) gX7_settles_X7_parted rfl ⟨rfl, rfl⟩ (by decide +kernel) ⟨Nat.le_of_ble_eq_true rfl, Nat.le_of_ble_eq_true rfl⟩ fx_200 (ct_7 rfl) rfl rfl (Nat.le_of_ble_eq_true rfl) (by decide) dX7_settles_29) (fun σ6 hn => ?_)
  clear h
  revert hn
  intro h
  refine r_iconst (v := 0) hC dX7_settles_32 (by decide) ?_
  refine r_istore (lv' := [(4, .int 0), (3, .int x4), (0, fO α (some 200)), (1, .int a1), (2, .int a2)]) hC dX7_settles_33 (by decide) rfl ?_
  refine r_lvs [2, 3, 4, 1, 0] rfl ?_
  obtain ⟨n, h⟩ := h
  refine lpw_ind (S := Mm × Int32) (fun s10 => G p l e ({ frames := 4, cells := 0, slots := 0, locals := 101 } : Room) s m args below meth c 0 0 Q dC dI dA Fm α A 11 s10.1 35 [(0, fO α (some 200)), (1, .int a1), (2, .int a2), (3, .int x4), (4, .int s10.2)] []) ?_ n (σ6, 0) h
  clear h
  intro R9 hR9 s10 h
  obtain ⟨σ7, x8⟩ := s10
  refine r_iload hC dX7_settles_35 4 rfl ?_
  refine r_bipush (v := 10) hC dX7_settles_37 (by decide) ?_
  refine r_icmp_ge (tgt := 89) hC dX7_settles_39 (by decide) (fun q => ?_) (fun q => ?_)
  · replace h := h.1 q
    refine r_aload_n hC dX7_settles_89 rfl 0 rfl ?_
    refine r_iconst (v := 0) hC dX7_settles_90 (by decide) ?_
    refine r_callv hC [] (m_runV (n := 1) (ci := 7) hC [.int 0] [] (fun sz => cm_X7_takesWorking l dC dI dA α σ7 0 _ h sz) gX7_settles_X7_takesWorking rfl ⟨rfl, rfl⟩ (by decide +kernel) ⟨Nat.le_of_ble_eq_true rfl, Nat.le_of_ble_eq_true rfl⟩ fx_200 (ct_7 rfl) rfl rfl (Nat.le_of_ble_eq_true rfl) (by decide) dX7_settles_91) (fun σ11 hn => ?_)
    clear h
    revert hn
    intro h
    refine r_aload_n hC dX7_settles_94 rfl 0 rfl ?_
    refine r_iload_n hC dX7_settles_95 rfl 3 rfl ?_
    refine r_i2l hC dX7_settles_96 ?_
    refine r_bipush (v := 10) hC dX7_settles_97 (by decide) ?_
    refine r_callv hC [] (m_runV (n := 2) (ci := 7) hC [.long x4.toInt64, .int 10] [] (fun sz => cm_X7_parted l dC dI dA α σ11 x4.toInt64 10 _ h sz) gX7_settles_X7_parted rfl ⟨rfl, rfl⟩ (by decide +kernel) ⟨Nat.le_of_ble_eq_true rfl, Nat.le_of_ble_eq_true rfl⟩ fx_200 (ct_7 rfl) rfl rfl (Nat.le_of_ble_eq_true rfl) (by decide) dX7_settles_99) (fun σ12 hn => ?_)
    clear h
    revert hn
    intro h
    refine r_iconst (v := 0) hC dX7_settles_102 (by decide) ?_
    refine r_istore (lv' := [(4, .int 0), (0, fO α (some 200)), (1, .int a1), (2, .int a2), (3, .int x4)]) hC dX7_settles_103 (by decide) rfl ?_
    refine r_lvs [1, 2, 3, 0] rfl ?_
    obtain ⟨n, h⟩ := h
    refine lpw_ind (S := Mm × Int32) (fun s16 => G p l e ({ frames := 4, cells := 0, slots := 0, locals := 101 } : Room) s m args below meth c 0 0 Q dC dI dA Fm α A 11 s16.1 105 [(0, fO α (some 200)), (1, .int a1), (2, .int a2), (4, .int s16.2)] []) ?_ n (σ12, 0) h
    clear h
    intro R15 hR15 s16 h
    obtain ⟨σ13, x14⟩ := s16
    refine r_iload hC dX7_settles_105 3 rfl ?_
    refine r_bipush (v := 10) hC dX7_settles_107 (by decide) ?_
    refine r_icmp_ge (tgt := 133) hC dX7_settles_109 (by decide) (fun q => ?_) (fun q => ?_)
    · replace h := h.1 q
      refine r_iconst (v := 0) hC dX7_settles_133 (by decide) ?_
      refine r_istore (lv' := [(4, .int 0), (0, fO α (some 200)), (1, .int a1), (2, .int a2)]) hC dX7_settles_134 (by decide) rfl ?_
      refine r_lvs [1, 2, 3, 0] rfl ?_
      obtain ⟨n, h⟩ := h
      refine lpw_ind (S := Mm × Int32) (fun s20 => G p l e ({ frames := 4, cells := 0, slots := 0, locals := 101 } : Room) s m args below meth c 0 0 Q dC dI dA Fm α A 11 s20.1 136 [(0, fO α (some 200)), (1, .int a1), (2, .int a2), (4, .int s20.2)] []) ?_ n (σ13, 0) h
      clear h
      intro R19 hR19 s20 h
      obtain ⟨σ17, x18⟩ := s20
      refine r_iload hC dX7_settles_136 3 rfl ?_
      refine r_bipush (v := 20) hC dX7_settles_138 (by decide) ?_
      refine r_icmp_ge (tgt := 163) hC dX7_settles_140 (by decide) (fun q => ?_) (fun q => ?_)
      · replace h := h.1 q
        refine r_aload_n hC dX7_settles_163 rfl 0 rfl ?_
        refine r_aload_n hC dX7_settles_164 rfl 0 rfl ?_
        refine r_iload_n hC dX7_settles_165 rfl 1 rfl ?_
        refine r_iload_n hC dX7_settles_166 rfl 2 rfl ?_
        refine r_calli hC [fO α (some 200)] (m_runV (n := 2) (ci := 7) hC [.int a1, .int a2] [fO α (some 200)] (fun sz => cm_X7_revenueOf l dC dI dA α σ17 a1 a2 _ h sz) gX7_settles_X7_revenueOf rfl ⟨rfl, rfl⟩ (by decide +kernel) ⟨Nat.le_of_ble_eq_true rfl, Nat.le_of_ble_eq_true rfl⟩ fx_200 (ct_7 rfl) rfl rfl (Nat.le_of_ble_eq_true rfl) (by decide) dX7_settles_167) (fun x22 σ21 hn => ?_)
        clear h
        revert hn
        intro h
        refine r_i2l hC dX7_settles_170 ?_
        refine r_bipush (v := 20) hC dX7_settles_171 (by decide) ?_
        refine r_callv hC [] (m_runV (n := 2) (ci := 7) hC [.long x22.toInt64, .int 20] [] (fun sz => cm_X7_parted l dC dI dA α σ21 x22.toInt64 20 _ h sz) gX7_settles_X7_parted rfl ⟨rfl, rfl⟩ (by decide +kernel) ⟨Nat.le_of_ble_eq_true rfl, Nat.le_of_ble_eq_true rfl⟩ fx_200 (ct_7 rfl) rfl rfl (Nat.le_of_ble_eq_true rfl) (by decide) dX7_settles_173) (fun σ23 hn => ?_)
        clear h
        revert hn
        intro h
        refine r_lconst (v := 0) hC dX7_settles_176 (by decide) ?_
        refine r_lstore (lv' := [(4, .long 0), (0, fO α (some 200)), (1, .int a1), (2, .int a2)]) hC dX7_settles_177 (by decide) rfl ?_
        refine r_iconst (v := 0) hC dX7_settles_179 (by decide) ?_
        refine r_istore (lv' := [(6, .int 0), (4, .long 0), (0, fO α (some 200)), (1, .int a1), (2, .int a2)]) hC dX7_settles_180 (by decide) rfl ?_
        refine r_lvs [2, 1, 0] rfl ?_
        obtain ⟨n, h⟩ := h
        refine lpw_ind (S := Mm × Int64 × Int32) (fun s28 => G p l e ({ frames := 4, cells := 0, slots := 0, locals := 101 } : Room) s m args below meth c 0 0 Q dC dI dA Fm α A 11 s28.1 182 [(0, fO α (some 200)), (4, .long s28.2.1), (6, .int s28.2.2)] []) ?_ n (σ23, 0, 0) h
        clear h
        intro R27 hR27 s28 h
        obtain ⟨σ24, y25, x26⟩ := s28
        refine r_iload hC dX7_settles_182 2 rfl ?_
        refine r_bipush (v := 10) hC dX7_settles_184 (by decide) ?_
        refine r_icmp_ge (tgt := 290) hC dX7_settles_186 (by decide) (fun q => ?_) (fun q => ?_)
        · replace h := h.1 q
          refine r_aload_n hC dX7_settles_290 rfl 0 rfl ?_
          refine r_iconst (v := 0) hC dX7_settles_291 (by decide) ?_
          refine r_callv hC [] (m_runV (n := 1) (ci := 7) hC [.int 0] [] (fun sz => cm_X7_takesWorking l dC dI dA α σ24 0 _ h sz) gX7_settles_X7_takesWorking rfl ⟨rfl, rfl⟩ (by decide +kernel) ⟨Nat.le_of_ble_eq_true rfl, Nat.le_of_ble_eq_true rfl⟩ fx_200 (ct_7 rfl) rfl rfl (Nat.le_of_ble_eq_true rfl) (by decide) dX7_settles_292) (fun σ29 hn => ?_)
          clear h
          revert hn
          intro h
          refine r_aload_n hC dX7_settles_295 rfl 0 rfl ?_
          refine r_lload hC dX7_settles_296 1 rfl ?_
          refine r_bipush (v := 10) hC dX7_settles_298 (by decide) ?_
          refine r_callv hC [] (m_runV (n := 2) (ci := 7) hC [.long y25, .int 10] [] (fun sz => cm_X7_parted l dC dI dA α σ29 y25 10 _ h sz) gX7_settles_X7_parted rfl ⟨rfl, rfl⟩ (by decide +kernel) ⟨Nat.le_of_ble_eq_true rfl, Nat.le_of_ble_eq_true rfl⟩ fx_200 (ct_7 rfl) rfl rfl (Nat.le_of_ble_eq_true rfl) (by decide) dX7_settles_300) (fun σ30 hn => ?_)
          clear h
          revert hn
          intro h
          refine r_iconst (v := 0) hC dX7_settles_303 (by decide) ?_
          refine r_istore (lv' := [(6, .int 0), (0, fO α (some 200)), (4, .long y25)]) hC dX7_settles_304 (by decide) rfl ?_
          refine r_lvs [1, 0] rfl ?_
          obtain ⟨n, h⟩ := h
          refine lpw_ind (S := Mm × Int32) (fun s34 => G p l e ({ frames := 4, cells := 0, slots := 0, locals := 101 } : Room) s m args below meth c 0 0 Q dC dI dA Fm α A 11 s34.1 306 [(0, fO α (some 200)), (6, .int s34.2)] []) ?_ n (σ30, 0) h
          clear h
          intro R33 hR33 s34 h
          obtain ⟨σ31, x32⟩ := s34
          refine r_iload hC dX7_settles_306 1 rfl ?_
          refine r_bipush (v := 10) hC dX7_settles_308 (by decide) ?_
          refine r_icmp_ge (tgt := 336) hC dX7_settles_310 (by decide) (fun q => ?_) (fun q => ?_)
          · replace h := h.1 q
            subst hQ
            exact r_vret hC hA hr hlk dX7_settles_336 h
          · replace h := h.2 q
            refine r_aload_n hC dX7_settles_313 rfl 0 rfl ?_
            refine r_get (ci := 7) (f := 37) (v := fO α (some 230)) hC kX7_settles_0 rfl (by decide) rfl kX7_settles_1 fx_200 (ct_7 rfl) rfl dX7_settles_314 ?_
            refine r_iload hC dX7_settles_317 1 rfl ?_
            refine r_dup2 hC rfl fO_cat dX7_settles_319 ?_
            obtain ⟨c35, h⟩ := h
            refine r_lald hC fx_230 rfl c35 dX7_settles_320 ?_
            refine r_aload_n hC dX7_settles_321 rfl 0 rfl ?_
            refine r_get (ci := 7) (f := 33) (v := fO α (some 226)) hC kX7_settles_0 rfl (by decide) rfl kX7_settles_2 fx_200 (ct_7 rfl) rfl dX7_settles_322 ?_
            refine r_iload hC dX7_settles_325 1 rfl ?_
            obtain ⟨c36, h⟩ := h
            refine r_lald hC fx_226 rfl c36 dX7_settles_327 ?_
            refine r_ladd hC dX7_settles_328 ?_
            obtain ⟨c37, h⟩ := h
            refine r_last hC fx_230 rfl c37 dX7_settles_329 ?_
            refine r_topm (fun σ38 qσ38 => ?_)
            replace h := h σ38 qσ38
            obtain ⟨x39, qx39⟩ : ∃ z : Int32, z = x32 + 1 := ⟨_, rfl⟩
            replace h := h x39 qx39
            refine r_iinc (v := x39) (lv' := [(6, .int x39), (0, fO α (some 200))]) hC dX7_settles_330 (k := 1) rfl (by rw [qx39]; rfl) (by decide) rfl ?_
            refine r_goto (tgt := 306) hC dX7_settles_333 (by decide) ?_
            refine r_lvs [1, 0] rfl ?_
            exact hR33 _ h
        · replace h := h.2 q
          refine r_aload_n hC dX7_settles_189 rfl 0 rfl ?_
          refine r_get (ci := 7) (f := 33) (v := fO α (some 226)) hC kX7_settles_0 rfl (by decide) rfl kX7_settles_2 fx_200 (ct_7 rfl) rfl dX7_settles_190 ?_
          refine r_bipush (v := 10) hC dX7_settles_193 (by decide) ?_
          refine r_iload hC dX7_settles_195 2 rfl ?_
          refine r_iadd hC dX7_settles_197 ?_
          obtain ⟨c40, h⟩ := h
          refine r_lald hC fx_226 rfl c40 dX7_settles_198 ?_
          refine r_topl (fun y41 qy41 => ?_)
          replace h := h y41 qy41
          refine r_lstore (lv' := [(7, .long y41), (0, fO α (some 200)), (4, .long y25), (6, .int x26)]) hC dX7_settles_199 (by decide) rfl ?_
          refine r_aload_n hC dX7_settles_201 rfl 1 rfl ?_
          refine r_get (ci := 7) (f := 35) (v := fO α (some 228)) hC kX7_settles_0 rfl (by decide) rfl kX7_settles_3 fx_200 (ct_7 rfl) rfl dX7_settles_202 ?_
          refine r_iload hC dX7_settles_205 3 rfl ?_
          obtain ⟨c42, h⟩ := h
          refine r_zald hC fx_228 rfl c42 dX7_settles_207 ?_
          obtain ⟨J44, hJ44, h⟩ := h
          have KJ44 : ∀ (y43 : Int64), J44 y43 → G p l e ({ frames := 4, cells := 0, slots := 0, locals := 101 } : Room) s m args below meth c 0 0 Q dC dI dA Fm α A 11 σ24 240 [(0, fO α (some 200)), (4, .long y25), (6, .int x26), (7, .long y41)] [.long y43] := by
            clear h
            intro y43 h
            replace h := hJ44 y43 h
            refine r_lstore (lv' := [(9, .long y43), (0, fO α (some 200)), (4, .long y25), (6, .int x26), (7, .long y41)]) hC dX7_settles_240 (by decide) rfl ?_
            refine r_aload_n hC dX7_settles_242 rfl 1 rfl ?_
            refine r_get (ci := 7) (f := 36) (v := fO α (some 229)) hC kX7_settles_0 rfl (by decide) rfl kX7_settles_4 fx_200 (ct_7 rfl) rfl dX7_settles_243 ?_
            refine r_iload hC dX7_settles_246 3 rfl ?_
            refine r_dup2 hC rfl fO_cat dX7_settles_248 ?_
            obtain ⟨c45, h⟩ := h
            refine r_lald hC fx_229 rfl c45 dX7_settles_249 ?_
            refine r_lload hC dX7_settles_250 0 rfl ?_
            refine r_lsub hC dX7_settles_252 ?_
            obtain ⟨c46, h⟩ := h
            refine r_last hC fx_229 rfl c46 dX7_settles_253 ?_
            refine r_topm (fun σ47 qσ47 => ?_)
            replace h := h σ47 qσ47
            refine r_lload hC dX7_settles_254 2 rfl ?_
            refine r_lload hC dX7_settles_256 0 rfl ?_
            refine r_ladd hC dX7_settles_258 ?_
            refine r_topl (fun y48 qy48 => ?_)
            replace h := h y48 qy48
            refine r_lstore (lv' := [(4, .long y48), (9, .long y43), (0, fO α (some 200)), (6, .int x26), (7, .long y41)]) hC dX7_settles_259 (by decide) rfl ?_
            refine r_aload_n hC dX7_settles_261 rfl 2 rfl ?_
            refine r_get (ci := 7) (f := 37) (v := fO α (some 230)) hC kX7_settles_0 rfl (by decide) rfl kX7_settles_1 fx_200 (ct_7 rfl) rfl dX7_settles_262 ?_
            refine r_iload hC dX7_settles_265 3 rfl ?_
            refine r_dup2 hC rfl fO_cat dX7_settles_267 ?_
            obtain ⟨c49, h⟩ := h
            refine r_lald hC fx_230 rfl c49 dX7_settles_268 ?_
            refine r_aload_n hC dX7_settles_269 rfl 2 rfl ?_
            refine r_get (ci := 7) (f := 33) (v := fO α (some 226)) hC kX7_settles_0 rfl (by decide) rfl kX7_settles_2 fx_200 (ct_7 rfl) rfl dX7_settles_270 ?_
            refine r_iload hC dX7_settles_273 3 rfl ?_
            obtain ⟨c50, h⟩ := h
            refine r_lald hC fx_226 rfl c50 dX7_settles_275 ?_
            refine r_lload hC dX7_settles_276 4 rfl ?_
            refine r_ladd hC dX7_settles_278 ?_
            refine r_lload hC dX7_settles_279 1 rfl ?_
            refine r_lsub hC dX7_settles_281 ?_
            refine r_ladd hC dX7_settles_282 ?_
            obtain ⟨c51, h⟩ := h
            refine r_last hC fx_230 rfl c51 dX7_settles_283 ?_
            refine r_topm (fun σ52 qσ52 => ?_)
            replace h := h σ52 qσ52
            obtain ⟨x53, qx53⟩ : ∃ z : Int32, z = x26 + 1 := ⟨_, rfl⟩
            replace h := h x53 qx53
            refine r_iinc (v := x53) (lv' := [(6, .int x53), (4, .long y48), (9, .long y43), (0, fO α (some 200)), (7, .long y41)]) hC dX7_settles_284 (k := 3) rfl (by rw [qx53]; rfl) (by decide) rfl ?_
            refine r_goto (tgt := 182) hC dX7_settles_287 (by decide) ?_
            refine r_lvs [3, 1, 0] rfl ?_
            exact hR27 _ h
          refine r_if_ne (tgt := 215) hC dX7_settles_208 (by decide) (fun q => ?_) (fun q => ?_)
          · replace h := h.1 q
            refine r_lload hC dX7_settles_215 0 rfl ?_
            refine r_aload_n hC dX7_settles_217 rfl 1 rfl ?_
            refine r_get (ci := 7) (f := 36) (v := fO α (some 229)) hC kX7_settles_0 rfl (by decide) rfl kX7_settles_4 fx_200 (ct_7 rfl) rfl dX7_settles_218 ?_
            refine r_iload hC dX7_settles_221 3 rfl ?_
            obtain ⟨c54, h⟩ := h
            refine r_lald hC fx_229 rfl c54 dX7_settles_223 ?_
            refine r_lcmp_ge (tgt := 233) hC dX7_settles_224 dX7_settles_225 (by decide) (fun q => ?_) (fun q => ?_)
            · replace h := h.1 q
              refine r_aload_n hC dX7_settles_233 rfl 1 rfl ?_
              refine r_get (ci := 7) (f := 36) (v := fO α (some 229)) hC kX7_settles_0 rfl (by decide) rfl kX7_settles_4 fx_200 (ct_7 rfl) rfl dX7_settles_234 ?_
              refine r_iload hC dX7_settles_237 3 rfl ?_
              obtain ⟨c55, h⟩ := h
              refine r_lald hC fx_229 rfl c55 dX7_settles_239 ?_
              refine r_lvs [1, 2, 3, 0] rfl ?_
              exact KJ44 (gJ σ24 229 x26.toNatClampNeg) h
            · replace h := h.2 q
              refine r_lload hC dX7_settles_228 0 rfl ?_
              refine r_goto (tgt := 240) hC dX7_settles_230 (by decide) ?_
              refine r_lvs [1, 2, 3, 0] rfl ?_
              exact KJ44 y41 h
          · replace h := h.2 q
            refine r_lconst (v := 0) hC dX7_settles_211 (by decide) ?_
            refine r_goto (tgt := 240) hC dX7_settles_212 (by decide) ?_
            refine r_lvs [1, 2, 3, 0] rfl ?_
            exact KJ44 0 h
      · replace h := h.2 q
        refine r_aload_n hC dX7_settles_143 rfl 0 rfl ?_
        refine r_get (ci := 7) (f := 32) (v := fO α (some 225)) hC kX7_settles_0 rfl (by decide) rfl kX7_settles_5 fx_200 (ct_7 rfl) rfl dX7_settles_144 ?_
        refine r_iload hC dX7_settles_147 3 rfl ?_
        refine r_aload_n hC dX7_settles_149 rfl 0 rfl ?_
        refine r_get (ci := 7) (f := 31) (v := fO α (some 224)) hC kX7_settles_0 rfl (by decide) rfl kX7_settles_6 fx_200 (ct_7 rfl) rfl dX7_settles_150 ?_
        refine r_iload hC dX7_settles_153 3 rfl ?_
        obtain ⟨c56, h⟩ := h
        refine r_lald hC fx_224 rfl c56 dX7_settles_155 ?_
        obtain ⟨c57, h⟩ := h
        refine r_last hC fx_225 rfl c57 dX7_settles_156 ?_
        refine r_topm (fun σ58 qσ58 => ?_)
        replace h := h σ58 qσ58
        obtain ⟨x59, qx59⟩ : ∃ z : Int32, z = x18 + 1 := ⟨_, rfl⟩
        replace h := h x59 qx59
        refine r_iinc (v := x59) (lv' := [(4, .int x59), (0, fO α (some 200)), (1, .int a1), (2, .int a2)]) hC dX7_settles_157 (k := 3) rfl (by rw [qx59]; rfl) (by decide) rfl ?_
        refine r_goto (tgt := 136) hC dX7_settles_160 (by decide) ?_
        refine r_lvs [1, 2, 3, 0] rfl ?_
        exact hR19 _ h
    · replace h := h.2 q
      refine r_aload_n hC dX7_settles_112 rfl 0 rfl ?_
      refine r_get (ci := 7) (f := 37) (v := fO α (some 230)) hC kX7_settles_0 rfl (by decide) rfl kX7_settles_1 fx_200 (ct_7 rfl) rfl dX7_settles_113 ?_
      refine r_iload hC dX7_settles_116 3 rfl ?_
      refine r_aload_n hC dX7_settles_118 rfl 0 rfl ?_
      refine r_get (ci := 7) (f := 33) (v := fO α (some 226)) hC kX7_settles_0 rfl (by decide) rfl kX7_settles_2 fx_200 (ct_7 rfl) rfl dX7_settles_119 ?_
      refine r_iload hC dX7_settles_122 3 rfl ?_
      obtain ⟨c60, h⟩ := h
      refine r_lald hC fx_226 rfl c60 dX7_settles_124 ?_
      refine r_lneg hC dX7_settles_125 ?_
      obtain ⟨c61, h⟩ := h
      refine r_last hC fx_230 rfl c61 dX7_settles_126 ?_
      refine r_topm (fun σ62 qσ62 => ?_)
      replace h := h σ62 qσ62
      obtain ⟨x63, qx63⟩ : ∃ z : Int32, z = x14 + 1 := ⟨_, rfl⟩
      replace h := h x63 qx63
      refine r_iinc (v := x63) (lv' := [(4, .int x63), (0, fO α (some 200)), (1, .int a1), (2, .int a2)]) hC dX7_settles_127 (k := 3) rfl (by rw [qx63]; rfl) (by decide) rfl ?_
      refine r_goto (tgt := 105) hC dX7_settles_130 (by decide) ?_
      refine r_lvs [1, 2, 3, 0] rfl ?_
      exact hR15 _ h
  · replace h := h.2 q
    refine r_aload_n hC dX7_settles_42 rfl 0 rfl ?_
    refine r_get (ci := 7) (f := 36) (v := fO α (some 229)) hC kX7_settles_0 rfl (by decide) rfl kX7_settles_4 fx_200 (ct_7 rfl) rfl dX7_settles_43 ?_
    refine r_iload hC dX7_settles_46 4 rfl ?_
    refine r_dup2 hC rfl fO_cat dX7_settles_48 ?_
    obtain ⟨c64, h⟩ := h
    refine r_lald hC fx_229 rfl c64 dX7_settles_49 ?_
    refine r_aload_n hC dX7_settles_50 rfl 0 rfl ?_
    refine r_get (ci := 7) (f := 35) (v := fO α (some 228)) hC kX7_settles_0 rfl (by decide) rfl kX7_settles_3 fx_200 (ct_7 rfl) rfl dX7_settles_51 ?_
    refine r_iload hC dX7_settles_54 4 rfl ?_
    obtain ⟨c65, h⟩ := h
    refine r_zald hC fx_228 rfl c65 dX7_settles_56 ?_
    obtain ⟨J67, hJ67, h⟩ := h
    have KJ67 : ∀ (y66 : Int64), J67 y66 → G p l e ({ frames := 4, cells := 0, slots := 0, locals := 101 } : Room) s m args below meth c 0 0 Q dC dI dA Fm α A 11 σ7 81 [(0, fO α (some 200)), (1, .int a1), (2, .int a2), (3, .int x4), (4, .int x8)] [.long y66, .long (gJ σ7 229 x8.toNatClampNeg), .int x8, fO α (some 229)] := by
      clear h
      intro y66 h
      replace h := hJ67 y66 h
      refine r_ladd hC dX7_settles_81 ?_
      obtain ⟨c68, h⟩ := h
      refine r_last hC fx_229 rfl c68 dX7_settles_82 ?_
      refine r_topm (fun σ69 qσ69 => ?_)
      replace h := h σ69 qσ69
      obtain ⟨x70, qx70⟩ : ∃ z : Int32, z = x8 + 1 := ⟨_, rfl⟩
      replace h := h x70 qx70
      refine r_iinc (v := x70) (lv' := [(4, .int x70), (0, fO α (some 200)), (1, .int a1), (2, .int a2), (3, .int x4)]) hC dX7_settles_83 (k := 4) rfl (by rw [qx70]; rfl) (by decide) rfl ?_
      refine r_goto (tgt := 35) hC dX7_settles_86 (by decide) ?_
      refine r_lvs [1, 2, 3, 4, 0] rfl ?_
      exact hR9 _ h
    refine r_if_eq (tgt := 80) hC dX7_settles_57 (by decide) (fun q => ?_) (fun q => ?_)
    · replace h := h.1 q
      refine r_lconst (v := 0) hC dX7_settles_80 (by decide) ?_
      exact KJ67 0 h
    · replace h := h.2 q
      refine r_aload_n hC dX7_settles_60 rfl 0 rfl ?_
      refine r_get (ci := 7) (f := 33) (v := fO α (some 226)) hC kX7_settles_0 rfl (by decide) rfl kX7_settles_2 fx_200 (ct_7 rfl) rfl dX7_settles_61 ?_
      refine r_iload hC dX7_settles_64 4 rfl ?_
      obtain ⟨c71, h⟩ := h
      refine r_lald hC fx_226 rfl c71 dX7_settles_66 ?_
      refine r_aload_n hC dX7_settles_67 rfl 0 rfl ?_
      refine r_get (ci := 7) (f := 27) (v := .int (gI σ7 200 27)) hC kX7_settles_0 rfl (by decide) rfl kX7_settles_7 fx_200 (ct_7 rfl) rfl dX7_settles_68 ?_
      refine r_i2l hC dX7_settles_71 ?_
      refine r_lmul hC dX7_settles_72 ?_
      refine r_ldc2 (v := 100) hC kX7_settles_8 dX7_settles_73 ?_
      refine r_ldiv hC (by decide) dX7_settles_76 ?_
      refine r_goto (tgt := 81) hC dX7_settles_77 (by decide) ?_
      exact KJ67 (((gJ σ7 226 x8.toNatClampNeg) * ((gI σ7 200 27).toInt64)) / 100) h
theorem kX7_settlesTo_0 : ∀ w ∈ u_ws RX7 TX7 40, w ∈ wsX7_settlesTo := by decide +kernel
theorem kX7_settlesTo_1 : (Cond.fieldLink RX7 52 "DivisionorderModel" "unitMonth" "[I") ∈ wsX7_settlesTo := by decide +kernel
theorem kX7_settlesTo_2 : (Cond.fieldLink RX7 103 "DivisionorderModel" "balances" "[J") ∈ wsX7_settlesTo := by decide +kernel
set_option maxHeartbeats 4000000 in
set_option maxRecDepth 100000 in
theorem cm_X7_settlesTo (l : Launch) (dC : Nat → ClassId) (dI : Nat → Nat → Nat) (dA : Nat → ClassId) (α : Nat → Nat) (σ : Mm) (a1 : Int32) (a2 : Int32) (Qm : Mm → Prop) (h : wp_X7_settlesTo σ a1 a2 Qm) (sz : Nat) : Met l yX7_settlesTo wsX7_settlesTo ({ frames := 5, cells := 0, slots := 0, locals := 131 } : Room) (cP dC dI dA Fm α σ sz [fO α (some 200), .int a1, .int a2]) (va_Qv Qm (cB dC dI dA Fm α (wl dA Fm α σ) sz) (va_A (wl dA Fm α σ) sz)) 0 0 (va_A (wl dA Fm α σ) sz) := by
  refine m_start (own := RX7) (lv := [(0, fO α (some 200)), (1, .int a1), (2, .int a2)]) (by decide) rfl rfl (by simp only [lgl_O, lgl_I, lgl_J, lgl_N]; decide) (by simp only [lva_O, lva_I, lva_J, lva_N]) ?_
  intro p e s m below meth c hsz hC hr hlk
  generalize hA : va_A (wl dA Fm α σ) sz = A at hC ⊢
  have hA := hA.symm
  generalize hargs : ([fO α (some 200), .int a1, .int a2] : List Value).toArray = args at hC ⊢
  generalize hQ : MQ below _ args s 0 0 A = Q
  unfold wp_X7_settlesTo at h
  refine r_iconst (v := 0) hC dX7_settlesTo_0 (by decide) ?_
  refine r_istore_n (lv' := [(3, .int 0), (0, fO α (some 200)), (1, .int a1), (2, .int a2)]) hC dX7_settlesTo_1 rfl (by decide) rfl ?_
  refine r_lvs [1, 2, 3, 0] rfl ?_
  obtain ⟨n, h⟩ := h
  refine lpw_ind (S := Mm × Int32) (fun s4 => G p l e ({ frames := 5, cells := 0, slots := 0, locals := 131 } : Room) s m args below meth c 0 0 Q dC dI dA Fm α A 4 s4.1 2 [(0, fO α (some 200)), (1, .int a1), (2, .int a2), (3, .int s4.2)] []) ?_ n (σ, 0) h
  clear h
  intro R3 hR3 s4 h
  obtain ⟨σ1, x2⟩ := s4
  refine r_iload_n hC dX7_settlesTo_2 rfl 3 rfl ?_
  refine r_bipush (v := 10) hC dX7_settlesTo_3 (by decide) ?_
  refine r_icmp_ge (tgt := 21) hC dX7_settlesTo_5 (by decide) (fun q => ?_) (fun q => ?_)
  · replace h := h.1 q
    refine r_aload_n hC dX7_settlesTo_21 rfl 0 rfl ?_
    refine r_get (ci := 7) (f := 19) (v := fO α (some 215)) hC kX7_settlesTo_0 rfl (by decide) rfl kX7_settlesTo_1 fx_200 (ct_7 rfl) rfl dX7_settlesTo_22 ?_
    refine r_iload_n hC dX7_settlesTo_25 rfl 1 rfl ?_
    obtain ⟨c5, h⟩ := h
    refine r_iald hC fx_215 rfl c5 dX7_settlesTo_26 ?_
    refine r_topi (fun x6 qx6 => ?_)
    replace h := h x6 qx6
    refine r_istore_n (lv' := [(3, .int x6), (0, fO α (some 200)), (1, .int a1), (2, .int a2)]) hC dX7_settlesTo_27 rfl (by decide) rfl ?_
    refine r_lvs [1, 2, 3, 0] rfl ?_
    obtain ⟨n, h⟩ := h
    refine lpw_ind (S := Mm × Int32) (fun s10 => G p l e ({ frames := 5, cells := 0, slots := 0, locals := 131 } : Room) s m args below meth c 0 0 Q dC dI dA Fm α A 4 s10.1 28 [(0, fO α (some 200)), (1, .int a1), (2, .int a2), (3, .int s10.2)] []) ?_ n (σ1, x6) h
    clear h
    intro R9 hR9 s10 h
    obtain ⟨σ7, x8⟩ := s10
    refine r_iload_n hC dX7_settlesTo_28 rfl 3 rfl ?_
    refine r_iload_n hC dX7_settlesTo_29 rfl 2 rfl ?_
    refine r_icmp_gt (tgt := 45) hC dX7_settlesTo_30 (by decide) (fun q => ?_) (fun q => ?_)
    · replace h := h.1 q
      subst hQ
      exact r_vret hC hA hr hlk dX7_settlesTo_45 h
    · replace h := h.2 q
      refine r_aload_n hC dX7_settlesTo_33 rfl 0 rfl ?_
      refine r_iload_n hC dX7_settlesTo_34 rfl 1 rfl ?_
      refine r_iload_n hC dX7_settlesTo_35 rfl 3 rfl ?_
      refine r_callv hC [] (m_runV (n := 2) (ci := 7) hC [.int a1, .int x8] [] (fun sz => cm_X7_settles l dC dI dA α σ7 a1 x8 _ h sz) gX7_settlesTo_X7_settles rfl ⟨rfl, rfl⟩ (by decide +kernel) ⟨Nat.le_of_ble_eq_true rfl, Nat.le_of_ble_eq_true rfl⟩ fx_200 (ct_7 rfl) rfl rfl (Nat.le_of_ble_eq_true rfl) (by decide) dX7_settlesTo_36) (fun σ11 hn => ?_)
      clear h
      revert hn
      intro h
      obtain ⟨x12, qx12⟩ : ∃ z : Int32, z = x8 + 1 := ⟨_, rfl⟩
      replace h := h x12 qx12
      refine r_iinc (v := x12) (lv' := [(3, .int x12), (0, fO α (some 200)), (1, .int a1), (2, .int a2)]) hC dX7_settlesTo_39 (k := 3) rfl (by rw [qx12]; rfl) (by decide) rfl ?_
      refine r_goto (tgt := 28) hC dX7_settlesTo_42 (by decide) ?_
      refine r_lvs [1, 2, 3, 0] rfl ?_
      exact hR9 _ h
  · replace h := h.2 q
    refine r_aload_n hC dX7_settlesTo_8 rfl 0 rfl ?_
    refine r_get (ci := 7) (f := 36) (v := fO α (some 229)) hC kX7_settlesTo_0 rfl (by decide) rfl kX7_settlesTo_2 fx_200 (ct_7 rfl) rfl dX7_settlesTo_9 ?_
    refine r_iload_n hC dX7_settlesTo_12 rfl 3 rfl ?_
    refine r_lconst (v := 0) hC dX7_settlesTo_13 (by decide) ?_
    obtain ⟨c13, h⟩ := h
    refine r_last hC fx_229 rfl c13 dX7_settlesTo_14 ?_
    refine r_topm (fun σ14 qσ14 => ?_)
    replace h := h σ14 qσ14
    obtain ⟨x15, qx15⟩ : ∃ z : Int32, z = x2 + 1 := ⟨_, rfl⟩
    replace h := h x15 qx15
    refine r_iinc (v := x15) (lv' := [(3, .int x15), (0, fO α (some 200)), (1, .int a1), (2, .int a2)]) hC dX7_settlesTo_15 (k := 3) rfl (by rw [qx15]; rfl) (by decide) rfl ?_
    refine r_goto (tgt := 2) hC dX7_settlesTo_18 (by decide) ?_
    refine r_lvs [1, 2, 3, 0] rfl ?_
    exact hR3 _ h
theorem kX7_due_0 : ∀ w ∈ u_ws RX7 TX7 40, w ∈ wsX7_due := by decide +kernel
theorem kX7_due_1 : (Cond.fieldLink RX7 106 "DivisionorderModel" "dues" "[J") ∈ wsX7_due := by decide +kernel
set_option maxHeartbeats 4000000 in
set_option maxRecDepth 100000 in
theorem cm_X7_due (l : Launch) (dC : Nat → ClassId) (dI : Nat → Nat → Nat) (dA : Nat → ClassId) (α : Nat → Nat) (σ : Mm) (a1 : Int32) (a2 : Int32) (a3 : Int32) (Qm : Int32 → Mm → Prop) (h : wp_X7_due σ a1 a2 a3 Qm) (sz : Nat) : Met l yX7_due wsX7_due ({ frames := 6, cells := 0, slots := 0, locals := 154 } : Room) (cP dC dI dA Fm α σ sz [fO α (some 200), .int a1, .int a2, .int a3]) (va_Qi Qm (cB dC dI dA Fm α (wl dA Fm α σ) sz) (va_A (wl dA Fm α σ) sz)) 0 0 (va_A (wl dA Fm α σ) sz) := by
  refine m_start (own := RX7) (lv := [(0, fO α (some 200)), (1, .int a1), (2, .int a2), (3, .int a3)]) (by decide) rfl rfl (by simp only [lgl_O, lgl_I, lgl_J, lgl_N]; decide) (by simp only [lva_O, lva_I, lva_J, lva_N]) ?_
  intro p e s m below meth c hsz hC hr hlk
  generalize hA : va_A (wl dA Fm α σ) sz = A at hC ⊢
  have hA := hA.symm
  generalize hargs : ([fO α (some 200), .int a1, .int a2, .int a3] : List Value).toArray = args at hC ⊢
  generalize hQ : MQ below _ args s 0 0 A = Q
  unfold wp_X7_due at h
  refine r_aload_n hC dX7_due_0 rfl 0 rfl ?_
  refine r_aload_n hC dX7_due_1 rfl 0 rfl ?_
  refine r_iload_n hC dX7_due_2 rfl 1 rfl ?_
  refine r_iload_n hC dX7_due_3 rfl 2 rfl ?_
  refine r_calli hC [fO α (some 200)] (m_runV (n := 2) (ci := 7) hC [.int a1, .int a2] [fO α (some 200)] (fun sz => cm_X7_isUnitMonth l dC dI dA α σ a1 a2 _ h sz) gX7_due_X7_isUnitMonth rfl ⟨rfl, rfl⟩ (by decide +kernel) ⟨Nat.le_of_ble_eq_true rfl, Nat.le_of_ble_eq_true rfl⟩ fx_200 (ct_7 rfl) rfl rfl (Nat.le_of_ble_eq_true rfl) (by decide) dX7_due_4) (fun x2 σ1 hn => ?_)
  clear h
  revert hn
  intro h
  obtain ⟨J5, hJ5, h⟩ := h
  have KJ5 : ∀ (σ3 : Mm) (x4 : Int32), J5 σ3 x4 → G p l e ({ frames := 6, cells := 0, slots := 0, locals := 154 } : Room) s m args below meth c 0 0 Q dC dI dA Fm α A 4 σ3 22 [(0, fO α (some 200)), (1, .int a1), (2, .int a2), (3, .int a3)] [.int x4, fO α (some 200)] := by
    clear h
    intro σ3 x4 h
    replace h := hJ5 σ3 x4 h
    refine r_iconst (v := 1) hC dX7_due_22 (by decide) ?_
    refine r_iconst (v := 1) hC dX7_due_23 (by decide) ?_
    refine r_calli hC [] (m_runV (n := 3) (ci := 7) hC [.int x4, .int 1, .int 1] [] (fun sz => cm_X7_goes l dC dI dA α σ3 x4 1 1 _ h sz) gX7_due_X7_goes rfl ⟨rfl, rfl⟩ (by decide +kernel) ⟨Nat.le_of_ble_eq_true rfl, Nat.le_of_ble_eq_true rfl⟩ fx_200 (ct_7 rfl) rfl rfl (Nat.le_of_ble_eq_true rfl) (by decide) dX7_due_24) (fun x7 σ6 hn => ?_)
    clear h
    revert hn
    intro h
    refine r_if_ne (tgt := 32) hC dX7_due_27 (by decide) (fun q => ?_) (fun q => ?_)
    · replace h := h.1 q
      refine r_aload_n hC dX7_due_32 rfl 0 rfl ?_
      refine r_iload_n hC dX7_due_33 rfl 1 rfl ?_
      refine r_iload_n hC dX7_due_34 rfl 2 rfl ?_
      refine r_callv hC [] (m_runV (n := 2) (ci := 7) hC [.int a1, .int a2] [] (fun sz => cm_X7_settlesTo l dC dI dA α σ6 a1 a2 _ h sz) gX7_due_X7_settlesTo rfl ⟨rfl, rfl⟩ (by decide +kernel) ⟨Nat.le_of_ble_eq_true rfl, Nat.le_of_ble_eq_true rfl⟩ fx_200 (ct_7 rfl) rfl rfl (Nat.le_of_ble_eq_true rfl) (by decide) dX7_due_35) (fun σ8 hn => ?_)
      clear h
      revert hn
      intro h
      refine r_aload_n hC dX7_due_38 rfl 0 rfl ?_
      refine r_get (ci := 7) (f := 37) (v := fO α (some 230)) hC kX7_due_0 rfl (by decide) rfl kX7_due_1 fx_200 (ct_7 rfl) rfl dX7_due_39 ?_
      refine r_iload_n hC dX7_due_42 rfl 3 rfl ?_
      obtain ⟨c9, h⟩ := h
      refine r_lald hC fx_230 rfl c9 dX7_due_43 ?_
      refine r_l2i hC dX7_due_44 ?_
      subst hQ
      exact r_iret hC hA hr hlk dX7_due_45 h
    · replace h := h.2 q
      refine r_iconst (v := 0) hC dX7_due_30 (by decide) ?_
      subst hQ
      exact r_iret hC hA hr hlk dX7_due_31 h
  obtain ⟨J11, hJ11, h⟩ := h
  have KJ11 : ∀ (σ10 : Mm), J11 σ10 → G p l e ({ frames := 6, cells := 0, slots := 0, locals := 154 } : Room) s m args below meth c 0 0 Q dC dI dA Fm α A 4 σ10 21 [(0, fO α (some 200)), (1, .int a1), (2, .int a2), (3, .int a3)] [fO α (some 200)] := by
    clear h
    intro σ10 h
    replace h := hJ11 σ10 h
    refine r_iconst (v := 0) hC dX7_due_21 (by decide) ?_
    exact KJ5 σ10 0 h
  refine r_if_eq (tgt := 21) hC dX7_due_7 (by decide) (fun q => ?_) (fun q => ?_)
  · replace h := h.1 q
    exact KJ11 σ1 h
  · replace h := h.2 q
    refine r_iload_n hC dX7_due_10 rfl 3 rfl ?_
    refine r_calli hC [fO α (some 200)] (m_runS (n := 1) hC [.int a3] [fO α (some 200)] (fun sz => cm_X7_isOwner l dC dI dA α σ1 a3 _ h sz) gX7_due_X7_isOwner rfl ⟨rfl, rfl⟩ (by decide +kernel) ⟨Nat.le_of_ble_eq_true rfl, Nat.le_of_ble_eq_true rfl⟩ rfl (Nat.le_of_ble_eq_true rfl) (by decide) dX7_due_11) (fun x13 σ12 hn => ?_)
    clear h
    revert hn
    intro h
    refine r_if_eq (tgt := 21) hC dX7_due_14 (by decide) (fun q => ?_) (fun q => ?_)
    · replace h := h.1 q
      exact KJ11 σ12 h
    · replace h := h.2 q
      refine r_iconst (v := 1) hC dX7_due_17 (by decide) ?_
      refine r_goto (tgt := 22) hC dX7_due_18 (by decide) ?_
      exact KJ5 σ12 1 h
theorem kX7_balance_0 : ∀ w ∈ u_ws RX7 TX7 40, w ∈ wsX7_balance := by decide +kernel
theorem kX7_balance_1 : (Cond.fieldLink RX7 103 "DivisionorderModel" "balances" "[J") ∈ wsX7_balance := by decide +kernel
set_option maxHeartbeats 4000000 in
set_option maxRecDepth 100000 in
theorem cm_X7_balance (l : Launch) (dC : Nat → ClassId) (dI : Nat → Nat → Nat) (dA : Nat → ClassId) (α : Nat → Nat) (σ : Mm) (a1 : Int32) (a2 : Int32) (a3 : Int32) (Qm : Int64 → Mm → Prop) (h : wp_X7_balance σ a1 a2 a3 Qm) (sz : Nat) : Met l yX7_balance wsX7_balance ({ frames := 6, cells := 0, slots := 0, locals := 154 } : Room) (cP dC dI dA Fm α σ sz [fO α (some 200), .int a1, .int a2, .int a3]) (va_Ql Qm (cB dC dI dA Fm α (wl dA Fm α σ) sz) (va_A (wl dA Fm α σ) sz)) 0 0 (va_A (wl dA Fm α σ) sz) := by
  refine m_start (own := RX7) (lv := [(0, fO α (some 200)), (1, .int a1), (2, .int a2), (3, .int a3)]) (by decide) rfl rfl (by simp only [lgl_O, lgl_I, lgl_J, lgl_N]; decide) (by simp only [lva_O, lva_I, lva_J, lva_N]) ?_
  intro p e s m below meth c hsz hC hr hlk
  generalize hA : va_A (wl dA Fm α σ) sz = A at hC ⊢
  have hA := hA.symm
  generalize hargs : ([fO α (some 200), .int a1, .int a2, .int a3] : List Value).toArray = args at hC ⊢
  generalize hQ : MQ below _ args s 0 0 A = Q
  unfold wp_X7_balance at h
  refine r_aload_n hC dX7_balance_0 rfl 0 rfl ?_
  refine r_aload_n hC dX7_balance_1 rfl 0 rfl ?_
  refine r_iload_n hC dX7_balance_2 rfl 1 rfl ?_
  refine r_iload_n hC dX7_balance_3 rfl 2 rfl ?_
  refine r_calli hC [fO α (some 200)] (m_runV (n := 2) (ci := 7) hC [.int a1, .int a2] [fO α (some 200)] (fun sz => cm_X7_isUnitMonth l dC dI dA α σ a1 a2 _ h sz) gX7_balance_X7_isUnitMonth rfl ⟨rfl, rfl⟩ (by decide +kernel) ⟨Nat.le_of_ble_eq_true rfl, Nat.le_of_ble_eq_true rfl⟩ fx_200 (ct_7 rfl) rfl rfl (Nat.le_of_ble_eq_true rfl) (by decide) dX7_balance_4) (fun x2 σ1 hn => ?_)
  clear h
  revert hn
  intro h
  obtain ⟨J5, hJ5, h⟩ := h
  have KJ5 : ∀ (σ3 : Mm) (x4 : Int32), J5 σ3 x4 → G p l e ({ frames := 6, cells := 0, slots := 0, locals := 154 } : Room) s m args below meth c 0 0 Q dC dI dA Fm α A 4 σ3 22 [(0, fO α (some 200)), (1, .int a1), (2, .int a2), (3, .int a3)] [.int x4, fO α (some 200)] := by
    clear h
    intro σ3 x4 h
    replace h := hJ5 σ3 x4 h
    refine r_iconst (v := 1) hC dX7_balance_22 (by decide) ?_
    refine r_iconst (v := 1) hC dX7_balance_23 (by decide) ?_
    refine r_calli hC [] (m_runV (n := 3) (ci := 7) hC [.int x4, .int 1, .int 1] [] (fun sz => cm_X7_goes l dC dI dA α σ3 x4 1 1 _ h sz) gX7_balance_X7_goes rfl ⟨rfl, rfl⟩ (by decide +kernel) ⟨Nat.le_of_ble_eq_true rfl, Nat.le_of_ble_eq_true rfl⟩ fx_200 (ct_7 rfl) rfl rfl (Nat.le_of_ble_eq_true rfl) (by decide) dX7_balance_24) (fun x7 σ6 hn => ?_)
    clear h
    revert hn
    intro h
    refine r_if_ne (tgt := 32) hC dX7_balance_27 (by decide) (fun q => ?_) (fun q => ?_)
    · replace h := h.1 q
      refine r_aload_n hC dX7_balance_32 rfl 0 rfl ?_
      refine r_iload_n hC dX7_balance_33 rfl 1 rfl ?_
      refine r_iload_n hC dX7_balance_34 rfl 2 rfl ?_
      refine r_callv hC [] (m_runV (n := 2) (ci := 7) hC [.int a1, .int a2] [] (fun sz => cm_X7_settlesTo l dC dI dA α σ6 a1 a2 _ h sz) gX7_balance_X7_settlesTo rfl ⟨rfl, rfl⟩ (by decide +kernel) ⟨Nat.le_of_ble_eq_true rfl, Nat.le_of_ble_eq_true rfl⟩ fx_200 (ct_7 rfl) rfl rfl (Nat.le_of_ble_eq_true rfl) (by decide) dX7_balance_35) (fun σ8 hn => ?_)
      clear h
      revert hn
      intro h
      refine r_aload_n hC dX7_balance_38 rfl 0 rfl ?_
      refine r_get (ci := 7) (f := 36) (v := fO α (some 229)) hC kX7_balance_0 rfl (by decide) rfl kX7_balance_1 fx_200 (ct_7 rfl) rfl dX7_balance_39 ?_
      refine r_iload_n hC dX7_balance_42 rfl 3 rfl ?_
      obtain ⟨c9, h⟩ := h
      refine r_lald hC fx_229 rfl c9 dX7_balance_43 ?_
      subst hQ
      exact r_lret hC hA hr hlk dX7_balance_44 h
    · replace h := h.2 q
      refine r_lconst (v := 0) hC dX7_balance_30 (by decide) ?_
      subst hQ
      exact r_lret hC hA hr hlk dX7_balance_31 h
  obtain ⟨J11, hJ11, h⟩ := h
  have KJ11 : ∀ (σ10 : Mm), J11 σ10 → G p l e ({ frames := 6, cells := 0, slots := 0, locals := 154 } : Room) s m args below meth c 0 0 Q dC dI dA Fm α A 4 σ10 21 [(0, fO α (some 200)), (1, .int a1), (2, .int a2), (3, .int a3)] [fO α (some 200)] := by
    clear h
    intro σ10 h
    replace h := hJ11 σ10 h
    refine r_iconst (v := 0) hC dX7_balance_21 (by decide) ?_
    exact KJ5 σ10 0 h
  refine r_if_eq (tgt := 21) hC dX7_balance_7 (by decide) (fun q => ?_) (fun q => ?_)
  · replace h := h.1 q
    exact KJ11 σ1 h
  · replace h := h.2 q
    refine r_iload_n hC dX7_balance_10 rfl 3 rfl ?_
    refine r_calli hC [fO α (some 200)] (m_runS (n := 1) hC [.int a3] [fO α (some 200)] (fun sz => cm_X7_isOwner l dC dI dA α σ1 a3 _ h sz) gX7_balance_X7_isOwner rfl ⟨rfl, rfl⟩ (by decide +kernel) ⟨Nat.le_of_ble_eq_true rfl, Nat.le_of_ble_eq_true rfl⟩ rfl (Nat.le_of_ble_eq_true rfl) (by decide) dX7_balance_11) (fun x13 σ12 hn => ?_)
    clear h
    revert hn
    intro h
    refine r_if_eq (tgt := 21) hC dX7_balance_14 (by decide) (fun q => ?_) (fun q => ?_)
    · replace h := h.1 q
      exact KJ11 σ12 h
    · replace h := h.2 q
      refine r_iconst (v := 1) hC dX7_balance_17 (by decide) ?_
      refine r_goto (tgt := 22) hC dX7_balance_18 (by decide) ?_
      exact KJ5 σ12 1 h
theorem kX7_agrees_0 : ∀ w ∈ u_ws RX7 TX7 40, w ∈ wsX7_agrees := by decide +kernel
theorem kX7_agrees_1 : (Cond.fieldLink RX7 106 "DivisionorderModel" "dues" "[J") ∈ wsX7_agrees := by decide +kernel
set_option maxHeartbeats 4000000 in
set_option maxRecDepth 100000 in
theorem cm_X7_agrees (l : Launch) (dC : Nat → ClassId) (dI : Nat → Nat → Nat) (dA : Nat → ClassId) (α : Nat → Nat) (σ : Mm) (a1 : Int32) (a2 : Int32) (Qm : Int32 → Mm → Prop) (h : wp_X7_agrees σ a1 a2 Qm) (sz : Nat) : Met l yX7_agrees wsX7_agrees ({ frames := 6, cells := 0, slots := 0, locals := 154 } : Room) (cP dC dI dA Fm α σ sz [fO α (some 200), .int a1, .int a2]) (va_Qi Qm (cB dC dI dA Fm α (wl dA Fm α σ) sz) (va_A (wl dA Fm α σ) sz)) 0 0 (va_A (wl dA Fm α σ) sz) := by
  refine m_start (own := RX7) (lv := [(0, fO α (some 200)), (1, .int a1), (2, .int a2)]) (by decide) rfl rfl (by simp only [lgl_O, lgl_I, lgl_J, lgl_N]; decide) (by simp only [lva_O, lva_I, lva_J, lva_N]) ?_
  intro p e s m below meth c hsz hC hr hlk
  generalize hA : va_A (wl dA Fm α σ) sz = A at hC ⊢
  have hA := hA.symm
  generalize hargs : ([fO α (some 200), .int a1, .int a2] : List Value).toArray = args at hC ⊢
  generalize hQ : MQ below _ args s 0 0 A = Q
  unfold wp_X7_agrees at h
  refine r_aload_n hC dX7_agrees_0 rfl 0 rfl ?_
  refine r_aload_n hC dX7_agrees_1 rfl 0 rfl ?_
  refine r_iload_n hC dX7_agrees_2 rfl 1 rfl ?_
  refine r_iload_n hC dX7_agrees_3 rfl 2 rfl ?_
  refine r_calli hC [fO α (some 200)] (m_runV (n := 2) (ci := 7) hC [.int a1, .int a2] [fO α (some 200)] (fun sz => cm_X7_isUnitMonth l dC dI dA α σ a1 a2 _ h sz) gX7_agrees_X7_isUnitMonth rfl ⟨rfl, rfl⟩ (by decide +kernel) ⟨Nat.le_of_ble_eq_true rfl, Nat.le_of_ble_eq_true rfl⟩ fx_200 (ct_7 rfl) rfl rfl (Nat.le_of_ble_eq_true rfl) (by decide) dX7_agrees_4) (fun x2 σ1 hn => ?_)
  clear h
  revert hn
  intro h
  refine r_iconst (v := 1) hC dX7_agrees_7 (by decide) ?_
  refine r_iconst (v := 1) hC dX7_agrees_8 (by decide) ?_
  refine r_calli hC [] (m_runV (n := 3) (ci := 7) hC [.int x2, .int 1, .int 1] [] (fun sz => cm_X7_goes l dC dI dA α σ1 x2 1 1 _ h sz) gX7_agrees_X7_goes rfl ⟨rfl, rfl⟩ (by decide +kernel) ⟨Nat.le_of_ble_eq_true rfl, Nat.le_of_ble_eq_true rfl⟩ fx_200 (ct_7 rfl) rfl rfl (Nat.le_of_ble_eq_true rfl) (by decide) dX7_agrees_9) (fun x4 σ3 hn => ?_)
  clear h
  revert hn
  intro h
  refine r_if_ne (tgt := 17) hC dX7_agrees_12 (by decide) (fun q => ?_) (fun q => ?_)
  · replace h := h.1 q
    refine r_aload_n hC dX7_agrees_17 rfl 0 rfl ?_
    refine r_iload_n hC dX7_agrees_18 rfl 1 rfl ?_
    refine r_iload_n hC dX7_agrees_19 rfl 2 rfl ?_
    refine r_callv hC [] (m_runV (n := 2) (ci := 7) hC [.int a1, .int a2] [] (fun sz => cm_X7_settlesTo l dC dI dA α σ3 a1 a2 _ h sz) gX7_agrees_X7_settlesTo rfl ⟨rfl, rfl⟩ (by decide +kernel) ⟨Nat.le_of_ble_eq_true rfl, Nat.le_of_ble_eq_true rfl⟩ fx_200 (ct_7 rfl) rfl rfl (Nat.le_of_ble_eq_true rfl) (by decide) dX7_agrees_20) (fun σ5 hn => ?_)
    clear h
    revert hn
    intro h
    refine r_lconst (v := 0) hC dX7_agrees_23 (by decide) ?_
    refine r_lstore_n (lv' := [(3, .long 0), (0, fO α (some 200)), (1, .int a1), (2, .int a2)]) hC dX7_agrees_24 rfl (by decide) rfl ?_
    refine r_iconst (v := 0) hC dX7_agrees_25 (by decide) ?_
    refine r_istore (lv' := [(5, .int 0), (3, .long 0), (0, fO α (some 200)), (1, .int a1), (2, .int a2)]) hC dX7_agrees_26 (by decide) rfl ?_
    refine r_lvs [2, 3, 4, 1, 0] rfl ?_
    obtain ⟨n, h⟩ := h
    refine lpw_ind (S := Int64 × Int32) (fun s9 => G p l e ({ frames := 6, cells := 0, slots := 0, locals := 154 } : Room) s m args below meth c 0 0 Q dC dI dA Fm α A 6 σ5 28 [(0, fO α (some 200)), (1, .int a1), (2, .int a2), (3, .long s9.1), (5, .int s9.2)] []) ?_ n (0, 0) h
    clear h
    intro R8 hR8 s9 h
    obtain ⟨y6, x7⟩ := s9
    refine r_iload hC dX7_agrees_28 4 rfl ?_
    refine r_bipush (v := 10) hC dX7_agrees_30 (by decide) ?_
    refine r_icmp_ge (tgt := 51) hC dX7_agrees_32 (by decide) (fun q => ?_) (fun q => ?_)
    · replace h := h.1 q
      refine r_lload_n hC dX7_agrees_51 rfl 3 rfl ?_
      refine r_aload_n hC dX7_agrees_52 rfl 0 rfl ?_
      refine r_iload_n hC dX7_agrees_53 rfl 1 rfl ?_
      refine r_iload_n hC dX7_agrees_54 rfl 2 rfl ?_
      refine r_calli hC [.long y6] (m_runV (n := 2) (ci := 7) hC [.int a1, .int a2] [.long y6] (fun sz => cm_X7_revenueOf l dC dI dA α σ5 a1 a2 _ h sz) gX7_agrees_X7_revenueOf rfl ⟨rfl, rfl⟩ (by decide +kernel) ⟨Nat.le_of_ble_eq_true rfl, Nat.le_of_ble_eq_true rfl⟩ fx_200 (ct_7 rfl) rfl rfl (Nat.le_of_ble_eq_true rfl) (by decide) dX7_agrees_55) (fun x11 σ10 hn => ?_)
      clear h
      revert hn
      intro h
      refine r_aload_n hC dX7_agrees_58 rfl 0 rfl ?_
      refine r_iload_n hC dX7_agrees_59 rfl 1 rfl ?_
      refine r_iload_n hC dX7_agrees_60 rfl 2 rfl ?_
      refine r_calli hC [.int x11, .long y6] (m_runV (n := 2) (ci := 7) hC [.int a1, .int a2] [.int x11, .long y6] (fun sz => cm_X7_costOf l dC dI dA α σ10 a1 a2 _ h sz) gX7_agrees_X7_costOf rfl ⟨rfl, rfl⟩ (by decide +kernel) ⟨Nat.le_of_ble_eq_true rfl, Nat.le_of_ble_eq_true rfl⟩ fx_200 (ct_7 rfl) rfl rfl (Nat.le_of_ble_eq_true rfl) (by decide) dX7_agrees_61) (fun x13 σ12 hn => ?_)
      clear h
      revert hn
      intro h
      refine r_isub hC dX7_agrees_64 ?_
      refine r_i2l hC dX7_agrees_65 ?_
      obtain ⟨J15, hJ15, h⟩ := h
      have KJ15 : ∀ (x14 : Int32), J15 x14 → G p l e ({ frames := 6, cells := 0, slots := 0, locals := 154 } : Room) s m args below meth c 0 0 Q dC dI dA Fm α A 6 σ12 75 [] [.int x14] := by
        clear h
        intro x14 h
        replace h := hJ15 x14 h
        subst hQ
        exact r_zret hC hA hr hlk dX7_agrees_75 h.1 h.2
      refine r_lcmp_ne (tgt := 74) hC dX7_agrees_66 dX7_agrees_67 (by decide) (fun q => ?_) (fun q => ?_)
      · replace h := h.1 q
        refine r_iconst (v := 0) hC dX7_agrees_74 (by decide) ?_
        refine r_lvs [] rfl ?_
        exact KJ15 0 h
      · replace h := h.2 q
        refine r_iconst (v := 1) hC dX7_agrees_70 (by decide) ?_
        refine r_goto (tgt := 75) hC dX7_agrees_71 (by decide) ?_
        refine r_lvs [] rfl ?_
        exact KJ15 1 h
    · replace h := h.2 q
      refine r_lload_n hC dX7_agrees_35 rfl 3 rfl ?_
      refine r_aload_n hC dX7_agrees_36 rfl 0 rfl ?_
      refine r_get (ci := 7) (f := 37) (v := fO α (some 230)) hC kX7_agrees_0 rfl (by decide) rfl kX7_agrees_1 fx_200 (ct_7 rfl) rfl dX7_agrees_37 ?_
      refine r_iload hC dX7_agrees_40 4 rfl ?_
      obtain ⟨c16, h⟩ := h
      refine r_lald hC fx_230 rfl c16 dX7_agrees_42 ?_
      refine r_ladd hC dX7_agrees_43 ?_
      refine r_topl (fun y17 qy17 => ?_)
      replace h := h y17 qy17
      refine r_lstore_n (lv' := [(3, .long y17), (0, fO α (some 200)), (1, .int a1), (2, .int a2), (5, .int x7)]) hC dX7_agrees_44 rfl (by decide) rfl ?_
      obtain ⟨x18, qx18⟩ : ∃ z : Int32, z = x7 + 1 := ⟨_, rfl⟩
      replace h := h x18 qx18
      refine r_iinc (v := x18) (lv' := [(5, .int x18), (3, .long y17), (0, fO α (some 200)), (1, .int a1), (2, .int a2)]) hC dX7_agrees_45 (k := 4) rfl (by rw [qx18]; rfl) (by decide) rfl ?_
      refine r_goto (tgt := 28) hC dX7_agrees_48 (by decide) ?_
      refine r_lvs [2, 3, 4, 1, 0] rfl ?_
      exact hR8 _ h
  · replace h := h.2 q
    refine r_iconst (v := 0) hC dX7_agrees_15 (by decide) ?_
    subst hQ
    exact r_zret hC hA hr hlk dX7_agrees_16 (show zb 0 from rfl) h
theorem kX7_suspend_0 : ∀ w ∈ u_ws RX7 TX7 40, w ∈ wsX7_suspend := by decide +kernel
theorem kX7_suspend_1 : (Cond.fieldLink RX7 80 "DivisionorderModel" "isSuspended" "[Z") ∈ wsX7_suspend := by decide +kernel
set_option maxHeartbeats 4000000 in
set_option maxRecDepth 100000 in
theorem cm_X7_suspend (l : Launch) (dC : Nat → ClassId) (dI : Nat → Nat → Nat) (dA : Nat → ClassId) (α : Nat → Nat) (σ : Mm) (a1 : Int32) (a2 : Int32) (Qm : Int32 → Mm → Prop) (h : wp_X7_suspend σ a1 a2 Qm) (sz : Nat) : Met l yX7_suspend wsX7_suspend ({ frames := 2, cells := 0, slots := 0, locals := 42 } : Room) (cP dC dI dA Fm α σ sz [fO α (some 200), .int a1, .int a2]) (va_Qi Qm (cB dC dI dA Fm α (wl dA Fm α σ) sz) (va_A (wl dA Fm α σ) sz)) 0 0 (va_A (wl dA Fm α σ) sz) := by
  refine m_start (own := RX7) (lv := [(0, fO α (some 200)), (1, .int a1), (2, .int a2)]) (by decide) rfl rfl (by simp only [lgl_O, lgl_I, lgl_J, lgl_N]; decide) (by simp only [lva_O, lva_I, lva_J, lva_N]) ?_
  intro p e s m below meth c hsz hC hr hlk
  generalize hA : va_A (wl dA Fm α σ) sz = A at hC ⊢
  have hA := hA.symm
  generalize hargs : ([fO α (some 200), .int a1, .int a2] : List Value).toArray = args at hC ⊢
  generalize hQ : MQ below _ args s 0 0 A = Q
  unfold wp_X7_suspend at h
  refine r_aload_n hC dX7_suspend_0 rfl 0 rfl ?_
  refine r_iload_n hC dX7_suspend_1 rfl 1 rfl ?_
  refine r_calli hC [fO α (some 200)] (m_runS (n := 1) hC [.int a1] [fO α (some 200)] (fun sz => cm_X7_isOwner l dC dI dA α σ a1 _ h sz) gX7_suspend_X7_isOwner rfl ⟨rfl, rfl⟩ (by decide +kernel) ⟨Nat.le_of_ble_eq_true rfl, Nat.le_of_ble_eq_true rfl⟩ rfl (Nat.le_of_ble_eq_true rfl) (by decide) dX7_suspend_2) (fun x2 σ1 hn => ?_)
  clear h
  revert hn
  intro h
  refine r_iconst (v := 1) hC dX7_suspend_5 (by decide) ?_
  refine r_iconst (v := 1) hC dX7_suspend_6 (by decide) ?_
  refine r_calli hC [] (m_runV (n := 3) (ci := 7) hC [.int x2, .int 1, .int 1] [] (fun sz => cm_X7_goes l dC dI dA α σ1 x2 1 1 _ h sz) gX7_suspend_X7_goes rfl ⟨rfl, rfl⟩ (by decide +kernel) ⟨Nat.le_of_ble_eq_true rfl, Nat.le_of_ble_eq_true rfl⟩ fx_200 (ct_7 rfl) rfl rfl (Nat.le_of_ble_eq_true rfl) (by decide) dX7_suspend_7) (fun x4 σ3 hn => ?_)
  clear h
  revert hn
  intro h
  refine r_if_ne (tgt := 15) hC dX7_suspend_10 (by decide) (fun q => ?_) (fun q => ?_)
  · replace h := h.1 q
    refine r_aload_n hC dX7_suspend_15 rfl 0 rfl ?_
    refine r_get (ci := 7) (f := 29) (v := fO α (some 222)) hC kX7_suspend_0 rfl (by decide) rfl kX7_suspend_1 fx_200 (ct_7 rfl) rfl dX7_suspend_16 ?_
    refine r_iload_n hC dX7_suspend_19 rfl 1 rfl ?_
    obtain ⟨c5, h⟩ := h
    refine r_zald hC fx_222 rfl c5 dX7_suspend_20 ?_
    refine r_topi (fun x6 qx6 => ?_)
    replace h := h x6 qx6
    refine r_istore_n (lv' := [(3, .int x6), (0, fO α (some 200)), (1, .int a1), (2, .int a2)]) hC dX7_suspend_21 rfl (by decide) rfl ?_
    refine r_aload_n hC dX7_suspend_22 rfl 1 rfl ?_
    refine r_get (ci := 7) (f := 29) (v := fO α (some 222)) hC kX7_suspend_0 rfl (by decide) rfl kX7_suspend_1 fx_200 (ct_7 rfl) rfl dX7_suspend_23 ?_
    refine r_iload_n hC dX7_suspend_26 rfl 2 rfl ?_
    refine r_iload_n hC dX7_suspend_27 rfl 3 rfl ?_
    obtain ⟨c7, h⟩ := h
    refine r_zast hC fx_222 rfl c7 dX7_suspend_28 ?_
    refine r_topm (fun σ8 qσ8 => ?_)
    replace h := h σ8 qσ8
    refine r_iload_n hC dX7_suspend_29 rfl 0 rfl ?_
    subst hQ
    exact r_zret hC hA hr hlk dX7_suspend_30 h.1 h.2
  · replace h := h.2 q
    refine r_iconst (v := 0) hC dX7_suspend_13 (by decide) ?_
    subst hQ
    exact r_zret hC hA hr hlk dX7_suspend_14 (show zb 0 from rfl) h
theorem kX7_least_0 : (Cond.constant RX7 216 (100000)) ∈ wsX7_least := by decide +kernel
theorem kX7_least_1 : ∀ w ∈ u_ws RX7 TX7 40, w ∈ wsX7_least := by decide +kernel
theorem kX7_least_2 : (Cond.fieldLink RX7 77 "DivisionorderModel" "least" "I") ∈ wsX7_least := by decide +kernel
set_option maxHeartbeats 4000000 in
set_option maxRecDepth 100000 in
theorem cm_X7_least (l : Launch) (dC : Nat → ClassId) (dI : Nat → Nat → Nat) (dA : Nat → ClassId) (α : Nat → Nat) (σ : Mm) (a1 : Int32) (Qm : Int32 → Mm → Prop) (h : wp_X7_least σ a1 Qm) (sz : Nat) : Met l yX7_least wsX7_least ({ frames := 1, cells := 0, slots := 0, locals := 23 } : Room) (cP dC dI dA Fm α σ sz [fO α (some 200), .int a1]) (va_Qi Qm (cB dC dI dA Fm α (wl dA Fm α σ) sz) (va_A (wl dA Fm α σ) sz)) 0 0 (va_A (wl dA Fm α σ) sz) := by
  refine m_start (own := RX7) (lv := [(0, fO α (some 200)), (1, .int a1)]) (by decide) rfl rfl (by simp only [lgl_O, lgl_I, lgl_J, lgl_N]; decide) (by simp only [lva_O, lva_I, lva_J, lva_N]) ?_
  intro p e s m below meth c hsz hC hr hlk
  generalize hA : va_A (wl dA Fm α σ) sz = A at hC ⊢
  have hA := hA.symm
  generalize hargs : ([fO α (some 200), .int a1] : List Value).toArray = args at hC ⊢
  generalize hQ : MQ below _ args s 0 0 A = Q
  unfold wp_X7_least at h
  refine r_aload_n hC dX7_least_0 rfl 0 rfl ?_
  refine r_iload_n hC dX7_least_1 rfl 1 rfl ?_
  refine r_iconst (v := 1) hC dX7_least_2 (by decide) ?_
  refine r_ldc (v := 100000) hC kX7_least_0 dX7_least_3 ?_
  refine r_calli hC [fO α (some 200)] (m_runS (n := 3) hC [.int a1, .int 1, .int 100000] [fO α (some 200)] (fun sz => cm_X7_isBetween l dC dI dA α σ a1 1 100000 _ h sz) gX7_least_X7_isBetween rfl ⟨rfl, rfl⟩ (by decide +kernel) ⟨Nat.le_of_ble_eq_true rfl, Nat.le_of_ble_eq_true rfl⟩ rfl (Nat.le_of_ble_eq_true rfl) (by decide) dX7_least_5) (fun x2 σ1 hn => ?_)
  clear h
  revert hn
  intro h
  refine r_iconst (v := 1) hC dX7_least_8 (by decide) ?_
  refine r_iconst (v := 1) hC dX7_least_9 (by decide) ?_
  refine r_calli hC [] (m_runV (n := 3) (ci := 7) hC [.int x2, .int 1, .int 1] [] (fun sz => cm_X7_goes l dC dI dA α σ1 x2 1 1 _ h sz) gX7_least_X7_goes rfl ⟨rfl, rfl⟩ (by decide +kernel) ⟨Nat.le_of_ble_eq_true rfl, Nat.le_of_ble_eq_true rfl⟩ fx_200 (ct_7 rfl) rfl rfl (Nat.le_of_ble_eq_true rfl) (by decide) dX7_least_10) (fun x4 σ3 hn => ?_)
  clear h
  revert hn
  intro h
  refine r_if_ne (tgt := 18) hC dX7_least_13 (by decide) (fun q => ?_) (fun q => ?_)
  · replace h := h.1 q
    refine r_aload_n hC dX7_least_18 rfl 0 rfl ?_
    refine r_get (ci := 7) (f := 28) (v := .int (gI σ3 200 28)) hC kX7_least_1 rfl (by decide) rfl kX7_least_2 fx_200 (ct_7 rfl) rfl dX7_least_19 ?_
    refine r_topi (fun x5 qx5 => ?_)
    replace h := h x5 qx5
    refine r_istore_n (lv' := [(2, .int x5), (0, fO α (some 200)), (1, .int a1)]) hC dX7_least_22 rfl (by decide) rfl ?_
    refine r_aload_n hC dX7_least_23 rfl 1 rfl ?_
    refine r_iload_n hC dX7_least_24 rfl 2 rfl ?_
    refine r_put (ci := 7) (f := 28) (v := .int a1) (σ' := sI σ3 200 28 a1) hC kX7_least_1 tyX7 tyX7_ok nmX7 rfl (by decide) rfl kX7_least_2 fx_200 (ct_7 rfl) rfl rfl (Nat.le_of_ble_eq_true rfl) (pt_7_28 rfl) ct_sI dX7_least_25 ?_
    refine r_topm (fun σ6 qσ6 => ?_)
    replace h := h σ6 qσ6
    refine r_iload_n hC dX7_least_28 rfl 0 rfl ?_
    subst hQ
    exact r_iret hC hA hr hlk dX7_least_29 h
  · replace h := h.2 q
    refine r_iconst (v := 0) hC dX7_least_16 (by decide) ?_
    subst hQ
    exact r_iret hC hA hr hlk dX7_least_17 h
theorem kX7_owes_0 : ∀ w ∈ u_ws RX7 TX7 40, w ∈ wsX7_owes := by decide +kernel
theorem kX7_owes_1 : (Cond.fieldLink RX7 125 "DivisionorderModel" "units" "I") ∈ wsX7_owes := by decide +kernel
theorem kX7_owes_2 : (Cond.fieldLink RX7 52 "DivisionorderModel" "unitMonth" "[I") ∈ wsX7_owes := by decide +kernel
theorem kX7_owes_3 : (Cond.fieldLink RX7 122 "DivisionorderModel" "now" "I") ∈ wsX7_owes := by decide +kernel
theorem kX7_owes_4 : (Cond.fieldLink RX7 109 "DivisionorderModel" "owed" "[J") ∈ wsX7_owes := by decide +kernel
theorem kX7_owes_5 : (Cond.fieldLink RX7 106 "DivisionorderModel" "dues" "[J") ∈ wsX7_owes := by decide +kernel
theorem kX7_owes_6 : (Cond.fieldLink RX7 103 "DivisionorderModel" "balances" "[J") ∈ wsX7_owes := by decide +kernel
theorem kX7_owes_7 : (Cond.fieldLink RX7 84 "DivisionorderModel" "paid" "[J") ∈ wsX7_owes := by decide +kernel
set_option maxHeartbeats 4000000 in
set_option maxRecDepth 100000 in
theorem cm_X7_owes (l : Launch) (dC : Nat → ClassId) (dI : Nat → Nat → Nat) (dA : Nat → ClassId) (α : Nat → Nat) (σ : Mm)  (Qm : Mm → Prop) (h : wp_X7_owes σ  Qm) (sz : Nat) : Met l yX7_owes wsX7_owes ({ frames := 5, cells := 0, slots := 0, locals := 131 } : Room) (cP dC dI dA Fm α σ sz [fO α (some 200)]) (va_Qv Qm (cB dC dI dA Fm α (wl dA Fm α σ) sz) (va_A (wl dA Fm α σ) sz)) 0 0 (va_A (wl dA Fm α σ) sz) := by
  refine m_start (own := RX7) (lv := [(0, fO α (some 200))]) (by decide) rfl rfl (by simp only [lgl_O, lgl_I, lgl_J, lgl_N]; decide) (by simp only [lva_O, lva_I, lva_J, lva_N]) ?_
  intro p e s m below meth c hsz hC hr hlk
  generalize hA : va_A (wl dA Fm α σ) sz = A at hC ⊢
  have hA := hA.symm
  generalize hargs : ([fO α (some 200)] : List Value).toArray = args at hC ⊢
  generalize hQ : MQ below _ args s 0 0 A = Q
  unfold wp_X7_owes at h
  refine r_iconst (v := 0) hC dX7_owes_0 (by decide) ?_
  refine r_istore_n (lv' := [(1, .int 0), (0, fO α (some 200))]) hC dX7_owes_1 rfl (by decide) rfl ?_
  refine r_lvs [1, 0] rfl ?_
  obtain ⟨n, h⟩ := h
  refine lpw_ind (S := Mm × Int32) (fun s4 => G p l e ({ frames := 5, cells := 0, slots := 0, locals := 131 } : Room) s m args below meth c 0 0 Q dC dI dA Fm α A 4 s4.1 2 [(0, fO α (some 200)), (1, .int s4.2)] []) ?_ n (σ, 0) h
  clear h
  intro R3 hR3 s4 h
  obtain ⟨σ1, x2⟩ := s4
  refine r_iload_n hC dX7_owes_2 rfl 1 rfl ?_
  refine r_bipush (v := 10) hC dX7_owes_3 (by decide) ?_
  refine r_icmp_ge (tgt := 27) hC dX7_owes_5 (by decide) (fun q => ?_) (fun q => ?_)
  · replace h := h.1 q
    refine r_iconst (v := 0) hC dX7_owes_27 (by decide) ?_
    refine r_istore_n (lv' := [(1, .int 0), (0, fO α (some 200))]) hC dX7_owes_28 rfl (by decide) rfl ?_
    refine r_lvs [1, 0] rfl ?_
    obtain ⟨n, h⟩ := h
    refine lpw_ind (S := Mm × Int32) (fun s8 => G p l e ({ frames := 5, cells := 0, slots := 0, locals := 131 } : Room) s m args below meth c 0 0 Q dC dI dA Fm α A 4 s8.1 29 [(0, fO α (some 200)), (1, .int s8.2)] []) ?_ n (σ1, 0) h
    clear h
    intro R7 hR7 s8 h
    obtain ⟨σ5, x6⟩ := s8
    refine r_iload_n hC dX7_owes_29 rfl 1 rfl ?_
    refine r_aload_n hC dX7_owes_30 rfl 0 rfl ?_
    refine r_get (ci := 7) (f := 18) (v := .int (gI σ5 200 18)) hC kX7_owes_0 rfl (by decide) rfl kX7_owes_1 fx_200 (ct_7 rfl) rfl dX7_owes_31 ?_
    refine r_icmp_ge (tgt := 120) hC dX7_owes_34 (by decide) (fun q => ?_) (fun q => ?_)
    · replace h := h.1 q
      subst hQ
      exact r_vret hC hA hr hlk dX7_owes_120 h
    · replace h := h.2 q
      refine r_iconst (v := 0) hC dX7_owes_37 (by decide) ?_
      refine r_istore_n (lv' := [(2, .int 0), (0, fO α (some 200)), (1, .int x6)]) hC dX7_owes_38 rfl (by decide) rfl ?_
      refine r_lvs [1, 2, 0] rfl ?_
      obtain ⟨n, h⟩ := h
      refine lpw_ind (S := Mm × Int32) (fun s12 => G p l e ({ frames := 5, cells := 0, slots := 0, locals := 131 } : Room) s m args below meth c 0 0 Q dC dI dA Fm α A 4 s12.1 39 [(0, fO α (some 200)), (1, .int x6), (2, .int s12.2)] []) ?_ n (σ5, 0) h
      clear h
      intro R11 hR11 s12 h
      obtain ⟨σ9, x10⟩ := s12
      refine r_iload_n hC dX7_owes_39 rfl 2 rfl ?_
      refine r_bipush (v := 10) hC dX7_owes_40 (by decide) ?_
      refine r_icmp_ge (tgt := 58) hC dX7_owes_42 (by decide) (fun q => ?_) (fun q => ?_)
      · replace h := h.1 q
        refine r_aload_n hC dX7_owes_58 rfl 0 rfl ?_
        refine r_get (ci := 7) (f := 19) (v := fO α (some 215)) hC kX7_owes_0 rfl (by decide) rfl kX7_owes_2 fx_200 (ct_7 rfl) rfl dX7_owes_59 ?_
        refine r_iload_n hC dX7_owes_62 rfl 1 rfl ?_
        obtain ⟨c13, h⟩ := h
        refine r_iald hC fx_215 rfl c13 dX7_owes_63 ?_
        refine r_topi (fun x14 qx14 => ?_)
        replace h := h x14 qx14
        refine r_istore_n (lv' := [(2, .int x14), (0, fO α (some 200)), (1, .int x6)]) hC dX7_owes_64 rfl (by decide) rfl ?_
        refine r_lvs [1, 2, 0] rfl ?_
        obtain ⟨n, h⟩ := h
        refine lpw_ind (S := Mm × Int32) (fun s18 => G p l e ({ frames := 5, cells := 0, slots := 0, locals := 131 } : Room) s m args below meth c 0 0 Q dC dI dA Fm α A 4 s18.1 65 [(0, fO α (some 200)), (1, .int x6), (2, .int s18.2)] []) ?_ n (σ9, x14) h
        clear h
        intro R17 hR17 s18 h
        obtain ⟨σ15, x16⟩ := s18
        refine r_iload_n hC dX7_owes_65 rfl 2 rfl ?_
        refine r_aload_n hC dX7_owes_66 rfl 0 rfl ?_
        refine r_get (ci := 7) (f := 0) (v := .int (gI σ15 200 0)) hC kX7_owes_0 rfl (by decide) rfl kX7_owes_3 fx_200 (ct_7 rfl) rfl dX7_owes_67 ?_
        refine r_icmp_gt (tgt := 114) hC dX7_owes_70 (by decide) (fun q => ?_) (fun q => ?_)
        · replace h := h.1 q
          obtain ⟨x19, qx19⟩ : ∃ z : Int32, z = x6 + 1 := ⟨_, rfl⟩
          replace h := h x19 qx19
          refine r_iinc (v := x19) (lv' := [(1, .int x19), (0, fO α (some 200)), (2, .int x16)]) hC dX7_owes_114 (k := 1) rfl (by rw [qx19]; rfl) (by decide) rfl ?_
          refine r_goto (tgt := 29) hC dX7_owes_117 (by decide) ?_
          refine r_lvs [1, 0] rfl ?_
          exact hR7 _ h
        · replace h := h.2 q
          refine r_aload_n hC dX7_owes_73 rfl 0 rfl ?_
          refine r_iload_n hC dX7_owes_74 rfl 1 rfl ?_
          refine r_iload_n hC dX7_owes_75 rfl 2 rfl ?_
          refine r_callv hC [] (m_runV (n := 2) (ci := 7) hC [.int x6, .int x16] [] (fun sz => cm_X7_settles l dC dI dA α σ15 x6 x16 _ h sz) gX7_owes_X7_settles rfl ⟨rfl, rfl⟩ (by decide +kernel) ⟨Nat.le_of_ble_eq_true rfl, Nat.le_of_ble_eq_true rfl⟩ fx_200 (ct_7 rfl) rfl rfl (Nat.le_of_ble_eq_true rfl) (by decide) dX7_owes_76) (fun σ20 hn => ?_)
          clear h
          revert hn
          intro h
          refine r_iconst (v := 0) hC dX7_owes_79 (by decide) ?_
          refine r_istore_n (lv' := [(3, .int 0), (0, fO α (some 200)), (1, .int x6), (2, .int x16)]) hC dX7_owes_80 rfl (by decide) rfl ?_
          refine r_lvs [1, 2, 3, 0] rfl ?_
          obtain ⟨n, h⟩ := h
          refine lpw_ind (S := Mm × Int32) (fun s24 => G p l e ({ frames := 5, cells := 0, slots := 0, locals := 131 } : Room) s m args below meth c 0 0 Q dC dI dA Fm α A 4 s24.1 81 [(0, fO α (some 200)), (1, .int x6), (2, .int x16), (3, .int s24.2)] []) ?_ n (σ20, 0) h
          clear h
          intro R23 hR23 s24 h
          obtain ⟨σ21, x22⟩ := s24
          refine r_iload_n hC dX7_owes_81 rfl 3 rfl ?_
          refine r_bipush (v := 10) hC dX7_owes_82 (by decide) ?_
          refine r_icmp_ge (tgt := 108) hC dX7_owes_84 (by decide) (fun q => ?_) (fun q => ?_)
          · replace h := h.1 q
            obtain ⟨x25, qx25⟩ : ∃ z : Int32, z = x16 + 1 := ⟨_, rfl⟩
            replace h := h x25 qx25
            refine r_iinc (v := x25) (lv' := [(2, .int x25), (0, fO α (some 200)), (1, .int x6), (3, .int x22)]) hC dX7_owes_108 (k := 2) rfl (by rw [qx25]; rfl) (by decide) rfl ?_
            refine r_goto (tgt := 65) hC dX7_owes_111 (by decide) ?_
            refine r_lvs [1, 2, 0] rfl ?_
            exact hR17 _ h
          · replace h := h.2 q
            refine r_aload_n hC dX7_owes_87 rfl 0 rfl ?_
            refine r_get (ci := 7) (f := 38) (v := fO α (some 231)) hC kX7_owes_0 rfl (by decide) rfl kX7_owes_4 fx_200 (ct_7 rfl) rfl dX7_owes_88 ?_
            refine r_iload_n hC dX7_owes_91 rfl 3 rfl ?_
            refine r_dup2 hC rfl fO_cat dX7_owes_92 ?_
            obtain ⟨c26, h⟩ := h
            refine r_lald hC fx_231 rfl c26 dX7_owes_93 ?_
            refine r_aload_n hC dX7_owes_94 rfl 0 rfl ?_
            refine r_get (ci := 7) (f := 37) (v := fO α (some 230)) hC kX7_owes_0 rfl (by decide) rfl kX7_owes_5 fx_200 (ct_7 rfl) rfl dX7_owes_95 ?_
            refine r_iload_n hC dX7_owes_98 rfl 3 rfl ?_
            obtain ⟨c27, h⟩ := h
            refine r_lald hC fx_230 rfl c27 dX7_owes_99 ?_
            refine r_ladd hC dX7_owes_100 ?_
            obtain ⟨c28, h⟩ := h
            refine r_last hC fx_231 rfl c28 dX7_owes_101 ?_
            refine r_topm (fun σ29 qσ29 => ?_)
            replace h := h σ29 qσ29
            obtain ⟨x30, qx30⟩ : ∃ z : Int32, z = x22 + 1 := ⟨_, rfl⟩
            replace h := h x30 qx30
            refine r_iinc (v := x30) (lv' := [(3, .int x30), (0, fO α (some 200)), (1, .int x6), (2, .int x16)]) hC dX7_owes_102 (k := 3) rfl (by rw [qx30]; rfl) (by decide) rfl ?_
            refine r_goto (tgt := 81) hC dX7_owes_105 (by decide) ?_
            refine r_lvs [1, 2, 3, 0] rfl ?_
            exact hR23 _ h
      · replace h := h.2 q
        refine r_aload_n hC dX7_owes_45 rfl 0 rfl ?_
        refine r_get (ci := 7) (f := 36) (v := fO α (some 229)) hC kX7_owes_0 rfl (by decide) rfl kX7_owes_6 fx_200 (ct_7 rfl) rfl dX7_owes_46 ?_
        refine r_iload_n hC dX7_owes_49 rfl 2 rfl ?_
        refine r_lconst (v := 0) hC dX7_owes_50 (by decide) ?_
        obtain ⟨c31, h⟩ := h
        refine r_last hC fx_229 rfl c31 dX7_owes_51 ?_
        refine r_topm (fun σ32 qσ32 => ?_)
        replace h := h σ32 qσ32
        obtain ⟨x33, qx33⟩ : ∃ z : Int32, z = x10 + 1 := ⟨_, rfl⟩
        replace h := h x33 qx33
        refine r_iinc (v := x33) (lv' := [(2, .int x33), (0, fO α (some 200)), (1, .int x6)]) hC dX7_owes_52 (k := 2) rfl (by rw [qx33]; rfl) (by decide) rfl ?_
        refine r_goto (tgt := 39) hC dX7_owes_55 (by decide) ?_
        refine r_lvs [1, 2, 0] rfl ?_
        exact hR11 _ h
  · replace h := h.2 q
    refine r_aload_n hC dX7_owes_8 rfl 0 rfl ?_
    refine r_get (ci := 7) (f := 38) (v := fO α (some 231)) hC kX7_owes_0 rfl (by decide) rfl kX7_owes_4 fx_200 (ct_7 rfl) rfl dX7_owes_9 ?_
    refine r_iload_n hC dX7_owes_12 rfl 1 rfl ?_
    refine r_aload_n hC dX7_owes_13 rfl 0 rfl ?_
    refine r_get (ci := 7) (f := 30) (v := fO α (some 223)) hC kX7_owes_0 rfl (by decide) rfl kX7_owes_7 fx_200 (ct_7 rfl) rfl dX7_owes_14 ?_
    refine r_iload_n hC dX7_owes_17 rfl 1 rfl ?_
    obtain ⟨c34, h⟩ := h
    refine r_lald hC fx_223 rfl c34 dX7_owes_18 ?_
    refine r_lneg hC dX7_owes_19 ?_
    obtain ⟨c35, h⟩ := h
    refine r_last hC fx_231 rfl c35 dX7_owes_20 ?_
    refine r_topm (fun σ36 qσ36 => ?_)
    replace h := h σ36 qσ36
    obtain ⟨x37, qx37⟩ : ∃ z : Int32, z = x2 + 1 := ⟨_, rfl⟩
    replace h := h x37 qx37
    refine r_iinc (v := x37) (lv' := [(1, .int x37), (0, fO α (some 200))]) hC dX7_owes_21 (k := 1) rfl (by rw [qx37]; rfl) (by decide) rfl ?_
    refine r_goto (tgt := 2) hC dX7_owes_24 (by decide) ?_
    refine r_lvs [1, 0] rfl ?_
    exact hR3 _ h
theorem kX7_payDay_0 : ∀ w ∈ u_ws RX7 TX7 40, w ∈ wsX7_payDay := by decide +kernel
theorem kX7_payDay_1 : (Cond.fieldLink RX7 112 "DivisionorderModel" "thrown" "I") ∈ wsX7_payDay := by decide +kernel
theorem kX7_payDay_2 : (Cond.fieldLink RX7 109 "DivisionorderModel" "owed" "[J") ∈ wsX7_payDay := by decide +kernel
theorem kX7_payDay_3 : (Cond.fieldLink RX7 80 "DivisionorderModel" "isSuspended" "[Z") ∈ wsX7_payDay := by decide +kernel
theorem kX7_payDay_4 : (Cond.fieldLink RX7 77 "DivisionorderModel" "least" "I") ∈ wsX7_payDay := by decide +kernel
theorem kX7_payDay_5 : (Cond.fieldLink RX7 84 "DivisionorderModel" "paid" "[J") ∈ wsX7_payDay := by decide +kernel
set_option maxHeartbeats 4000000 in
set_option maxRecDepth 100000 in
theorem cm_X7_payDay (l : Launch) (dC : Nat → ClassId) (dI : Nat → Nat → Nat) (dA : Nat → ClassId) (α : Nat → Nat) (σ : Mm)  (Qm : Int64 → Mm → Prop) (h : wp_X7_payDay σ  Qm) (sz : Nat) : Met l yX7_payDay wsX7_payDay ({ frames := 6, cells := 0, slots := 0, locals := 154 } : Room) (cP dC dI dA Fm α σ sz [fO α (some 200)]) (va_Ql Qm (cB dC dI dA Fm α (wl dA Fm α σ) sz) (va_A (wl dA Fm α σ) sz)) 0 0 (va_A (wl dA Fm α σ) sz) := by
  refine m_start (own := RX7) (lv := [(0, fO α (some 200))]) (by decide) rfl rfl (by simp only [lgl_O, lgl_I, lgl_J, lgl_N]; decide) (by simp only [lva_O, lva_I, lva_J, lva_N]) ?_
  intro p e s m below meth c hsz hC hr hlk
  generalize hA : va_A (wl dA Fm α σ) sz = A at hC ⊢
  have hA := hA.symm
  generalize hargs : ([fO α (some 200)] : List Value).toArray = args at hC ⊢
  generalize hQ : MQ below _ args s 0 0 A = Q
  unfold wp_X7_payDay at h
  refine r_aload_n hC dX7_payDay_0 rfl 0 rfl ?_
  refine r_iconst (v := 0) hC dX7_payDay_1 (by decide) ?_
  refine r_put (ci := 7) (f := 39) (v := .int 0) (σ' := sI σ 200 39 0) hC kX7_payDay_0 tyX7 tyX7_ok nmX7 rfl (by decide) rfl kX7_payDay_1 fx_200 (ct_7 rfl) rfl rfl (Nat.le_of_ble_eq_true rfl) (pt_7_39 rfl) ct_sI dX7_payDay_2 ?_
  refine r_topm (fun σ1 qσ1 => ?_)
  replace h := h σ1 qσ1
  refine r_lconst (v := 0) hC dX7_payDay_5 (by decide) ?_
  refine r_lstore_n (lv' := [(1, .long 0), (0, fO α (some 200))]) hC dX7_payDay_6 rfl (by decide) rfl ?_
  refine r_aload_n hC dX7_payDay_7 rfl 1 rfl ?_
  refine r_callv hC [] (m_runV (n := 0) (ci := 7) hC [] [] (fun sz => cm_X7_owes l dC dI dA α σ1  _ h sz) gX7_payDay_X7_owes rfl ⟨rfl, rfl⟩ (by decide +kernel) ⟨Nat.le_of_ble_eq_true rfl, Nat.le_of_ble_eq_true rfl⟩ fx_200 (ct_7 rfl) rfl rfl (Nat.le_of_ble_eq_true rfl) (by decide) dX7_payDay_8) (fun σ2 hn => ?_)
  clear h
  revert hn
  intro h
  refine r_iconst (v := 0) hC dX7_payDay_11 (by decide) ?_
  refine r_istore_n (lv' := [(3, .int 0), (1, .long 0), (0, fO α (some 200))]) hC dX7_payDay_12 rfl (by decide) rfl ?_
  refine r_lvs [2, 1, 0] rfl ?_
  obtain ⟨n, h⟩ := h
  refine lpw_ind (S := Mm × Int64 × Int32) (fun s7 => G p l e ({ frames := 6, cells := 0, slots := 0, locals := 154 } : Room) s m args below meth c 0 0 Q dC dI dA Fm α A 6 s7.1 13 [(0, fO α (some 200)), (1, .long s7.2.1), (3, .int s7.2.2)] []) ?_ n (σ2, 0, 0) h
  clear h
  intro R6 hR6 s7 h
  obtain ⟨σ3, y4, x5⟩ := s7
  refine r_iload_n hC dX7_payDay_13 rfl 2 rfl ?_
  refine r_bipush (v := 10) hC dX7_payDay_14 (by decide) ?_
  refine r_icmp_ge (tgt := 69) hC dX7_payDay_16 (by decide) (fun q => ?_) (fun q => ?_)
  · replace h := h.1 q
    refine r_lload_n hC dX7_payDay_69 rfl 1 rfl ?_
    subst hQ
    exact r_lret hC hA hr hlk dX7_payDay_70 h
  · replace h := h.2 q
    refine r_aload_n hC dX7_payDay_19 rfl 0 rfl ?_
    refine r_get (ci := 7) (f := 38) (v := fO α (some 231)) hC kX7_payDay_0 rfl (by decide) rfl kX7_payDay_2 fx_200 (ct_7 rfl) rfl dX7_payDay_20 ?_
    refine r_iload_n hC dX7_payDay_23 rfl 2 rfl ?_
    obtain ⟨c8, h⟩ := h
    refine r_lald hC fx_231 rfl c8 dX7_payDay_24 ?_
    refine r_topl (fun y9 qy9 => ?_)
    replace h := h y9 qy9
    refine r_lstore (lv' := [(4, .long y9), (0, fO α (some 200)), (1, .long y4), (3, .int x5)]) hC dX7_payDay_25 (by decide) rfl ?_
    refine r_aload_n hC dX7_payDay_27 rfl 1 rfl ?_
    refine r_get (ci := 7) (f := 29) (v := fO α (some 222)) hC kX7_payDay_0 rfl (by decide) rfl kX7_payDay_3 fx_200 (ct_7 rfl) rfl dX7_payDay_28 ?_
    refine r_iload_n hC dX7_payDay_31 rfl 3 rfl ?_
    obtain ⟨c10, h⟩ := h
    refine r_zald hC fx_222 rfl c10 dX7_payDay_32 ?_
    obtain ⟨J13, hJ13, h⟩ := h
    have KJ13 : ∀ (σ11 : Mm) (y12 : Int64), J13 σ11 y12 → G p l e ({ frames := 6, cells := 0, slots := 0, locals := 154 } : Room) s m args below meth c 0 0 Q dC dI dA Fm α A 6 σ11 63 [(0, fO α (some 200)), (1, .long y12), (3, .int x5)] [] := by
      clear h
      intro σ11 y12 h
      replace h := hJ13 σ11 y12 h
      obtain ⟨x14, qx14⟩ : ∃ z : Int32, z = x5 + 1 := ⟨_, rfl⟩
      replace h := h x14 qx14
      refine r_iinc (v := x14) (lv' := [(3, .int x14), (0, fO α (some 200)), (1, .long y12)]) hC dX7_payDay_63 (k := 2) rfl (by rw [qx14]; rfl) (by decide) rfl ?_
      refine r_goto (tgt := 13) hC dX7_payDay_66 (by decide) ?_
      refine r_lvs [1, 2, 0] rfl ?_
      exact hR6 _ h
    refine r_if_ne (tgt := 63) hC dX7_payDay_33 (by decide) (fun q => ?_) (fun q => ?_)
    · replace h := h.1 q
      refine r_lvs [1, 2, 3] rfl ?_
      exact KJ13 σ3 y4 h
    · replace h := h.2 q
      refine r_lload hC dX7_payDay_36 0 rfl ?_
      refine r_aload_n hC dX7_payDay_38 rfl 1 rfl ?_
      refine r_get (ci := 7) (f := 28) (v := .int (gI σ3 200 28)) hC kX7_payDay_0 rfl (by decide) rfl kX7_payDay_4 fx_200 (ct_7 rfl) rfl dX7_payDay_39 ?_
      refine r_i2l hC dX7_payDay_42 ?_
      refine r_lcmp_lt (tgt := 63) hC dX7_payDay_43 dX7_payDay_44 (by decide) (fun q => ?_) (fun q => ?_)
      · replace h := h.1 q
        refine r_lvs [1, 2, 3] rfl ?_
        exact KJ13 σ3 y4 h
      · replace h := h.2 q
        refine r_aload_n hC dX7_payDay_47 rfl 1 rfl ?_
        refine r_get (ci := 7) (f := 30) (v := fO α (some 223)) hC kX7_payDay_0 rfl (by decide) rfl kX7_payDay_5 fx_200 (ct_7 rfl) rfl dX7_payDay_48 ?_
        refine r_iload_n hC dX7_payDay_51 rfl 3 rfl ?_
        refine r_dup2 hC rfl fO_cat dX7_payDay_52 ?_
        obtain ⟨c15, h⟩ := h
        refine r_lald hC fx_223 rfl c15 dX7_payDay_53 ?_
        refine r_lload hC dX7_payDay_54 0 rfl ?_
        refine r_ladd hC dX7_payDay_56 ?_
        obtain ⟨c16, h⟩ := h
        refine r_last hC fx_223 rfl c16 dX7_payDay_57 ?_
        refine r_topm (fun σ17 qσ17 => ?_)
        replace h := h σ17 qσ17
        refine r_lload_n hC dX7_payDay_58 rfl 2 rfl ?_
        refine r_lload hC dX7_payDay_59 0 rfl ?_
        refine r_ladd hC dX7_payDay_61 ?_
        refine r_topl (fun y18 qy18 => ?_)
        replace h := h y18 qy18
        refine r_lstore_n (lv' := [(1, .long y18), (4, .long y9), (0, fO α (some 200)), (3, .int x5)]) hC dX7_payDay_62 rfl (by decide) rfl ?_
        refine r_lvs [2, 0, 3] rfl ?_
        exact KJ13 σ17 y18 h
theorem kX7_owed_0 : ∀ w ∈ u_ws RX7 TX7 40, w ∈ wsX7_owed := by decide +kernel
theorem kX7_owed_1 : (Cond.fieldLink RX7 109 "DivisionorderModel" "owed" "[J") ∈ wsX7_owed := by decide +kernel
set_option maxHeartbeats 4000000 in
set_option maxRecDepth 100000 in
theorem cm_X7_owed (l : Launch) (dC : Nat → ClassId) (dI : Nat → Nat → Nat) (dA : Nat → ClassId) (α : Nat → Nat) (σ : Mm) (a1 : Int32) (Qm : Int64 → Mm → Prop) (h : wp_X7_owed σ a1 Qm) (sz : Nat) : Met l yX7_owed wsX7_owed ({ frames := 6, cells := 0, slots := 0, locals := 154 } : Room) (cP dC dI dA Fm α σ sz [fO α (some 200), .int a1]) (va_Ql Qm (cB dC dI dA Fm α (wl dA Fm α σ) sz) (va_A (wl dA Fm α σ) sz)) 0 0 (va_A (wl dA Fm α σ) sz) := by
  refine m_start (own := RX7) (lv := [(0, fO α (some 200)), (1, .int a1)]) (by decide) rfl rfl (by simp only [lgl_O, lgl_I, lgl_J, lgl_N]; decide) (by simp only [lva_O, lva_I, lva_J, lva_N]) ?_
  intro p e s m below meth c hsz hC hr hlk
  generalize hA : va_A (wl dA Fm α σ) sz = A at hC ⊢
  have hA := hA.symm
  generalize hargs : ([fO α (some 200), .int a1] : List Value).toArray = args at hC ⊢
  generalize hQ : MQ below _ args s 0 0 A = Q
  unfold wp_X7_owed at h
  refine r_aload_n hC dX7_owed_0 rfl 0 rfl ?_
  refine r_iload_n hC dX7_owed_1 rfl 1 rfl ?_
  refine r_calli hC [fO α (some 200)] (m_runS (n := 1) hC [.int a1] [fO α (some 200)] (fun sz => cm_X7_isOwner l dC dI dA α σ a1 _ h sz) gX7_owed_X7_isOwner rfl ⟨rfl, rfl⟩ (by decide +kernel) ⟨Nat.le_of_ble_eq_true rfl, Nat.le_of_ble_eq_true rfl⟩ rfl (Nat.le_of_ble_eq_true rfl) (by decide) dX7_owed_2) (fun x2 σ1 hn => ?_)
  clear h
  revert hn
  intro h
  refine r_iconst (v := 1) hC dX7_owed_5 (by decide) ?_
  refine r_iconst (v := 1) hC dX7_owed_6 (by decide) ?_
  refine r_calli hC [] (m_runV (n := 3) (ci := 7) hC [.int x2, .int 1, .int 1] [] (fun sz => cm_X7_goes l dC dI dA α σ1 x2 1 1 _ h sz) gX7_owed_X7_goes rfl ⟨rfl, rfl⟩ (by decide +kernel) ⟨Nat.le_of_ble_eq_true rfl, Nat.le_of_ble_eq_true rfl⟩ fx_200 (ct_7 rfl) rfl rfl (Nat.le_of_ble_eq_true rfl) (by decide) dX7_owed_7) (fun x4 σ3 hn => ?_)
  clear h
  revert hn
  intro h
  refine r_if_ne (tgt := 15) hC dX7_owed_10 (by decide) (fun q => ?_) (fun q => ?_)
  · replace h := h.1 q
    refine r_aload_n hC dX7_owed_15 rfl 0 rfl ?_
    refine r_callv hC [] (m_runV (n := 0) (ci := 7) hC [] [] (fun sz => cm_X7_owes l dC dI dA α σ3  _ h sz) gX7_owed_X7_owes rfl ⟨rfl, rfl⟩ (by decide +kernel) ⟨Nat.le_of_ble_eq_true rfl, Nat.le_of_ble_eq_true rfl⟩ fx_200 (ct_7 rfl) rfl rfl (Nat.le_of_ble_eq_true rfl) (by decide) dX7_owed_16) (fun σ5 hn => ?_)
    clear h
    revert hn
    intro h
    refine r_aload_n hC dX7_owed_19 rfl 0 rfl ?_
    refine r_get (ci := 7) (f := 38) (v := fO α (some 231)) hC kX7_owed_0 rfl (by decide) rfl kX7_owed_1 fx_200 (ct_7 rfl) rfl dX7_owed_20 ?_
    refine r_iload_n hC dX7_owed_23 rfl 1 rfl ?_
    obtain ⟨c6, h⟩ := h
    refine r_lald hC fx_231 rfl c6 dX7_owed_24 ?_
    subst hQ
    exact r_lret hC hA hr hlk dX7_owed_25 h
  · replace h := h.2 q
    refine r_lconst (v := 0) hC dX7_owed_13 (by decide) ?_
    subst hQ
    exact r_lret hC hA hr hlk dX7_owed_14 h
theorem kX7_paid_0 : ∀ w ∈ u_ws RX7 TX7 40, w ∈ wsX7_paid := by decide +kernel
theorem kX7_paid_1 : (Cond.fieldLink RX7 84 "DivisionorderModel" "paid" "[J") ∈ wsX7_paid := by decide +kernel
set_option maxHeartbeats 4000000 in
set_option maxRecDepth 100000 in
theorem cm_X7_paid (l : Launch) (dC : Nat → ClassId) (dI : Nat → Nat → Nat) (dA : Nat → ClassId) (α : Nat → Nat) (σ : Mm) (a1 : Int32) (Qm : Int64 → Mm → Prop) (h : wp_X7_paid σ a1 Qm) (sz : Nat) : Met l yX7_paid wsX7_paid ({ frames := 2, cells := 0, slots := 0, locals := 42 } : Room) (cP dC dI dA Fm α σ sz [fO α (some 200), .int a1]) (va_Ql Qm (cB dC dI dA Fm α (wl dA Fm α σ) sz) (va_A (wl dA Fm α σ) sz)) 0 0 (va_A (wl dA Fm α σ) sz) := by
  refine m_start (own := RX7) (lv := [(0, fO α (some 200)), (1, .int a1)]) (by decide) rfl rfl (by simp only [lgl_O, lgl_I, lgl_J, lgl_N]; decide) (by simp only [lva_O, lva_I, lva_J, lva_N]) ?_
  intro p e s m below meth c hsz hC hr hlk
  generalize hA : va_A (wl dA Fm α σ) sz = A at hC ⊢
  have hA := hA.symm
  generalize hargs : ([fO α (some 200), .int a1] : List Value).toArray = args at hC ⊢
  generalize hQ : MQ below _ args s 0 0 A = Q
  unfold wp_X7_paid at h
  refine r_aload_n hC dX7_paid_0 rfl 0 rfl ?_
  refine r_iload_n hC dX7_paid_1 rfl 1 rfl ?_
  refine r_calli hC [fO α (some 200)] (m_runS (n := 1) hC [.int a1] [fO α (some 200)] (fun sz => cm_X7_isOwner l dC dI dA α σ a1 _ h sz) gX7_paid_X7_isOwner rfl ⟨rfl, rfl⟩ (by decide +kernel) ⟨Nat.le_of_ble_eq_true rfl, Nat.le_of_ble_eq_true rfl⟩ rfl (Nat.le_of_ble_eq_true rfl) (by decide) dX7_paid_2) (fun x2 σ1 hn => ?_)
  clear h
  revert hn
  intro h
  refine r_iconst (v := 1) hC dX7_paid_5 (by decide) ?_
  refine r_iconst (v := 1) hC dX7_paid_6 (by decide) ?_
  refine r_calli hC [] (m_runV (n := 3) (ci := 7) hC [.int x2, .int 1, .int 1] [] (fun sz => cm_X7_goes l dC dI dA α σ1 x2 1 1 _ h sz) gX7_paid_X7_goes rfl ⟨rfl, rfl⟩ (by decide +kernel) ⟨Nat.le_of_ble_eq_true rfl, Nat.le_of_ble_eq_true rfl⟩ fx_200 (ct_7 rfl) rfl rfl (Nat.le_of_ble_eq_true rfl) (by decide) dX7_paid_7) (fun x4 σ3 hn => ?_)
  clear h
  revert hn
  intro h
  refine r_if_ne (tgt := 15) hC dX7_paid_10 (by decide) (fun q => ?_) (fun q => ?_)
  · replace h := h.1 q
    refine r_aload_n hC dX7_paid_15 rfl 0 rfl ?_
    refine r_get (ci := 7) (f := 30) (v := fO α (some 223)) hC kX7_paid_0 rfl (by decide) rfl kX7_paid_1 fx_200 (ct_7 rfl) rfl dX7_paid_16 ?_
    refine r_iload_n hC dX7_paid_19 rfl 1 rfl ?_
    obtain ⟨c5, h⟩ := h
    refine r_lald hC fx_223 rfl c5 dX7_paid_20 ?_
    subst hQ
    exact r_lret hC hA hr hlk dX7_paid_21 h
  · replace h := h.2 q
    refine r_lconst (v := 0) hC dX7_paid_13 (by decide) ?_
    subst hQ
    exact r_lret hC hA hr hlk dX7_paid_14 h
