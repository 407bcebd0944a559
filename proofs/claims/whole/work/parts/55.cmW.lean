theorem kL_pass_0 : (Cond.classLink RL 13 "java/lang/IllegalArgumentException") ∈ wsL_pass := by decide +kernel
theorem kL_pass_1 : (Cond.classLink RL 15 "java/lang/IllegalStateException") ∈ wsL_pass := by decide +kernel
set_option maxHeartbeats 4000000 in
set_option maxRecDepth 100000 in
theorem cm_L_pass (l : Launch) (hlf : l.stackTraces = false) (dC : Nat → ClassId) (dI : Nat → Nat → Nat) (dA : Nat → ClassId) (L : List Nat) (α : Nat → Nat) (σ : Mm) (a1 : Int32) (Qm : Int32 → Mm → List Nat → Prop) (h : wp_L_pass L σ a1 Qm) (sz : Nat) : vx_Met l yL_pass wsL_pass ({ frames := 7, cells := 16, slots := 2000, locals := 111 } : Room) (xP dC dI dA L α σ sz [fO α (some 0), .int a1, fO α (some 17)]) (va_Qi (fun r u => Qm r u.1 u.2) (cX dC dI dA L α (wl dA (Fc ++ L) α σ) sz) (va_A (wl dA (Fc ++ L) α σ) sz)) (xXC dC dI dA L α (wl dA (Fc ++ L) α σ) sz (fun _ _ _ => False)) 16 2000 (va_A (wl dA (Fc ++ L) α σ) sz) := by
  refine m_wstart (own := RL) (lv := [(0, fO α (some 0)), (1, .int a1), (2, fO α (some 17))]) (by decide) rfl rfl (by simp only [lgl_O, lgl_I, lgl_J, lgl_N]; decide) (by simp only [lva_O, lva_I, lva_J, lva_N]) ?_
  intro p e s m below meth c hsz hC hr hlk htab hX
  generalize hA : va_A (wl dA (Fc ++ L) α σ) sz = A at hC hX ⊢
  have hA := hA.symm
  generalize hargs : ([fO α (some 0), .int a1, fO α (some 17)] : List Value).toArray = args at hC ⊢
  generalize hQ : vx_MQ below _ _ args s 16 2000 A = Q
  unfold wp_L_pass at h
  refine r_aload_n hC dL_pass_0 rfl 2 rfl ?_
  refine r_iconst (v := 0) hC dL_pass_1 (by decide) ?_
  refine r_aload_n hC dL_pass_2 rfl 0 rfl ?_
  refine r_iload_n hC dL_pass_3 rfl 1 rfl ?_
  refine r_xcalli hC [.int 0, fO α (some 17)] (m_xrunV (R := ({ frames := 7, cells := 16, slots := 2000, locals := 111 } : Room)) (cells := 0) (slots := 0) (n := 1) (ci := 6) hC hX [.int a1] [.int 0, fO α (some 17)] (fun sz => cm_X6_pass l hlf dC dI dA L α σ a1 _ _ h sz) gL_pass_X6_pass rfl ⟨rfl, rfl⟩ (by decide +kernel) ⟨Nat.le_of_ble_eq_true rfl, Nat.le_of_ble_eq_true rfl⟩ fx_0 (ct_6 rfl) rfl rfl (Nat.le_of_ble_eq_true rfl) (by decide) dL_pass_4) (fun x1 σ2 L3 α4 hα4 hn => ?_) (fun en σ5 L6 α7 hα7 hn => ?_)
  rotate_left
  · clear h
    rcases hn with ⟨rfl, hn⟩ | ⟨rfl, hn⟩
    · rw [fO_al hα7 (k := 0) fx_0, fO_al hα7 (k := 17) fx_17]
      refine r_catch (en := 2) hC hX ([] : List ExceptionTableEntry) (⟨0, 9, 12, 13⟩ : ExceptionTableEntry) [⟨0, 9, 15, 15⟩] (by rw [htab]; rfl) (fun z hz => nomatch hz) (by decide) (by decide) kL_pass_0 (by decide +kernel) (fun q9 => ?_)
      refine r_astoreQ_n (lv' := [(3, .ref q9), (0, fO α7 (some 0)), (1, .int a1), (2, fO α7 (some 17))]) hC dL_pass_12 rfl (by decide) rfl ?_
      refine r_iconst (v := 1) hC dL_pass_13 (by decide) ?_
      subst hQ
      exact r_xiret hC hA hr hlk hα7 (by decide) dL_pass_14 hn
    · rw [fO_al hα7 (k := 0) fx_0, fO_al hα7 (k := 17) fx_17]
      refine r_catch (en := 3) hC hX ([⟨0, 9, 12, 13⟩] : List ExceptionTableEntry) (⟨0, 9, 15, 15⟩ : ExceptionTableEntry) [] (by rw [htab]; rfl) (fun z hz => by rcases List.mem_singleton.mp hz with rfl; exact ⟨"java/lang/IllegalArgumentException", by decide, kL_pass_0, by decide +kernel⟩) (by decide) (by decide) kL_pass_1 (by decide +kernel) (fun q9 => ?_)
      refine r_astoreQ_n (lv' := [(3, .ref q9), (0, fO α7 (some 0)), (1, .int a1), (2, fO α7 (some 17))]) hC dL_pass_15 rfl (by decide) rfl ?_
      refine r_iconst (v := 2) hC dL_pass_16 (by decide) ?_
      subst hQ
      exact r_xiret hC hA hr hlk hα7 (by decide) dL_pass_17 hn
  clear h
  revert hn
  intro h
  rw [fO_al hα4 (k := 0) fx_0, fO_al hα4 (k := 17) fx_17]
  refine r_i2l hC dL_pass_7 ?_
  obtain ⟨c8, h⟩ := h
  refine r_last hC fx_17 rfl c8 dL_pass_8 ?_
  refine r_topm (fun σ9 qσ9 => ?_)
  replace h := h σ9 qσ9
  refine r_goto (tgt := 18) hC dL_pass_9 (by decide) ?_
  refine r_iconst (v := 0) hC dL_pass_18 (by decide) ?_
  subst hQ
  exact r_xiret hC hA hr hlk hα4 (by decide) dL_pass_19 h
theorem kL_tract_0 : (Cond.classLink RL 21 "java/lang/IndexOutOfBoundsException") ∈ wsL_tract := by decide +kernel
theorem kL_tract_1 : (Cond.classLink RL 13 "java/lang/IllegalArgumentException") ∈ wsL_tract := by decide +kernel
theorem kL_tract_2 : (Cond.classLink RL 15 "java/lang/IllegalStateException") ∈ wsL_tract := by decide +kernel
set_option maxHeartbeats 4000000 in
set_option maxRecDepth 100000 in
theorem cm_L_tract (l : Launch) (hlf : l.stackTraces = false) (dC : Nat → ClassId) (dI : Nat → Nat → Nat) (dA : Nat → ClassId) (L : List Nat) (α : Nat → Nat) (σ : Mm) (a1 : Int32) (a2 : Int32) (Qm : Int32 → Mm → List Nat → Prop) (h : wp_L_tract L σ a1 a2 Qm) (sz : Nat) : vx_Met l yL_tract wsL_tract ({ frames := 7, cells := 16, slots := 2000, locals := 112 } : Room) (xP dC dI dA L α σ sz [fO α (some 0), .int a1, .int a2, fO α (some 17)]) (va_Qi (fun r u => Qm r u.1 u.2) (cX dC dI dA L α (wl dA (Fc ++ L) α σ) sz) (va_A (wl dA (Fc ++ L) α σ) sz)) (xXC dC dI dA L α (wl dA (Fc ++ L) α σ) sz (fun _ _ _ => False)) 16 2000 (va_A (wl dA (Fc ++ L) α σ) sz) := by
  refine m_wstart (own := RL) (lv := [(0, fO α (some 0)), (1, .int a1), (2, .int a2), (3, fO α (some 17))]) (by decide) rfl rfl (by simp only [lgl_O, lgl_I, lgl_J, lgl_N]; decide) (by simp only [lva_O, lva_I, lva_J, lva_N]) ?_
  intro p e s m below meth c hsz hC hr hlk htab hX
  generalize hA : va_A (wl dA (Fc ++ L) α σ) sz = A at hC hX ⊢
  have hA := hA.symm
  generalize hargs : ([fO α (some 0), .int a1, .int a2, fO α (some 17)] : List Value).toArray = args at hC ⊢
  generalize hQ : vx_MQ below _ _ args s 16 2000 A = Q
  unfold wp_L_tract at h
  refine r_aload_n hC dL_tract_0 rfl 3 rfl ?_
  refine r_iconst (v := 0) hC dL_tract_1 (by decide) ?_
  refine r_aload_n hC dL_tract_2 rfl 0 rfl ?_
  refine r_iload_n hC dL_tract_3 rfl 1 rfl ?_
  refine r_iload_n hC dL_tract_4 rfl 2 rfl ?_
  refine r_xcalli hC [.int 0, fO α (some 17)] (m_xrunV (R := ({ frames := 7, cells := 16, slots := 2000, locals := 112 } : Room)) (cells := 0) (slots := 0) (n := 2) (ci := 6) hC hX [.int a1, .int a2] [.int 0, fO α (some 17)] (fun sz => cm_X6_tract l hlf dC dI dA L α σ a1 a2 _ _ h sz) gL_tract_X6_tract rfl ⟨rfl, rfl⟩ (by decide +kernel) ⟨Nat.le_of_ble_eq_true rfl, Nat.le_of_ble_eq_true rfl⟩ fx_0 (ct_6 rfl) rfl rfl (Nat.le_of_ble_eq_true rfl) (by decide) dL_tract_5) (fun x1 σ2 L3 α4 hα4 hn => ?_) (fun en σ5 L6 α7 hα7 hn => ?_)
  rotate_left
  · clear h
    rcases hn with ⟨rfl, hn⟩ | ⟨rfl, hn⟩ | ⟨rfl, hn⟩
    · rw [fO_al hα7 (k := 0) fx_0, fO_al hα7 (k := 17) fx_17]
      refine r_catch (en := 1) hC hX ([] : List ExceptionTableEntry) (⟨0, 10, 13, 21⟩ : ExceptionTableEntry) [⟨0, 10, 17, 13⟩, ⟨0, 10, 21, 15⟩] (by rw [htab]; rfl) (fun z hz => nomatch hz) (by decide) (by decide) kL_tract_0 (by decide +kernel) (fun q9 => ?_)
      refine r_astoreQ (lv' := [(4, .ref q9), (0, fO α7 (some 0)), (1, .int a1), (2, .int a2), (3, fO α7 (some 17))]) hC dL_tract_13 (by decide) rfl ?_
      refine r_iconst (v := 1) hC dL_tract_15 (by decide) ?_
      subst hQ
      exact r_xiret hC hA hr hlk hα7 (by decide) dL_tract_16 hn
    · rw [fO_al hα7 (k := 0) fx_0, fO_al hα7 (k := 17) fx_17]
      refine r_catch (en := 2) hC hX ([⟨0, 10, 13, 21⟩] : List ExceptionTableEntry) (⟨0, 10, 17, 13⟩ : ExceptionTableEntry) [⟨0, 10, 21, 15⟩] (by rw [htab]; rfl) (fun z hz => by rcases List.mem_singleton.mp hz with rfl; exact ⟨"java/lang/IndexOutOfBoundsException", by decide, kL_tract_0, by decide +kernel⟩) (by decide) (by decide) kL_tract_1 (by decide +kernel) (fun q9 => ?_)
      refine r_astoreQ (lv' := [(4, .ref q9), (0, fO α7 (some 0)), (1, .int a1), (2, .int a2), (3, fO α7 (some 17))]) hC dL_tract_17 (by decide) rfl ?_
      refine r_iconst (v := 2) hC dL_tract_19 (by decide) ?_
      subst hQ
      exact r_xiret hC hA hr hlk hα7 (by decide) dL_tract_20 hn
    · rw [fO_al hα7 (k := 0) fx_0, fO_al hα7 (k := 17) fx_17]
      refine r_catch (en := 3) hC hX ([⟨0, 10, 13, 21⟩, ⟨0, 10, 17, 13⟩] : List ExceptionTableEntry) (⟨0, 10, 21, 15⟩ : ExceptionTableEntry) [] (by rw [htab]; rfl) (fun z hz => by rcases List.mem_cons.mp hz with rfl | hz; exact ⟨"java/lang/IndexOutOfBoundsException", by decide, kL_tract_0, by decide +kernel⟩; rcases List.mem_singleton.mp hz with rfl; exact ⟨"java/lang/IllegalArgumentException", by decide, kL_tract_1, by decide +kernel⟩) (by decide) (by decide) kL_tract_2 (by decide +kernel) (fun q9 => ?_)
      refine r_astoreQ (lv' := [(4, .ref q9), (0, fO α7 (some 0)), (1, .int a1), (2, .int a2), (3, fO α7 (some 17))]) hC dL_tract_21 (by decide) rfl ?_
      refine r_iconst (v := 3) hC dL_tract_23 (by decide) ?_
      subst hQ
      exact r_xiret hC hA hr hlk hα7 (by decide) dL_tract_24 hn
  clear h
  revert hn
  intro h
  rw [fO_al hα4 (k := 0) fx_0, fO_al hα4 (k := 17) fx_17]
  refine r_i2l hC dL_tract_8 ?_
  obtain ⟨c8, h⟩ := h
  refine r_last hC fx_17 rfl c8 dL_tract_9 ?_
  refine r_topm (fun σ9 qσ9 => ?_)
  replace h := h σ9 qσ9
  refine r_goto (tgt := 25) hC dL_tract_10 (by decide) ?_
  refine r_iconst (v := 0) hC dL_tract_25 (by decide) ?_
  subst hQ
  exact r_xiret hC hA hr hlk hα4 (by decide) dL_tract_26 h
theorem kL_deed_0 : (Cond.classLink RL 21 "java/lang/IndexOutOfBoundsException") ∈ wsL_deed := by decide +kernel
theorem kL_deed_1 : (Cond.classLink RL 13 "java/lang/IllegalArgumentException") ∈ wsL_deed := by decide +kernel
theorem kL_deed_2 : (Cond.classLink RL 15 "java/lang/IllegalStateException") ∈ wsL_deed := by decide +kernel
set_option maxHeartbeats 4000000 in
set_option maxRecDepth 100000 in
theorem cm_L_deed (l : Launch) (hlf : l.stackTraces = false) (dC : Nat → ClassId) (dI : Nat → Nat → Nat) (dA : Nat → ClassId) (L : List Nat) (α : Nat → Nat) (σ : Mm) (a1 : Int32) (a2 : Int32) (a3 : Int32) (a4 : Int32) (a5 : Int32) (Qm : Int32 → Mm → List Nat → Prop) (h : wp_L_deed L σ a1 a2 a3 a4 a5 Qm) (sz : Nat) : vx_Met l yL_deed wsL_deed ({ frames := 7, cells := 16, slots := 2000, locals := 116 } : Room) (xP dC dI dA L α σ sz [fO α (some 0), .int a1, .int a2, .int a3, .int a4, .int a5, fO α (some 17)]) (va_Qi (fun r u => Qm r u.1 u.2) (cX dC dI dA L α (wl dA (Fc ++ L) α σ) sz) (va_A (wl dA (Fc ++ L) α σ) sz)) (xXC dC dI dA L α (wl dA (Fc ++ L) α σ) sz (fun _ _ _ => False)) 16 2000 (va_A (wl dA (Fc ++ L) α σ) sz) := by
  refine m_wstart (own := RL) (lv := [(0, fO α (some 0)), (1, .int a1), (2, .int a2), (3, .int a3), (4, .int a4), (5, .int a5), (6, fO α (some 17))]) (by decide) rfl rfl (by simp only [lgl_O, lgl_I, lgl_J, lgl_N]; decide) (by simp only [lva_O, lva_I, lva_J, lva_N]) ?_
  intro p e s m below meth c hsz hC hr hlk htab hX
  generalize hA : va_A (wl dA (Fc ++ L) α σ) sz = A at hC hX ⊢
  have hA := hA.symm
  generalize hargs : ([fO α (some 0), .int a1, .int a2, .int a3, .int a4, .int a5, fO α (some 17)] : List Value).toArray = args at hC ⊢
  generalize hQ : vx_MQ below _ _ args s 16 2000 A = Q
  unfold wp_L_deed at h
  refine r_aload hC dL_deed_0 6 rfl ?_
  refine r_iconst (v := 0) hC dL_deed_2 (by decide) ?_
  refine r_aload_n hC dL_deed_3 rfl 0 rfl ?_
  refine r_iload_n hC dL_deed_4 rfl 1 rfl ?_
  refine r_iload_n hC dL_deed_5 rfl 2 rfl ?_
  refine r_iload_n hC dL_deed_6 rfl 3 rfl ?_
  refine r_iload hC dL_deed_7 4 rfl ?_
  refine r_iload hC dL_deed_9 5 rfl ?_
  refine r_xcalli hC [.int 0, fO α (some 17)] (m_xrunV (R := ({ frames := 7, cells := 16, slots := 2000, locals := 116 } : Room)) (cells := 0) (slots := 0) (n := 5) (ci := 6) hC hX [.int a1, .int a2, .int a3, .int a4, .int a5] [.int 0, fO α (some 17)] (fun sz => cm_X6_deed l hlf dC dI dA L α σ a1 a2 a3 a4 a5 _ _ h sz) gL_deed_X6_deed rfl ⟨rfl, rfl⟩ (by decide +kernel) ⟨Nat.le_of_ble_eq_true rfl, Nat.le_of_ble_eq_true rfl⟩ fx_0 (ct_6 rfl) rfl rfl (Nat.le_of_ble_eq_true rfl) (by decide) dL_deed_11) (fun x1 σ2 L3 α4 hα4 hn => ?_) (fun en σ5 L6 α7 hα7 hn => ?_)
  rotate_left
  · clear h
    rcases hn with ⟨rfl, hn⟩ | ⟨rfl, hn⟩ | ⟨rfl, hn⟩
    · rw [fO_al hα7 (k := 0) fx_0, fO_al hα7 (k := 17) fx_17]
      refine r_catch (en := 1) hC hX ([] : List ExceptionTableEntry) (⟨0, 16, 19, 21⟩ : ExceptionTableEntry) [⟨0, 16, 23, 13⟩, ⟨0, 16, 27, 15⟩] (by rw [htab]; rfl) (fun z hz => nomatch hz) (by decide) (by decide) kL_deed_0 (by decide +kernel) (fun q9 => ?_)
      refine r_astoreQ (lv' := [(7, .ref q9), (0, fO α7 (some 0)), (1, .int a1), (2, .int a2), (3, .int a3), (4, .int a4), (5, .int a5), (6, fO α7 (some 17))]) hC dL_deed_19 (by decide) rfl ?_
      refine r_iconst (v := 1) hC dL_deed_21 (by decide) ?_
      subst hQ
      exact r_xiret hC hA hr hlk hα7 (by decide) dL_deed_22 hn
    · rw [fO_al hα7 (k := 0) fx_0, fO_al hα7 (k := 17) fx_17]
      refine r_catch (en := 2) hC hX ([⟨0, 16, 19, 21⟩] : List ExceptionTableEntry) (⟨0, 16, 23, 13⟩ : ExceptionTableEntry) [⟨0, 16, 27, 15⟩] (by rw [htab]; rfl) (fun z hz => by rcases List.mem_singleton.mp hz with rfl; exact ⟨"java/lang/IndexOutOfBoundsException", by decide, kL_deed_0, by decide +kernel⟩) (by decide) (by decide) kL_deed_1 (by decide +kernel) (fun q9 => ?_)
      refine r_astoreQ (lv' := [(7, .ref q9), (0, fO α7 (some 0)), (1, .int a1), (2, .int a2), (3, .int a3), (4, .int a4), (5, .int a5), (6, fO α7 (some 17))]) hC dL_deed_23 (by decide) rfl ?_
      refine r_iconst (v := 2) hC dL_deed_25 (by decide) ?_
      subst hQ
      exact r_xiret hC hA hr hlk hα7 (by decide) dL_deed_26 hn
    · rw [fO_al hα7 (k := 0) fx_0, fO_al hα7 (k := 17) fx_17]
      refine r_catch (en := 3) hC hX ([⟨0, 16, 19, 21⟩, ⟨0, 16, 23, 13⟩] : List ExceptionTableEntry) (⟨0, 16, 27, 15⟩ : ExceptionTableEntry) [] (by rw [htab]; rfl) (fun z hz => by rcases List.mem_cons.mp hz with rfl | hz; exact ⟨"java/lang/IndexOutOfBoundsException", by decide, kL_deed_0, by decide +kernel⟩; rcases List.mem_singleton.mp hz with rfl; exact ⟨"java/lang/IllegalArgumentException", by decide, kL_deed_1, by decide +kernel⟩) (by decide) (by decide) kL_deed_2 (by decide +kernel) (fun q9 => ?_)
      refine r_astoreQ (lv' := [(7, .ref q9), (0, fO α7 (some 0)), (1, .int a1), (2, .int a2), (3, .int a3), (4, .int a4), (5, .int a5), (6, fO α7 (some 17))]) hC dL_deed_27 (by decide) rfl ?_
      refine r_iconst (v := 3) hC dL_deed_29 (by decide) ?_
      subst hQ
      exact r_xiret hC hA hr hlk hα7 (by decide) dL_deed_30 hn
  clear h
  revert hn
  intro h
  rw [fO_al hα4 (k := 0) fx_0, fO_al hα4 (k := 17) fx_17]
  refine r_i2l hC dL_deed_14 ?_
  obtain ⟨c8, h⟩ := h
  refine r_last hC fx_17 rfl c8 dL_deed_15 ?_
  refine r_topm (fun σ9 qσ9 => ?_)
  replace h := h σ9 qσ9
  refine r_goto (tgt := 31) hC dL_deed_16 (by decide) ?_
  refine r_iconst (v := 0) hC dL_deed_31 (by decide) ?_
  subst hQ
  exact r_xiret hC hA hr hlk hα4 (by decide) dL_deed_32 h
theorem kL_title_0 : (Cond.classLink RL 21 "java/lang/IndexOutOfBoundsException") ∈ wsL_title := by decide +kernel
set_option maxHeartbeats 4000000 in
set_option maxRecDepth 100000 in
theorem cm_L_title (l : Launch) (hlf : l.stackTraces = false) (dC : Nat → ClassId) (dI : Nat → Nat → Nat) (dA : Nat → ClassId) (L : List Nat) (α : Nat → Nat) (σ : Mm) (a1 : Int32) (a2 : Int32) (a3 : Int32) (Qm : Int32 → Mm → List Nat → Prop) (h : wp_L_title L σ a1 a2 a3 Qm) (sz : Nat) : vx_Met l yL_title wsL_title ({ frames := 7, cells := 16, slots := 2000, locals := 114 } : Room) (xP dC dI dA L α σ sz [fO α (some 0), .int a1, .int a2, .int a3, fO α (some 17)]) (va_Qi (fun r u => Qm r u.1 u.2) (cX dC dI dA L α (wl dA (Fc ++ L) α σ) sz) (va_A (wl dA (Fc ++ L) α σ) sz)) (xXC dC dI dA L α (wl dA (Fc ++ L) α σ) sz (fun _ _ _ => False)) 16 2000 (va_A (wl dA (Fc ++ L) α σ) sz) := by
  refine m_wstart (own := RL) (lv := [(0, fO α (some 0)), (1, .int a1), (2, .int a2), (3, .int a3), (4, fO α (some 17))]) (by decide) rfl rfl (by simp only [lgl_O, lgl_I, lgl_J, lgl_N]; decide) (by simp only [lva_O, lva_I, lva_J, lva_N]) ?_
  intro p e s m below meth c hsz hC hr hlk htab hX
  generalize hA : va_A (wl dA (Fc ++ L) α σ) sz = A at hC hX ⊢
  have hA := hA.symm
  generalize hargs : ([fO α (some 0), .int a1, .int a2, .int a3, fO α (some 17)] : List Value).toArray = args at hC ⊢
  generalize hQ : vx_MQ below _ _ args s 16 2000 A = Q
  unfold wp_L_title at h
  refine r_aload hC dL_title_0 4 rfl ?_
  refine r_iconst (v := 0) hC dL_title_2 (by decide) ?_
  refine r_aload_n hC dL_title_3 rfl 0 rfl ?_
  refine r_iload_n hC dL_title_4 rfl 1 rfl ?_
  refine r_iload_n hC dL_title_5 rfl 2 rfl ?_
  refine r_iload_n hC dL_title_6 rfl 3 rfl ?_
  refine r_xcalli hC [.int 0, fO α (some 17)] (m_xrunV (R := ({ frames := 7, cells := 16, slots := 2000, locals := 114 } : Room)) (cells := 0) (slots := 0) (n := 3) (ci := 6) hC hX [.int a1, .int a2, .int a3] [.int 0, fO α (some 17)] (fun sz => cm_X6_title l hlf dC dI dA L α σ a1 a2 a3 _ _ h sz) gL_title_X6_title rfl ⟨rfl, rfl⟩ (by decide +kernel) ⟨Nat.le_of_ble_eq_true rfl, Nat.le_of_ble_eq_true rfl⟩ fx_0 (ct_6 rfl) rfl rfl (Nat.le_of_ble_eq_true rfl) (by decide) dL_title_7) (fun x1 σ2 L3 α4 hα4 hn => ?_) (fun en σ5 L6 α7 hα7 hn => ?_)
  rotate_left
  · clear h
    rcases hn with ⟨rfl, hn⟩
    · rw [fO_al hα7 (k := 0) fx_0, fO_al hα7 (k := 17) fx_17]
      refine r_catch (en := 1) hC hX ([] : List ExceptionTableEntry) (⟨0, 12, 15, 21⟩ : ExceptionTableEntry) [] (by rw [htab]; rfl) (fun z hz => nomatch hz) (by decide) (by decide) kL_title_0 (by decide +kernel) (fun q9 => ?_)
      refine r_astoreQ (lv' := [(5, .ref q9), (0, fO α7 (some 0)), (1, .int a1), (2, .int a2), (3, .int a3), (4, fO α7 (some 17))]) hC dL_title_15 (by decide) rfl ?_
      refine r_iconst (v := 1) hC dL_title_17 (by decide) ?_
      subst hQ
      exact r_xiret hC hA hr hlk hα7 (by decide) dL_title_18 hn
  clear h
  revert hn
  intro h
  rw [fO_al hα4 (k := 0) fx_0, fO_al hα4 (k := 17) fx_17]
  refine r_i2l hC dL_title_10 ?_
  obtain ⟨c8, h⟩ := h
  refine r_last hC fx_17 rfl c8 dL_title_11 ?_
  refine r_topm (fun σ9 qσ9 => ?_)
  replace h := h σ9 qσ9
  refine r_goto (tgt := 19) hC dL_title_12 (by decide) ?_
  refine r_iconst (v := 0) hC dL_title_19 (by decide) ?_
  subst hQ
  exact r_xiret hC hA hr hlk hα4 (by decide) dL_title_20 h
theorem kL_lease_0 : (Cond.classLink RL 21 "java/lang/IndexOutOfBoundsException") ∈ wsL_lease := by decide +kernel
theorem kL_lease_1 : (Cond.classLink RL 13 "java/lang/IllegalArgumentException") ∈ wsL_lease := by decide +kernel
theorem kL_lease_2 : (Cond.classLink RL 15 "java/lang/IllegalStateException") ∈ wsL_lease := by decide +kernel
set_option maxHeartbeats 4000000 in
set_option maxRecDepth 100000 in
theorem cm_L_lease (l : Launch) (hlf : l.stackTraces = false) (dC : Nat → ClassId) (dI : Nat → Nat → Nat) (dA : Nat → ClassId) (L : List Nat) (α : Nat → Nat) (σ : Mm) (a1 : Int32) (a2 : Int32) (a3 : Int32) (a4 : Int32) (a5 : Int32) (Qm : Int32 → Mm → List Nat → Prop) (h : wp_L_lease L σ a1 a2 a3 a4 a5 Qm) (sz : Nat) : vx_Met l yL_lease wsL_lease ({ frames := 7, cells := 16, slots := 2000, locals := 117 } : Room) (xP dC dI dA L α σ sz [fO α (some 0), .int a1, .int a2, .int a3, .int a4, .int a5, fO α (some 17)]) (va_Qi (fun r u => Qm r u.1 u.2) (cX dC dI dA L α (wl dA (Fc ++ L) α σ) sz) (va_A (wl dA (Fc ++ L) α σ) sz)) (xXC dC dI dA L α (wl dA (Fc ++ L) α σ) sz (fun _ _ _ => False)) 16 2000 (va_A (wl dA (Fc ++ L) α σ) sz) := by
  refine m_wstart (own := RL) (lv := [(0, fO α (some 0)), (1, .int a1), (2, .int a2), (3, .int a3), (4, .int a4), (5, .int a5), (6, fO α (some 17))]) (by decide) rfl rfl (by simp only [lgl_O, lgl_I, lgl_J, lgl_N]; decide) (by simp only [lva_O, lva_I, lva_J, lva_N]) ?_
  intro p e s m below meth c hsz hC hr hlk htab hX
  generalize hA : va_A (wl dA (Fc ++ L) α σ) sz = A at hC hX ⊢
  have hA := hA.symm
  generalize hargs : ([fO α (some 0), .int a1, .int a2, .int a3, .int a4, .int a5, fO α (some 17)] : List Value).toArray = args at hC ⊢
  generalize hQ : vx_MQ below _ _ args s 16 2000 A = Q
  unfold wp_L_lease at h
  refine r_aload hC dL_lease_0 6 rfl ?_
  refine r_iconst (v := 0) hC dL_lease_2 (by decide) ?_
  refine r_aload_n hC dL_lease_3 rfl 0 rfl ?_
  refine r_iload_n hC dL_lease_4 rfl 1 rfl ?_
  refine r_iload_n hC dL_lease_5 rfl 2 rfl ?_
  refine r_iload_n hC dL_lease_6 rfl 3 rfl ?_
  refine r_iload hC dL_lease_7 4 rfl ?_
  refine r_iload hC dL_lease_9 5 rfl ?_
  refine r_xcalli hC [.int 0, fO α (some 17)] (m_xrunV (R := ({ frames := 7, cells := 16, slots := 2000, locals := 117 } : Room)) (cells := 0) (slots := 0) (n := 5) (ci := 6) hC hX [.int a1, .int a2, .int a3, .int a4, .int a5] [.int 0, fO α (some 17)] (fun sz => cm_X6_lease l hlf dC dI dA L α σ a1 a2 a3 a4 a5 _ _ h sz) gL_lease_X6_lease rfl ⟨rfl, rfl⟩ (by decide +kernel) ⟨Nat.le_of_ble_eq_true rfl, Nat.le_of_ble_eq_true rfl⟩ fx_0 (ct_6 rfl) rfl rfl (Nat.le_of_ble_eq_true rfl) (by decide) dL_lease_11) (fun x1 σ2 L3 α4 hα4 hn => ?_) (fun en σ5 L6 α7 hα7 hn => ?_)
  rotate_left
  · clear h
    rcases hn with ⟨rfl, hn⟩ | ⟨rfl, hn⟩ | ⟨rfl, hn⟩
    · rw [fO_al hα7 (k := 0) fx_0, fO_al hα7 (k := 17) fx_17]
      refine r_catch (en := 1) hC hX ([] : List ExceptionTableEntry) (⟨0, 16, 19, 21⟩ : ExceptionTableEntry) [⟨0, 16, 23, 13⟩, ⟨0, 16, 27, 15⟩] (by rw [htab]; rfl) (fun z hz => nomatch hz) (by decide) (by decide) kL_lease_0 (by decide +kernel) (fun q9 => ?_)
      refine r_astoreQ (lv' := [(7, .ref q9), (0, fO α7 (some 0)), (1, .int a1), (2, .int a2), (3, .int a3), (4, .int a4), (5, .int a5), (6, fO α7 (some 17))]) hC dL_lease_19 (by decide) rfl ?_
      refine r_iconst (v := 1) hC dL_lease_21 (by decide) ?_
      subst hQ
      exact r_xiret hC hA hr hlk hα7 (by decide) dL_lease_22 hn
    · rw [fO_al hα7 (k := 0) fx_0, fO_al hα7 (k := 17) fx_17]
      refine r_catch (en := 2) hC hX ([⟨0, 16, 19, 21⟩] : List ExceptionTableEntry) (⟨0, 16, 23, 13⟩ : ExceptionTableEntry) [⟨0, 16, 27, 15⟩] (by rw [htab]; rfl) (fun z hz => by rcases List.mem_singleton.mp hz with rfl; exact ⟨"java/lang/IndexOutOfBoundsException", by decide, kL_lease_0, by decide +kernel⟩) (by decide) (by decide) kL_lease_1 (by decide +kernel) (fun q9 => ?_)
      refine r_astoreQ (lv' := [(7, .ref q9), (0, fO α7 (some 0)), (1, .int a1), (2, .int a2), (3, .int a3), (4, .int a4), (5, .int a5), (6, fO α7 (some 17))]) hC dL_lease_23 (by decide) rfl ?_
      refine r_iconst (v := 2) hC dL_lease_25 (by decide) ?_
      subst hQ
      exact r_xiret hC hA hr hlk hα7 (by decide) dL_lease_26 hn
    · rw [fO_al hα7 (k := 0) fx_0, fO_al hα7 (k := 17) fx_17]
      refine r_catch (en := 3) hC hX ([⟨0, 16, 19, 21⟩, ⟨0, 16, 23, 13⟩] : List ExceptionTableEntry) (⟨0, 16, 27, 15⟩ : ExceptionTableEntry) [] (by rw [htab]; rfl) (fun z hz => by rcases List.mem_cons.mp hz with rfl | hz; exact ⟨"java/lang/IndexOutOfBoundsException", by decide, kL_lease_0, by decide +kernel⟩; rcases List.mem_singleton.mp hz with rfl; exact ⟨"java/lang/IllegalArgumentException", by decide, kL_lease_1, by decide +kernel⟩) (by decide) (by decide) kL_lease_2 (by decide +kernel) (fun q9 => ?_)
      refine r_astoreQ (lv' := [(7, .ref q9), (0, fO α7 (some 0)), (1, .int a1), (2, .int a2), (3, .int a3), (4, .int a4), (5, .int a5), (6, fO α7 (some 17))]) hC dL_lease_27 (by decide) rfl ?_
      refine r_iconst (v := 3) hC dL_lease_29 (by decide) ?_
      subst hQ
      exact r_xiret hC hA hr hlk hα7 (by decide) dL_lease_30 hn
  clear h
  revert hn
  intro h
  rw [fO_al hα4 (k := 0) fx_0, fO_al hα4 (k := 17) fx_17]
  refine r_i2l hC dL_lease_14 ?_
  obtain ⟨c8, h⟩ := h
  refine r_last hC fx_17 rfl c8 dL_lease_15 ?_
  refine r_topm (fun σ9 qσ9 => ?_)
  replace h := h σ9 qσ9
  refine r_goto (tgt := 31) hC dL_lease_16 (by decide) ?_
  refine r_iconst (v := 0) hC dL_lease_31 (by decide) ?_
  subst hQ
  exact r_xiret hC hA hr hlk hα4 (by decide) dL_lease_32 h
theorem kL_isHeld_0 : (Cond.classLink RL 21 "java/lang/IndexOutOfBoundsException") ∈ wsL_isHeld := by decide +kernel
set_option maxHeartbeats 4000000 in
set_option maxRecDepth 100000 in
theorem cm_L_isHeld (l : Launch) (hlf : l.stackTraces = false) (dC : Nat → ClassId) (dI : Nat → Nat → Nat) (dA : Nat → ClassId) (L : List Nat) (α : Nat → Nat) (σ : Mm) (a1 : Int32) (a2 : Int32) (Qm : Int32 → Mm → List Nat → Prop) (h : wp_L_isHeld L σ a1 a2 Qm) (sz : Nat) : vx_Met l yL_isHeld wsL_isHeld ({ frames := 7, cells := 16, slots := 2000, locals := 113 } : Room) (xP dC dI dA L α σ sz [fO α (some 0), .int a1, .int a2, fO α (some 17)]) (va_Qi (fun r u => Qm r u.1 u.2) (cX dC dI dA L α (wl dA (Fc ++ L) α σ) sz) (va_A (wl dA (Fc ++ L) α σ) sz)) (xXC dC dI dA L α (wl dA (Fc ++ L) α σ) sz (fun _ _ _ => False)) 16 2000 (va_A (wl dA (Fc ++ L) α σ) sz) := by
  refine m_wstart (own := RL) (lv := [(0, fO α (some 0)), (1, .int a1), (2, .int a2), (3, fO α (some 17))]) (by decide) rfl rfl (by simp only [lgl_O, lgl_I, lgl_J, lgl_N]; decide) (by simp only [lva_O, lva_I, lva_J, lva_N]) ?_
  intro p e s m below meth c hsz hC hr hlk htab hX
  generalize hA : va_A (wl dA (Fc ++ L) α σ) sz = A at hC hX ⊢
  have hA := hA.symm
  generalize hargs : ([fO α (some 0), .int a1, .int a2, fO α (some 17)] : List Value).toArray = args at hC ⊢
  generalize hQ : vx_MQ below _ _ args s 16 2000 A = Q
  unfold wp_L_isHeld at h
  refine r_aload_n hC dL_isHeld_0 rfl 3 rfl ?_
  refine r_iconst (v := 0) hC dL_isHeld_1 (by decide) ?_
  refine r_aload_n hC dL_isHeld_2 rfl 0 rfl ?_
  refine r_iload_n hC dL_isHeld_3 rfl 1 rfl ?_
  refine r_iload_n hC dL_isHeld_4 rfl 2 rfl ?_
  refine r_xcalli hC [.int 0, fO α (some 17)] (m_xrunV (R := ({ frames := 7, cells := 16, slots := 2000, locals := 113 } : Room)) (cells := 0) (slots := 0) (n := 2) (ci := 6) hC hX [.int a1, .int a2] [.int 0, fO α (some 17)] (fun sz => cm_X6_isHeld l hlf dC dI dA L α σ a1 a2 _ _ h sz) gL_isHeld_X6_isHeld rfl ⟨rfl, rfl⟩ (by decide +kernel) ⟨Nat.le_of_ble_eq_true rfl, Nat.le_of_ble_eq_true rfl⟩ fx_0 (ct_6 rfl) rfl rfl (Nat.le_of_ble_eq_true rfl) (by decide) dL_isHeld_5) (fun x1 σ2 L3 α4 hα4 hn => ?_) (fun en σ5 L6 α7 hα7 hn => ?_)
  rotate_left
  · clear h
    rcases hn with ⟨rfl, hn⟩
    · rw [fO_al hα7 (k := 0) fx_0, fO_al hα7 (k := 17) fx_17]
      refine r_catch (en := 1) hC hX ([] : List ExceptionTableEntry) (⟨0, 17, 20, 21⟩ : ExceptionTableEntry) [] (by rw [htab]; rfl) (fun z hz => nomatch hz) (by decide) (by decide) kL_isHeld_0 (by decide +kernel) (fun q9 => ?_)
      refine r_astoreQ (lv' := [(4, .ref q9), (0, fO α7 (some 0)), (1, .int a1), (2, .int a2), (3, fO α7 (some 17))]) hC dL_isHeld_20 (by decide) rfl ?_
      refine r_iconst (v := 1) hC dL_isHeld_22 (by decide) ?_
      subst hQ
      exact r_xiret hC hA hr hlk hα7 (by decide) dL_isHeld_23 hn
  clear h
  revert hn
  intro h
  rw [fO_al hα4 (k := 0) fx_0, fO_al hα4 (k := 17) fx_17]
  obtain ⟨J9, hJ9, h⟩ := h
  have KJ9 : ∀ (y8 : Int64), J9 y8 → G p l e ({ frames := 7, cells := 16, slots := 2000, locals := 113 } : Room) s m args below meth c (0 + 16) (0 + 2000) Q dC dI dA (Fc ++ L3) α4 A 5 σ2 16 [] [.long y8, .int 0, fO α4 (some 17)] := by
    clear h
    intro y8 h
    replace h := hJ9 y8 h
    obtain ⟨c10, h⟩ := h
    refine r_last hC fx_17 rfl c10 dL_isHeld_16 ?_
    refine r_topm (fun σ11 qσ11 => ?_)
    replace h := h σ11 qσ11
    refine r_goto (tgt := 24) hC dL_isHeld_17 (by decide) ?_
    refine r_iconst (v := 0) hC dL_isHeld_24 (by decide) ?_
    subst hQ
    exact r_xiret hC hA hr hlk hα4 (by decide) dL_isHeld_25 h
  refine r_if_eq (tgt := 15) hC dL_isHeld_8 (by decide) (fun q => ?_) (fun q => ?_)
  · replace h := h.1 q
    refine r_lconst (v := 0) hC dL_isHeld_15 (by decide) ?_
    refine r_lvs [] rfl ?_
    exact KJ9 0 h
  · replace h := h.2 q
    refine r_lconst (v := 1) hC dL_isHeld_11 (by decide) ?_
    refine r_goto (tgt := 16) hC dL_isHeld_12 (by decide) ?_
    refine r_lvs [] rfl ?_
    exact KJ9 1 h
theorem kL_unit_0 : (Cond.classLink RL 13 "java/lang/IllegalArgumentException") ∈ wsL_unit := by decide +kernel
theorem kL_unit_1 : (Cond.classLink RL 15 "java/lang/IllegalStateException") ∈ wsL_unit := by decide +kernel
set_option maxHeartbeats 4000000 in
set_option maxRecDepth 100000 in
theorem cm_L_unit (l : Launch) (hlf : l.stackTraces = false) (dC : Nat → ClassId) (dI : Nat → Nat → Nat) (dA : Nat → ClassId) (L : List Nat) (α : Nat → Nat) (σ : Mm) (a1 : Int32) (Qm : Int32 → Mm → List Nat → Prop) (h : wp_L_unit L σ a1 Qm) (sz : Nat) : vx_Met l yL_unit wsL_unit ({ frames := 7, cells := 16, slots := 2000, locals := 114 } : Room) (xP dC dI dA L α σ sz [fO α (some 0), .int a1, fO α (some 17)]) (va_Qi (fun r u => Qm r u.1 u.2) (cX dC dI dA L α (wl dA (Fc ++ L) α σ) sz) (va_A (wl dA (Fc ++ L) α σ) sz)) (xXC dC dI dA L α (wl dA (Fc ++ L) α σ) sz (fun _ _ _ => False)) 16 2000 (va_A (wl dA (Fc ++ L) α σ) sz) := by
  refine m_wstart (own := RL) (lv := [(0, fO α (some 0)), (1, .int a1), (2, fO α (some 17))]) (by decide) rfl rfl (by simp only [lgl_O, lgl_I, lgl_J, lgl_N]; decide) (by simp only [lva_O, lva_I, lva_J, lva_N]) ?_
  intro p e s m below meth c hsz hC hr hlk htab hX
  generalize hA : va_A (wl dA (Fc ++ L) α σ) sz = A at hC hX ⊢
  have hA := hA.symm
  generalize hargs : ([fO α (some 0), .int a1, fO α (some 17)] : List Value).toArray = args at hC ⊢
  generalize hQ : vx_MQ below _ _ args s 16 2000 A = Q
  unfold wp_L_unit at h
  refine r_aload_n hC dL_unit_0 rfl 2 rfl ?_
  refine r_iconst (v := 0) hC dL_unit_1 (by decide) ?_
  refine r_aload_n hC dL_unit_2 rfl 0 rfl ?_
  refine r_iload_n hC dL_unit_3 rfl 1 rfl ?_
  refine r_xcalli hC [.int 0, fO α (some 17)] (m_xrunV (R := ({ frames := 7, cells := 16, slots := 2000, locals := 114 } : Room)) (cells := 0) (slots := 0) (n := 1) (ci := 6) hC hX [.int a1] [.int 0, fO α (some 17)] (fun sz => cm_X6_unit l hlf dC dI dA L α σ a1 _ _ h sz) gL_unit_X6_unit rfl ⟨rfl, rfl⟩ (by decide +kernel) ⟨Nat.le_of_ble_eq_true rfl, Nat.le_of_ble_eq_true rfl⟩ fx_0 (ct_6 rfl) rfl rfl (Nat.le_of_ble_eq_true rfl) (by decide) dL_unit_4) (fun x1 σ2 L3 α4 hα4 hn => ?_) (fun en σ5 L6 α7 hα7 hn => ?_)
  rotate_left
  · clear h
    rcases hn with ⟨rfl, hn⟩ | ⟨rfl, hn⟩
    · rw [fO_al hα7 (k := 0) fx_0, fO_al hα7 (k := 17) fx_17]
      refine r_catch (en := 2) hC hX ([] : List ExceptionTableEntry) (⟨0, 9, 12, 13⟩ : ExceptionTableEntry) [⟨0, 9, 15, 15⟩] (by rw [htab]; rfl) (fun z hz => nomatch hz) (by decide) (by decide) kL_unit_0 (by decide +kernel) (fun q9 => ?_)
      refine r_astoreQ_n (lv' := [(3, .ref q9), (0, fO α7 (some 0)), (1, .int a1), (2, fO α7 (some 17))]) hC dL_unit_12 rfl (by decide) rfl ?_
      refine r_iconst (v := 1) hC dL_unit_13 (by decide) ?_
      subst hQ
      exact r_xiret hC hA hr hlk hα7 (by decide) dL_unit_14 hn
    · rw [fO_al hα7 (k := 0) fx_0, fO_al hα7 (k := 17) fx_17]
      refine r_catch (en := 3) hC hX ([⟨0, 9, 12, 13⟩] : List ExceptionTableEntry) (⟨0, 9, 15, 15⟩ : ExceptionTableEntry) [] (by rw [htab]; rfl) (fun z hz => by rcases List.mem_singleton.mp hz with rfl; exact ⟨"java/lang/IllegalArgumentException", by decide, kL_unit_0, by decide +kernel⟩) (by decide) (by decide) kL_unit_1 (by decide +kernel) (fun q9 => ?_)
      refine r_astoreQ_n (lv' := [(3, .ref q9), (0, fO α7 (some 0)), (1, .int a1), (2, fO α7 (some 17))]) hC dL_unit_15 rfl (by decide) rfl ?_
      refine r_iconst (v := 2) hC dL_unit_16 (by decide) ?_
      subst hQ
      exact r_xiret hC hA hr hlk hα7 (by decide) dL_unit_17 hn
  clear h
  revert hn
  intro h
  rw [fO_al hα4 (k := 0) fx_0, fO_al hα4 (k := 17) fx_17]
  refine r_i2l hC dL_unit_7 ?_
  obtain ⟨c8, h⟩ := h
  refine r_last hC fx_17 rfl c8 dL_unit_8 ?_
  refine r_topm (fun σ9 qσ9 => ?_)
  replace h := h σ9 qσ9
  refine r_goto (tgt := 18) hC dL_unit_9 (by decide) ?_
  refine r_iconst (v := 0) hC dL_unit_18 (by decide) ?_
  subst hQ
  exact r_xiret hC hA hr hlk hα4 (by decide) dL_unit_19 h
theorem kL_well_0 : (Cond.classLink RL 21 "java/lang/IndexOutOfBoundsException") ∈ wsL_well := by decide +kernel
theorem kL_well_1 : (Cond.classLink RL 15 "java/lang/IllegalStateException") ∈ wsL_well := by decide +kernel
set_option maxHeartbeats 4000000 in
set_option maxRecDepth 100000 in
theorem cm_L_well (l : Launch) (hlf : l.stackTraces = false) (dC : Nat → ClassId) (dI : Nat → Nat → Nat) (dA : Nat → ClassId) (L : List Nat) (α : Nat → Nat) (σ : Mm) (a1 : Int32) (Qm : Int32 → Mm → List Nat → Prop) (h : wp_L_well L σ a1 Qm) (sz : Nat) : vx_Met l yL_well wsL_well ({ frames := 7, cells := 16, slots := 2000, locals := 112 } : Room) (xP dC dI dA L α σ sz [fO α (some 0), .int a1, fO α (some 17)]) (va_Qi (fun r u => Qm r u.1 u.2) (cX dC dI dA L α (wl dA (Fc ++ L) α σ) sz) (va_A (wl dA (Fc ++ L) α σ) sz)) (xXC dC dI dA L α (wl dA (Fc ++ L) α σ) sz (fun _ _ _ => False)) 16 2000 (va_A (wl dA (Fc ++ L) α σ) sz) := by
  refine m_wstart (own := RL) (lv := [(0, fO α (some 0)), (1, .int a1), (2, fO α (some 17))]) (by decide) rfl rfl (by simp only [lgl_O, lgl_I, lgl_J, lgl_N]; decide) (by simp only [lva_O, lva_I, lva_J, lva_N]) ?_
  intro p e s m below meth c hsz hC hr hlk htab hX
  generalize hA : va_A (wl dA (Fc ++ L) α σ) sz = A at hC hX ⊢
  have hA := hA.symm
  generalize hargs : ([fO α (some 0), .int a1, fO α (some 17)] : List Value).toArray = args at hC ⊢
  generalize hQ : vx_MQ below _ _ args s 16 2000 A = Q
  unfold wp_L_well at h
  refine r_aload_n hC dL_well_0 rfl 2 rfl ?_
  refine r_iconst (v := 0) hC dL_well_1 (by decide) ?_
  refine r_aload_n hC dL_well_2 rfl 0 rfl ?_
  refine r_iload_n hC dL_well_3 rfl 1 rfl ?_
  refine r_xcalli hC [.int 0, fO α (some 17)] (m_xrunV (R := ({ frames := 7, cells := 16, slots := 2000, locals := 112 } : Room)) (cells := 0) (slots := 0) (n := 1) (ci := 6) hC hX [.int a1] [.int 0, fO α (some 17)] (fun sz => cm_X6_well l hlf dC dI dA L α σ a1 _ _ h sz) gL_well_X6_well rfl ⟨rfl, rfl⟩ (by decide +kernel) ⟨Nat.le_of_ble_eq_true rfl, Nat.le_of_ble_eq_true rfl⟩ fx_0 (ct_6 rfl) rfl rfl (Nat.le_of_ble_eq_true rfl) (by decide) dL_well_4) (fun x1 σ2 L3 α4 hα4 hn => ?_) (fun en σ5 L6 α7 hα7 hn => ?_)
  rotate_left
  · clear h
    rcases hn with ⟨rfl, hn⟩ | ⟨rfl, hn⟩
    · rw [fO_al hα7 (k := 0) fx_0, fO_al hα7 (k := 17) fx_17]
      refine r_catch (en := 1) hC hX ([] : List ExceptionTableEntry) (⟨0, 9, 12, 21⟩ : ExceptionTableEntry) [⟨0, 9, 15, 15⟩] (by rw [htab]; rfl) (fun z hz => nomatch hz) (by decide) (by decide) kL_well_0 (by decide +kernel) (fun q9 => ?_)
      refine r_astoreQ_n (lv' := [(3, .ref q9), (0, fO α7 (some 0)), (1, .int a1), (2, fO α7 (some 17))]) hC dL_well_12 rfl (by decide) rfl ?_
      refine r_iconst (v := 1) hC dL_well_13 (by decide) ?_
      subst hQ
      exact r_xiret hC hA hr hlk hα7 (by decide) dL_well_14 hn
    · rw [fO_al hα7 (k := 0) fx_0, fO_al hα7 (k := 17) fx_17]
      refine r_catch (en := 3) hC hX ([⟨0, 9, 12, 21⟩] : List ExceptionTableEntry) (⟨0, 9, 15, 15⟩ : ExceptionTableEntry) [] (by rw [htab]; rfl) (fun z hz => by rcases List.mem_singleton.mp hz with rfl; exact ⟨"java/lang/IndexOutOfBoundsException", by decide, kL_well_0, by decide +kernel⟩) (by decide) (by decide) kL_well_1 (by decide +kernel) (fun q9 => ?_)
      refine r_astoreQ_n (lv' := [(3, .ref q9), (0, fO α7 (some 0)), (1, .int a1), (2, fO α7 (some 17))]) hC dL_well_15 rfl (by decide) rfl ?_
      refine r_iconst (v := 2) hC dL_well_16 (by decide) ?_
      subst hQ
      exact r_xiret hC hA hr hlk hα7 (by decide) dL_well_17 hn
  clear h
  revert hn
  intro h
  rw [fO_al hα4 (k := 0) fx_0, fO_al hα4 (k := 17) fx_17]
  refine r_i2l hC dL_well_7 ?_
  obtain ⟨c8, h⟩ := h
  refine r_last hC fx_17 rfl c8 dL_well_8 ?_
  refine r_topm (fun σ9 qσ9 => ?_)
  replace h := h σ9 qσ9
  refine r_goto (tgt := 18) hC dL_well_9 (by decide) ?_
  refine r_iconst (v := 0) hC dL_well_18 (by decide) ?_
  subst hQ
  exact r_xiret hC hA hr hlk hα4 (by decide) dL_well_19 h
theorem kL_oil_0 : (Cond.classLink RL 21 "java/lang/IndexOutOfBoundsException") ∈ wsL_oil := by decide +kernel
theorem kL_oil_1 : (Cond.classLink RL 13 "java/lang/IllegalArgumentException") ∈ wsL_oil := by decide +kernel
theorem kL_oil_2 : (Cond.classLink RL 15 "java/lang/IllegalStateException") ∈ wsL_oil := by decide +kernel
set_option maxHeartbeats 4000000 in
set_option maxRecDepth 100000 in
theorem cm_L_oil (l : Launch) (hlf : l.stackTraces = false) (dC : Nat → ClassId) (dI : Nat → Nat → Nat) (dA : Nat → ClassId) (L : List Nat) (α : Nat → Nat) (σ : Mm) (a1 : Int32) (a2 : Int32) (a3 : Int32) (a4 : Int32) (Qm : Int32 → Mm → List Nat → Prop) (h : wp_L_oil L σ a1 a2 a3 a4 Qm) (sz : Nat) : vx_Met l yL_oil wsL_oil ({ frames := 7, cells := 16, slots := 2000, locals := 116 } : Room) (xP dC dI dA L α σ sz [fO α (some 0), .int a1, .int a2, .int a3, .int a4, fO α (some 17)]) (va_Qi (fun r u => Qm r u.1 u.2) (cX dC dI dA L α (wl dA (Fc ++ L) α σ) sz) (va_A (wl dA (Fc ++ L) α σ) sz)) (xXC dC dI dA L α (wl dA (Fc ++ L) α σ) sz (fun _ _ _ => False)) 16 2000 (va_A (wl dA (Fc ++ L) α σ) sz) := by
  refine m_wstart (own := RL) (lv := [(0, fO α (some 0)), (1, .int a1), (2, .int a2), (3, .int a3), (4, .int a4), (5, fO α (some 17))]) (by decide) rfl rfl (by simp only [lgl_O, lgl_I, lgl_J, lgl_N]; decide) (by simp only [lva_O, lva_I, lva_J, lva_N]) ?_
  intro p e s m below meth c hsz hC hr hlk htab hX
  generalize hA : va_A (wl dA (Fc ++ L) α σ) sz = A at hC hX ⊢
  have hA := hA.symm
  generalize hargs : ([fO α (some 0), .int a1, .int a2, .int a3, .int a4, fO α (some 17)] : List Value).toArray = args at hC ⊢
  generalize hQ : vx_MQ below _ _ args s 16 2000 A = Q
  unfold wp_L_oil at h
  refine r_aload hC dL_oil_0 5 rfl ?_
  refine r_iconst (v := 0) hC dL_oil_2 (by decide) ?_
  refine r_aload_n hC dL_oil_3 rfl 0 rfl ?_
  refine r_iload_n hC dL_oil_4 rfl 1 rfl ?_
  refine r_iload_n hC dL_oil_5 rfl 2 rfl ?_
  refine r_iload_n hC dL_oil_6 rfl 3 rfl ?_
  refine r_iload hC dL_oil_7 4 rfl ?_
  refine r_xcalli hC [.int 0, fO α (some 17)] (m_xrunV (R := ({ frames := 7, cells := 16, slots := 2000, locals := 116 } : Room)) (cells := 0) (slots := 0) (n := 4) (ci := 6) hC hX [.int a1, .int a2, .int a3, .int a4] [.int 0, fO α (some 17)] (fun sz => cm_X6_oil l hlf dC dI dA L α σ a1 a2 a3 a4 _ _ h sz) gL_oil_X6_oil rfl ⟨rfl, rfl⟩ (by decide +kernel) ⟨Nat.le_of_ble_eq_true rfl, Nat.le_of_ble_eq_true rfl⟩ fx_0 (ct_6 rfl) rfl rfl (Nat.le_of_ble_eq_true rfl) (by decide) dL_oil_9) (fun x1 σ2 L3 α4 hα4 hn => ?_) (fun en σ5 L6 α7 hα7 hn => ?_)
  rotate_left
  · clear h
    rcases hn with ⟨rfl, hn⟩ | ⟨rfl, hn⟩ | ⟨rfl, hn⟩
    · rw [fO_al hα7 (k := 0) fx_0, fO_al hα7 (k := 17) fx_17]
      refine r_catch (en := 1) hC hX ([] : List ExceptionTableEntry) (⟨0, 14, 17, 21⟩ : ExceptionTableEntry) [⟨0, 14, 21, 13⟩, ⟨0, 14, 25, 15⟩] (by rw [htab]; rfl) (fun z hz => nomatch hz) (by decide) (by decide) kL_oil_0 (by decide +kernel) (fun q9 => ?_)
      refine r_astoreQ (lv' := [(6, .ref q9), (0, fO α7 (some 0)), (1, .int a1), (2, .int a2), (3, .int a3), (4, .int a4), (5, fO α7 (some 17))]) hC dL_oil_17 (by decide) rfl ?_
      refine r_iconst (v := 1) hC dL_oil_19 (by decide) ?_
      subst hQ
      exact r_xiret hC hA hr hlk hα7 (by decide) dL_oil_20 hn
    · rw [fO_al hα7 (k := 0) fx_0, fO_al hα7 (k := 17) fx_17]
      refine r_catch (en := 2) hC hX ([⟨0, 14, 17, 21⟩] : List ExceptionTableEntry) (⟨0, 14, 21, 13⟩ : ExceptionTableEntry) [⟨0, 14, 25, 15⟩] (by rw [htab]; rfl) (fun z hz => by rcases List.mem_singleton.mp hz with rfl; exact ⟨"java/lang/IndexOutOfBoundsException", by decide, kL_oil_0, by decide +kernel⟩) (by decide) (by decide) kL_oil_1 (by decide +kernel) (fun q9 => ?_)
      refine r_astoreQ (lv' := [(6, .ref q9), (0, fO α7 (some 0)), (1, .int a1), (2, .int a2), (3, .int a3), (4, .int a4), (5, fO α7 (some 17))]) hC dL_oil_21 (by decide) rfl ?_
      refine r_iconst (v := 2) hC dL_oil_23 (by decide) ?_
      subst hQ
      exact r_xiret hC hA hr hlk hα7 (by decide) dL_oil_24 hn
    · rw [fO_al hα7 (k := 0) fx_0, fO_al hα7 (k := 17) fx_17]
      refine r_catch (en := 3) hC hX ([⟨0, 14, 17, 21⟩, ⟨0, 14, 21, 13⟩] : List ExceptionTableEntry) (⟨0, 14, 25, 15⟩ : ExceptionTableEntry) [] (by rw [htab]; rfl) (fun z hz => by rcases List.mem_cons.mp hz with rfl | hz; exact ⟨"java/lang/IndexOutOfBoundsException", by decide, kL_oil_0, by decide +kernel⟩; rcases List.mem_singleton.mp hz with rfl; exact ⟨"java/lang/IllegalArgumentException", by decide, kL_oil_1, by decide +kernel⟩) (by decide) (by decide) kL_oil_2 (by decide +kernel) (fun q9 => ?_)
      refine r_astoreQ (lv' := [(6, .ref q9), (0, fO α7 (some 0)), (1, .int a1), (2, .int a2), (3, .int a3), (4, .int a4), (5, fO α7 (some 17))]) hC dL_oil_25 (by decide) rfl ?_
      refine r_iconst (v := 3) hC dL_oil_27 (by decide) ?_
      subst hQ
      exact r_xiret hC hA hr hlk hα7 (by decide) dL_oil_28 hn
  clear h
  revert hn
  intro h
  rw [fO_al hα4 (k := 0) fx_0, fO_al hα4 (k := 17) fx_17]
  refine r_i2l hC dL_oil_12 ?_
  obtain ⟨c8, h⟩ := h
  refine r_last hC fx_17 rfl c8 dL_oil_13 ?_
  refine r_topm (fun σ9 qσ9 => ?_)
  replace h := h σ9 qσ9
  refine r_goto (tgt := 29) hC dL_oil_14 (by decide) ?_
  refine r_iconst (v := 0) hC dL_oil_29 (by decide) ?_
  subst hQ
  exact r_xiret hC hA hr hlk hα4 (by decide) dL_oil_30 h
theorem kL_cost_0 : (Cond.classLink RL 21 "java/lang/IndexOutOfBoundsException") ∈ wsL_cost := by decide +kernel
theorem kL_cost_1 : (Cond.classLink RL 13 "java/lang/IllegalArgumentException") ∈ wsL_cost := by decide +kernel
theorem kL_cost_2 : (Cond.classLink RL 15 "java/lang/IllegalStateException") ∈ wsL_cost := by decide +kernel
set_option maxHeartbeats 4000000 in
set_option maxRecDepth 100000 in
theorem cm_L_cost (l : Launch) (hlf : l.stackTraces = false) (dC : Nat → ClassId) (dI : Nat → Nat → Nat) (dA : Nat → ClassId) (L : List Nat) (α : Nat → Nat) (σ : Mm) (a1 : Int32) (a2 : Int32) (a3 : Int32) (Qm : Int32 → Mm → List Nat → Prop) (h : wp_L_cost L σ a1 a2 a3 Qm) (sz : Nat) : vx_Met l yL_cost wsL_cost ({ frames := 7, cells := 16, slots := 2000, locals := 114 } : Room) (xP dC dI dA L α σ sz [fO α (some 0), .int a1, .int a2, .int a3, fO α (some 17)]) (va_Qi (fun r u => Qm r u.1 u.2) (cX dC dI dA L α (wl dA (Fc ++ L) α σ) sz) (va_A (wl dA (Fc ++ L) α σ) sz)) (xXC dC dI dA L α (wl dA (Fc ++ L) α σ) sz (fun _ _ _ => False)) 16 2000 (va_A (wl dA (Fc ++ L) α σ) sz) := by
  refine m_wstart (own := RL) (lv := [(0, fO α (some 0)), (1, .int a1), (2, .int a2), (3, .int a3), (4, fO α (some 17))]) (by decide) rfl rfl (by simp only [lgl_O, lgl_I, lgl_J, lgl_N]; decide) (by simp only [lva_O, lva_I, lva_J, lva_N]) ?_
  intro p e s m below meth c hsz hC hr hlk htab hX
  generalize hA : va_A (wl dA (Fc ++ L) α σ) sz = A at hC hX ⊢
  have hA := hA.symm
  generalize hargs : ([fO α (some 0), .int a1, .int a2, .int a3, fO α (some 17)] : List Value).toArray = args at hC ⊢
  generalize hQ : vx_MQ below _ _ args s 16 2000 A = Q
  unfold wp_L_cost at h
  refine r_aload hC dL_cost_0 4 rfl ?_
  refine r_iconst (v := 0) hC dL_cost_2 (by decide) ?_
  refine r_aload_n hC dL_cost_3 rfl 0 rfl ?_
  refine r_iload_n hC dL_cost_4 rfl 1 rfl ?_
  refine r_iload_n hC dL_cost_5 rfl 2 rfl ?_
  refine r_iload_n hC dL_cost_6 rfl 3 rfl ?_
  refine r_xcalli hC [.int 0, fO α (some 17)] (m_xrunV (R := ({ frames := 7, cells := 16, slots := 2000, locals := 114 } : Room)) (cells := 0) (slots := 0) (n := 3) (ci := 6) hC hX [.int a1, .int a2, .int a3] [.int 0, fO α (some 17)] (fun sz => cm_X6_cost l hlf dC dI dA L α σ a1 a2 a3 _ _ h sz) gL_cost_X6_cost rfl ⟨rfl, rfl⟩ (by decide +kernel) ⟨Nat.le_of_ble_eq_true rfl, Nat.le_of_ble_eq_true rfl⟩ fx_0 (ct_6 rfl) rfl rfl (Nat.le_of_ble_eq_true rfl) (by decide) dL_cost_7) (fun x1 σ2 L3 α4 hα4 hn => ?_) (fun en σ5 L6 α7 hα7 hn => ?_)
  rotate_left
  · clear h
    rcases hn with ⟨rfl, hn⟩ | ⟨rfl, hn⟩ | ⟨rfl, hn⟩
    · rw [fO_al hα7 (k := 0) fx_0, fO_al hα7 (k := 17) fx_17]
      refine r_catch (en := 1) hC hX ([] : List ExceptionTableEntry) (⟨0, 12, 15, 21⟩ : ExceptionTableEntry) [⟨0, 12, 19, 13⟩, ⟨0, 12, 23, 15⟩] (by rw [htab]; rfl) (fun z hz => nomatch hz) (by decide) (by decide) kL_cost_0 (by decide +kernel) (fun q9 => ?_)
      refine r_astoreQ (lv' := [(5, .ref q9), (0, fO α7 (some 0)), (1, .int a1), (2, .int a2), (3, .int a3), (4, fO α7 (some 17))]) hC dL_cost_15 (by decide) rfl ?_
      refine r_iconst (v := 1) hC dL_cost_17 (by decide) ?_
      subst hQ
      exact r_xiret hC hA hr hlk hα7 (by decide) dL_cost_18 hn
    · rw [fO_al hα7 (k := 0) fx_0, fO_al hα7 (k := 17) fx_17]
      refine r_catch (en := 2) hC hX ([⟨0, 12, 15, 21⟩] : List ExceptionTableEntry) (⟨0, 12, 19, 13⟩ : ExceptionTableEntry) [⟨0, 12, 23, 15⟩] (by rw [htab]; rfl) (fun z hz => by rcases List.mem_singleton.mp hz with rfl; exact ⟨"java/lang/IndexOutOfBoundsException", by decide, kL_cost_0, by decide +kernel⟩) (by decide) (by decide) kL_cost_1 (by decide +kernel) (fun q9 => ?_)
      refine r_astoreQ (lv' := [(5, .ref q9), (0, fO α7 (some 0)), (1, .int a1), (2, .int a2), (3, .int a3), (4, fO α7 (some 17))]) hC dL_cost_19 (by decide) rfl ?_
      refine r_iconst (v := 2) hC dL_cost_21 (by decide) ?_
      subst hQ
      exact r_xiret hC hA hr hlk hα7 (by decide) dL_cost_22 hn
    · rw [fO_al hα7 (k := 0) fx_0, fO_al hα7 (k := 17) fx_17]
      refine r_catch (en := 3) hC hX ([⟨0, 12, 15, 21⟩, ⟨0, 12, 19, 13⟩] : List ExceptionTableEntry) (⟨0, 12, 23, 15⟩ : ExceptionTableEntry) [] (by rw [htab]; rfl) (fun z hz => by rcases List.mem_cons.mp hz with rfl | hz; exact ⟨"java/lang/IndexOutOfBoundsException", by decide, kL_cost_0, by decide +kernel⟩; rcases List.mem_singleton.mp hz with rfl; exact ⟨"java/lang/IllegalArgumentException", by decide, kL_cost_1, by decide +kernel⟩) (by decide) (by decide) kL_cost_2 (by decide +kernel) (fun q9 => ?_)
      refine r_astoreQ (lv' := [(5, .ref q9), (0, fO α7 (some 0)), (1, .int a1), (2, .int a2), (3, .int a3), (4, fO α7 (some 17))]) hC dL_cost_23 (by decide) rfl ?_
      refine r_iconst (v := 3) hC dL_cost_25 (by decide) ?_
      subst hQ
      exact r_xiret hC hA hr hlk hα7 (by decide) dL_cost_26 hn
  clear h
  revert hn
  intro h
  rw [fO_al hα4 (k := 0) fx_0, fO_al hα4 (k := 17) fx_17]
  refine r_i2l hC dL_cost_10 ?_
  obtain ⟨c8, h⟩ := h
  refine r_last hC fx_17 rfl c8 dL_cost_11 ?_
  refine r_topm (fun σ9 qσ9 => ?_)
  replace h := h σ9 qσ9
  refine r_goto (tgt := 27) hC dL_cost_12 (by decide) ?_
  refine r_iconst (v := 0) hC dL_cost_27 (by decide) ?_
  subst hQ
  exact r_xiret hC hA hr hlk hα4 (by decide) dL_cost_28 h
theorem kL_tax_0 : (Cond.classLink RL 21 "java/lang/IndexOutOfBoundsException") ∈ wsL_tax := by decide +kernel
theorem kL_tax_1 : (Cond.classLink RL 13 "java/lang/IllegalArgumentException") ∈ wsL_tax := by decide +kernel
set_option maxHeartbeats 4000000 in
set_option maxRecDepth 100000 in
theorem cm_L_tax (l : Launch) (hlf : l.stackTraces = false) (dC : Nat → ClassId) (dI : Nat → Nat → Nat) (dA : Nat → ClassId) (L : List Nat) (α : Nat → Nat) (σ : Mm) (a1 : Int32) (a2 : Int32) (Qm : Int32 → Mm → List Nat → Prop) (h : wp_L_tax L σ a1 a2 Qm) (sz : Nat) : vx_Met l yL_tax wsL_tax ({ frames := 7, cells := 16, slots := 2000, locals := 113 } : Room) (xP dC dI dA L α σ sz [fO α (some 0), .int a1, .int a2, fO α (some 17)]) (va_Qi (fun r u => Qm r u.1 u.2) (cX dC dI dA L α (wl dA (Fc ++ L) α σ) sz) (va_A (wl dA (Fc ++ L) α σ) sz)) (xXC dC dI dA L α (wl dA (Fc ++ L) α σ) sz (fun _ _ _ => False)) 16 2000 (va_A (wl dA (Fc ++ L) α σ) sz) := by
  refine m_wstart (own := RL) (lv := [(0, fO α (some 0)), (1, .int a1), (2, .int a2), (3, fO α (some 17))]) (by decide) rfl rfl (by simp only [lgl_O, lgl_I, lgl_J, lgl_N]; decide) (by simp only [lva_O, lva_I, lva_J, lva_N]) ?_
  intro p e s m below meth c hsz hC hr hlk htab hX
  generalize hA : va_A (wl dA (Fc ++ L) α σ) sz = A at hC hX ⊢
  have hA := hA.symm
  generalize hargs : ([fO α (some 0), .int a1, .int a2, fO α (some 17)] : List Value).toArray = args at hC ⊢
  generalize hQ : vx_MQ below _ _ args s 16 2000 A = Q
  unfold wp_L_tax at h
  refine r_aload_n hC dL_tax_0 rfl 3 rfl ?_
  refine r_iconst (v := 0) hC dL_tax_1 (by decide) ?_
  refine r_aload_n hC dL_tax_2 rfl 0 rfl ?_
  refine r_iload_n hC dL_tax_3 rfl 1 rfl ?_
  refine r_iload_n hC dL_tax_4 rfl 2 rfl ?_
  refine r_xcalli hC [.int 0, fO α (some 17)] (m_xrunV (R := ({ frames := 7, cells := 16, slots := 2000, locals := 113 } : Room)) (cells := 0) (slots := 0) (n := 2) (ci := 6) hC hX [.int a1, .int a2] [.int 0, fO α (some 17)] (fun sz => cm_X6_tax l hlf dC dI dA L α σ a1 a2 _ _ h sz) gL_tax_X6_tax rfl ⟨rfl, rfl⟩ (by decide +kernel) ⟨Nat.le_of_ble_eq_true rfl, Nat.le_of_ble_eq_true rfl⟩ fx_0 (ct_6 rfl) rfl rfl (Nat.le_of_ble_eq_true rfl) (by decide) dL_tax_5) (fun x1 σ2 L3 α4 hα4 hn => ?_) (fun en σ5 L6 α7 hα7 hn => ?_)
  rotate_left
  · clear h
    rcases hn with ⟨rfl, hn⟩ | ⟨rfl, hn⟩
    · rw [fO_al hα7 (k := 0) fx_0, fO_al hα7 (k := 17) fx_17]
      refine r_catch (en := 1) hC hX ([] : List ExceptionTableEntry) (⟨0, 10, 13, 21⟩ : ExceptionTableEntry) [⟨0, 10, 17, 13⟩] (by rw [htab]; rfl) (fun z hz => nomatch hz) (by decide) (by decide) kL_tax_0 (by decide +kernel) (fun q9 => ?_)
      refine r_astoreQ (lv' := [(4, .ref q9), (0, fO α7 (some 0)), (1, .int a1), (2, .int a2), (3, fO α7 (some 17))]) hC dL_tax_13 (by decide) rfl ?_
      refine r_iconst (v := 1) hC dL_tax_15 (by decide) ?_
      subst hQ
      exact r_xiret hC hA hr hlk hα7 (by decide) dL_tax_16 hn
    · rw [fO_al hα7 (k := 0) fx_0, fO_al hα7 (k := 17) fx_17]
      refine r_catch (en := 2) hC hX ([⟨0, 10, 13, 21⟩] : List ExceptionTableEntry) (⟨0, 10, 17, 13⟩ : ExceptionTableEntry) [] (by rw [htab]; rfl) (fun z hz => by rcases List.mem_singleton.mp hz with rfl; exact ⟨"java/lang/IndexOutOfBoundsException", by decide, kL_tax_0, by decide +kernel⟩) (by decide) (by decide) kL_tax_1 (by decide +kernel) (fun q9 => ?_)
      refine r_astoreQ (lv' := [(4, .ref q9), (0, fO α7 (some 0)), (1, .int a1), (2, .int a2), (3, fO α7 (some 17))]) hC dL_tax_17 (by decide) rfl ?_
      refine r_iconst (v := 2) hC dL_tax_19 (by decide) ?_
      subst hQ
      exact r_xiret hC hA hr hlk hα7 (by decide) dL_tax_20 hn
  clear h
  revert hn
  intro h
  rw [fO_al hα4 (k := 0) fx_0, fO_al hα4 (k := 17) fx_17]
  refine r_i2l hC dL_tax_8 ?_
  obtain ⟨c8, h⟩ := h
  refine r_last hC fx_17 rfl c8 dL_tax_9 ?_
  refine r_topm (fun σ9 qσ9 => ?_)
  replace h := h σ9 qσ9
  refine r_goto (tgt := 21) hC dL_tax_10 (by decide) ?_
  refine r_iconst (v := 0) hC dL_tax_21 (by decide) ?_
  subst hQ
  exact r_xiret hC hA hr hlk hα4 (by decide) dL_tax_22 h
theorem kL_consent_0 : (Cond.classLink RL 21 "java/lang/IndexOutOfBoundsException") ∈ wsL_consent := by decide +kernel
set_option maxHeartbeats 4000000 in
set_option maxRecDepth 100000 in
theorem cm_L_consent (l : Launch) (hlf : l.stackTraces = false) (dC : Nat → ClassId) (dI : Nat → Nat → Nat) (dA : Nat → ClassId) (L : List Nat) (α : Nat → Nat) (σ : Mm) (a1 : Int32) (a2 : Int32) (a3 : Int32) (Qm : Int32 → Mm → List Nat → Prop) (h : wp_L_consent L σ a1 a2 a3 Qm) (sz : Nat) : vx_Met l yL_consent wsL_consent ({ frames := 7, cells := 16, slots := 2000, locals := 116 } : Room) (xP dC dI dA L α σ sz [fO α (some 0), .int a1, .int a2, .int a3, fO α (some 17)]) (va_Qi (fun r u => Qm r u.1 u.2) (cX dC dI dA L α (wl dA (Fc ++ L) α σ) sz) (va_A (wl dA (Fc ++ L) α σ) sz)) (xXC dC dI dA L α (wl dA (Fc ++ L) α σ) sz (fun _ _ _ => False)) 16 2000 (va_A (wl dA (Fc ++ L) α σ) sz) := by
  refine m_wstart (own := RL) (lv := [(0, fO α (some 0)), (1, .int a1), (2, .int a2), (3, .int a3), (4, fO α (some 17))]) (by decide) rfl rfl (by simp only [lgl_O, lgl_I, lgl_J, lgl_N]; decide) (by simp only [lva_O, lva_I, lva_J, lva_N]) ?_
  intro p e s m below meth c hsz hC hr hlk htab hX
  generalize hA : va_A (wl dA (Fc ++ L) α σ) sz = A at hC hX ⊢
  have hA := hA.symm
  generalize hargs : ([fO α (some 0), .int a1, .int a2, .int a3, fO α (some 17)] : List Value).toArray = args at hC ⊢
  generalize hQ : vx_MQ below _ _ args s 16 2000 A = Q
  unfold wp_L_consent at h
  refine r_aload hC dL_consent_0 4 rfl ?_
  refine r_iconst (v := 0) hC dL_consent_2 (by decide) ?_
  refine r_aload_n hC dL_consent_3 rfl 0 rfl ?_
  refine r_iload_n hC dL_consent_4 rfl 1 rfl ?_
  refine r_iload_n hC dL_consent_5 rfl 2 rfl ?_
  refine r_iload_n hC dL_consent_6 rfl 3 rfl ?_
  refine r_xcalli hC [.int 0, fO α (some 17)] (m_xrunV (R := ({ frames := 7, cells := 16, slots := 2000, locals := 116 } : Room)) (cells := 0) (slots := 0) (n := 3) (ci := 6) hC hX [.int a1, .int a2, .int a3] [.int 0, fO α (some 17)] (fun sz => cm_X6_consent l hlf dC dI dA L α σ a1 a2 a3 _ _ h sz) gL_consent_X6_consent rfl ⟨rfl, rfl⟩ (by decide +kernel) ⟨Nat.le_of_ble_eq_true rfl, Nat.le_of_ble_eq_true rfl⟩ fx_0 (ct_6 rfl) rfl rfl (Nat.le_of_ble_eq_true rfl) (by decide) dL_consent_7) (fun x1 σ2 L3 α4 hα4 hn => ?_) (fun en σ5 L6 α7 hα7 hn => ?_)
  rotate_left
  · clear h
    rcases hn with ⟨rfl, hn⟩
    · rw [fO_al hα7 (k := 0) fx_0, fO_al hα7 (k := 17) fx_17]
      refine r_catch (en := 1) hC hX ([] : List ExceptionTableEntry) (⟨0, 19, 22, 21⟩ : ExceptionTableEntry) [] (by rw [htab]; rfl) (fun z hz => nomatch hz) (by decide) (by decide) kL_consent_0 (by decide +kernel) (fun q9 => ?_)
      refine r_astoreQ (lv' := [(5, .ref q9), (0, fO α7 (some 0)), (1, .int a1), (2, .int a2), (3, .int a3), (4, fO α7 (some 17))]) hC dL_consent_22 (by decide) rfl ?_
      refine r_iconst (v := 1) hC dL_consent_24 (by decide) ?_
      subst hQ
      exact r_xiret hC hA hr hlk hα7 (by decide) dL_consent_25 hn
  clear h
  revert hn
  intro h
  rw [fO_al hα4 (k := 0) fx_0, fO_al hα4 (k := 17) fx_17]
  obtain ⟨J9, hJ9, h⟩ := h
  have KJ9 : ∀ (y8 : Int64), J9 y8 → G p l e ({ frames := 7, cells := 16, slots := 2000, locals := 116 } : Room) s m args below meth c (0 + 16) (0 + 2000) Q dC dI dA (Fc ++ L3) α4 A 6 σ2 18 [] [.long y8, .int 0, fO α4 (some 17)] := by
    clear h
    intro y8 h
    replace h := hJ9 y8 h
    obtain ⟨c10, h⟩ := h
    refine r_last hC fx_17 rfl c10 dL_consent_18 ?_
    refine r_topm (fun σ11 qσ11 => ?_)
    replace h := h σ11 qσ11
    refine r_goto (tgt := 26) hC dL_consent_19 (by decide) ?_
    refine r_iconst (v := 0) hC dL_consent_26 (by decide) ?_
    subst hQ
    exact r_xiret hC hA hr hlk hα4 (by decide) dL_consent_27 h
  refine r_if_eq (tgt := 17) hC dL_consent_10 (by decide) (fun q => ?_) (fun q => ?_)
  · replace h := h.1 q
    refine r_lconst (v := 0) hC dL_consent_17 (by decide) ?_
    refine r_lvs [] rfl ?_
    exact KJ9 0 h
  · replace h := h.2 q
    refine r_lconst (v := 1) hC dL_consent_13 (by decide) ?_
    refine r_goto (tgt := 18) hC dL_consent_14 (by decide) ?_
    refine r_lvs [] rfl ?_
    exact KJ9 1 h
theorem kL_penalty_0 : (Cond.classLink RL 13 "java/lang/IllegalArgumentException") ∈ wsL_penalty := by decide +kernel
set_option maxHeartbeats 4000000 in
set_option maxRecDepth 100000 in
theorem cm_L_penalty (l : Launch) (hlf : l.stackTraces = false) (dC : Nat → ClassId) (dI : Nat → Nat → Nat) (dA : Nat → ClassId) (L : List Nat) (α : Nat → Nat) (σ : Mm) (a1 : Int32) (Qm : Int32 → Mm → List Nat → Prop) (h : wp_L_penalty L σ a1 Qm) (sz : Nat) : vx_Met l yL_penalty wsL_penalty ({ frames := 7, cells := 16, slots := 2000, locals := 112 } : Room) (xP dC dI dA L α σ sz [fO α (some 0), .int a1, fO α (some 17)]) (va_Qi (fun r u => Qm r u.1 u.2) (cX dC dI dA L α (wl dA (Fc ++ L) α σ) sz) (va_A (wl dA (Fc ++ L) α σ) sz)) (xXC dC dI dA L α (wl dA (Fc ++ L) α σ) sz (fun _ _ _ => False)) 16 2000 (va_A (wl dA (Fc ++ L) α σ) sz) := by
  refine m_wstart (own := RL) (lv := [(0, fO α (some 0)), (1, .int a1), (2, fO α (some 17))]) (by decide) rfl rfl (by simp only [lgl_O, lgl_I, lgl_J, lgl_N]; decide) (by simp only [lva_O, lva_I, lva_J, lva_N]) ?_
  intro p e s m below meth c hsz hC hr hlk htab hX
  generalize hA : va_A (wl dA (Fc ++ L) α σ) sz = A at hC hX ⊢
  have hA := hA.symm
  generalize hargs : ([fO α (some 0), .int a1, fO α (some 17)] : List Value).toArray = args at hC ⊢
  generalize hQ : vx_MQ below _ _ args s 16 2000 A = Q
  unfold wp_L_penalty at h
  refine r_aload_n hC dL_penalty_0 rfl 2 rfl ?_
  refine r_iconst (v := 0) hC dL_penalty_1 (by decide) ?_
  refine r_aload_n hC dL_penalty_2 rfl 0 rfl ?_
  refine r_iload_n hC dL_penalty_3 rfl 1 rfl ?_
  refine r_xcalli hC [.int 0, fO α (some 17)] (m_xrunV (R := ({ frames := 7, cells := 16, slots := 2000, locals := 112 } : Room)) (cells := 0) (slots := 0) (n := 1) (ci := 6) hC hX [.int a1] [.int 0, fO α (some 17)] (fun sz => cm_X6_penalty l hlf dC dI dA L α σ a1 _ _ h sz) gL_penalty_X6_penalty rfl ⟨rfl, rfl⟩ (by decide +kernel) ⟨Nat.le_of_ble_eq_true rfl, Nat.le_of_ble_eq_true rfl⟩ fx_0 (ct_6 rfl) rfl rfl (Nat.le_of_ble_eq_true rfl) (by decide) dL_penalty_4) (fun x1 σ2 L3 α4 hα4 hn => ?_) (fun en σ5 L6 α7 hα7 hn => ?_)
  rotate_left
  · clear h
    rcases hn with ⟨rfl, hn⟩
    · rw [fO_al hα7 (k := 0) fx_0, fO_al hα7 (k := 17) fx_17]
      refine r_catch (en := 2) hC hX ([] : List ExceptionTableEntry) (⟨0, 9, 12, 13⟩ : ExceptionTableEntry) [] (by rw [htab]; rfl) (fun z hz => nomatch hz) (by decide) (by decide) kL_penalty_0 (by decide +kernel) (fun q9 => ?_)
      refine r_astoreQ_n (lv' := [(3, .ref q9), (0, fO α7 (some 0)), (1, .int a1), (2, fO α7 (some 17))]) hC dL_penalty_12 rfl (by decide) rfl ?_
      refine r_iconst (v := 1) hC dL_penalty_13 (by decide) ?_
      subst hQ
      exact r_xiret hC hA hr hlk hα7 (by decide) dL_penalty_14 hn
  clear h
  revert hn
  intro h
  rw [fO_al hα4 (k := 0) fx_0, fO_al hα4 (k := 17) fx_17]
  refine r_i2l hC dL_penalty_7 ?_
  obtain ⟨c8, h⟩ := h
  refine r_last hC fx_17 rfl c8 dL_penalty_8 ?_
  refine r_topm (fun σ9 qσ9 => ?_)
  replace h := h σ9 qσ9
  refine r_goto (tgt := 15) hC dL_penalty_9 (by decide) ?_
  refine r_iconst (v := 0) hC dL_penalty_15 (by decide) ?_
  subst hQ
  exact r_xiret hC hA hr hlk hα4 (by decide) dL_penalty_16 h
theorem kL_interest_0 : (Cond.classLink RL 21 "java/lang/IndexOutOfBoundsException") ∈ wsL_interest := by decide +kernel
set_option maxHeartbeats 4000000 in
set_option maxRecDepth 100000 in
theorem cm_L_interest (l : Launch) (hlf : l.stackTraces = false) (dC : Nat → ClassId) (dI : Nat → Nat → Nat) (dA : Nat → ClassId) (L : List Nat) (α : Nat → Nat) (σ : Mm) (a1 : Int32) (a2 : Int32) (a3 : Int32) (a4 : Int32) (Qm : Int32 → Mm → List Nat → Prop) (h : wp_L_interest L σ a1 a2 a3 a4 Qm) (sz : Nat) : vx_Met l yL_interest wsL_interest ({ frames := 7, cells := 16, slots := 2000, locals := 127 } : Room) (xP dC dI dA L α σ sz [fO α (some 0), .int a1, .int a2, .int a3, .int a4, fO α (some 17)]) (va_Qi (fun r u => Qm r u.1 u.2) (cX dC dI dA L α (wl dA (Fc ++ L) α σ) sz) (va_A (wl dA (Fc ++ L) α σ) sz)) (xXC dC dI dA L α (wl dA (Fc ++ L) α σ) sz (fun _ _ _ => False)) 16 2000 (va_A (wl dA (Fc ++ L) α σ) sz) := by
  refine m_wstart (own := RL) (lv := [(0, fO α (some 0)), (1, .int a1), (2, .int a2), (3, .int a3), (4, .int a4), (5, fO α (some 17))]) (by decide) rfl rfl (by simp only [lgl_O, lgl_I, lgl_J, lgl_N]; decide) (by simp only [lva_O, lva_I, lva_J, lva_N]) ?_
  intro p e s m below meth c hsz hC hr hlk htab hX
  generalize hA : va_A (wl dA (Fc ++ L) α σ) sz = A at hC hX ⊢
  have hA := hA.symm
  generalize hargs : ([fO α (some 0), .int a1, .int a2, .int a3, .int a4, fO α (some 17)] : List Value).toArray = args at hC ⊢
  generalize hQ : vx_MQ below _ _ args s 16 2000 A = Q
  unfold wp_L_interest at h
  refine r_aload hC dL_interest_0 5 rfl ?_
  refine r_iconst (v := 0) hC dL_interest_2 (by decide) ?_
  refine r_aload_n hC dL_interest_3 rfl 0 rfl ?_
  refine r_iload_n hC dL_interest_4 rfl 1 rfl ?_
  refine r_iload_n hC dL_interest_5 rfl 2 rfl ?_
  refine r_iload_n hC dL_interest_6 rfl 3 rfl ?_
  refine r_iload hC dL_interest_7 4 rfl ?_
  refine r_xcalli hC [.int 0, fO α (some 17)] (m_xrunV (R := ({ frames := 7, cells := 16, slots := 2000, locals := 127 } : Room)) (cells := 0) (slots := 0) (n := 4) (ci := 6) hC hX [.int a1, .int a2, .int a3, .int a4] [.int 0, fO α (some 17)] (fun sz => cm_X6_interest l hlf dC dI dA L α σ a1 a2 a3 a4 _ _ h sz) gL_interest_X6_interest rfl ⟨rfl, rfl⟩ (by decide +kernel) ⟨Nat.le_of_ble_eq_true rfl, Nat.le_of_ble_eq_true rfl⟩ fx_0 (ct_6 rfl) rfl rfl (Nat.le_of_ble_eq_true rfl) (by decide) dL_interest_9) (fun x1 σ2 L3 α4 hα4 hn => ?_) (fun en σ5 L6 α7 hα7 hn => ?_)
  rotate_left
  · clear h
    rcases hn with ⟨rfl, hn⟩
    · rw [fO_al hα7 (k := 0) fx_0, fO_al hα7 (k := 17) fx_17]
      refine r_catch (en := 1) hC hX ([] : List ExceptionTableEntry) (⟨0, 14, 17, 21⟩ : ExceptionTableEntry) [] (by rw [htab]; rfl) (fun z hz => nomatch hz) (by decide) (by decide) kL_interest_0 (by decide +kernel) (fun q9 => ?_)
      refine r_astoreQ (lv' := [(6, .ref q9), (0, fO α7 (some 0)), (1, .int a1), (2, .int a2), (3, .int a3), (4, .int a4), (5, fO α7 (some 17))]) hC dL_interest_17 (by decide) rfl ?_
      refine r_iconst (v := 1) hC dL_interest_19 (by decide) ?_
      subst hQ
      exact r_xiret hC hA hr hlk hα7 (by decide) dL_interest_20 hn
  clear h
  revert hn
  intro h
  rw [fO_al hα4 (k := 0) fx_0, fO_al hα4 (k := 17) fx_17]
  refine r_i2l hC dL_interest_12 ?_
  obtain ⟨c8, h⟩ := h
  refine r_last hC fx_17 rfl c8 dL_interest_13 ?_
  refine r_topm (fun σ9 qσ9 => ?_)
  replace h := h σ9 qσ9
  refine r_goto (tgt := 21) hC dL_interest_14 (by decide) ?_
  refine r_iconst (v := 0) hC dL_interest_21 (by decide) ?_
  subst hQ
  exact r_xiret hC hA hr hlk hα4 (by decide) dL_interest_22 h
theorem kL_revenue_0 : (Cond.classLink RL 21 "java/lang/IndexOutOfBoundsException") ∈ wsL_revenue := by decide +kernel
set_option maxHeartbeats 4000000 in
set_option maxRecDepth 100000 in
theorem cm_L_revenue (l : Launch) (hlf : l.stackTraces = false) (dC : Nat → ClassId) (dI : Nat → Nat → Nat) (dA : Nat → ClassId) (L : List Nat) (α : Nat → Nat) (σ : Mm) (a1 : Int32) (a2 : Int32) (Qm : Int32 → Mm → List Nat → Prop) (h : wp_L_revenue L σ a1 a2 Qm) (sz : Nat) : vx_Met l yL_revenue wsL_revenue ({ frames := 7, cells := 16, slots := 2000, locals := 113 } : Room) (xP dC dI dA L α σ sz [fO α (some 0), .int a1, .int a2, fO α (some 17)]) (va_Qi (fun r u => Qm r u.1 u.2) (cX dC dI dA L α (wl dA (Fc ++ L) α σ) sz) (va_A (wl dA (Fc ++ L) α σ) sz)) (xXC dC dI dA L α (wl dA (Fc ++ L) α σ) sz (fun _ _ _ => False)) 16 2000 (va_A (wl dA (Fc ++ L) α σ) sz) := by
  refine m_wstart (own := RL) (lv := [(0, fO α (some 0)), (1, .int a1), (2, .int a2), (3, fO α (some 17))]) (by decide) rfl rfl (by simp only [lgl_O, lgl_I, lgl_J, lgl_N]; decide) (by simp only [lva_O, lva_I, lva_J, lva_N]) ?_
  intro p e s m below meth c hsz hC hr hlk htab hX
  generalize hA : va_A (wl dA (Fc ++ L) α σ) sz = A at hC hX ⊢
  have hA := hA.symm
  generalize hargs : ([fO α (some 0), .int a1, .int a2, fO α (some 17)] : List Value).toArray = args at hC ⊢
  generalize hQ : vx_MQ below _ _ args s 16 2000 A = Q
  unfold wp_L_revenue at h
  refine r_aload_n hC dL_revenue_0 rfl 3 rfl ?_
  refine r_iconst (v := 0) hC dL_revenue_1 (by decide) ?_
  refine r_aload_n hC dL_revenue_2 rfl 0 rfl ?_
  refine r_iload_n hC dL_revenue_3 rfl 1 rfl ?_
  refine r_iload_n hC dL_revenue_4 rfl 2 rfl ?_
  refine r_xcalli hC [.int 0, fO α (some 17)] (m_xrunV (R := ({ frames := 7, cells := 16, slots := 2000, locals := 113 } : Room)) (cells := 0) (slots := 0) (n := 2) (ci := 6) hC hX [.int a1, .int a2] [.int 0, fO α (some 17)] (fun sz => cm_X6_revenue l hlf dC dI dA L α σ a1 a2 _ _ h sz) gL_revenue_X6_revenue rfl ⟨rfl, rfl⟩ (by decide +kernel) ⟨Nat.le_of_ble_eq_true rfl, Nat.le_of_ble_eq_true rfl⟩ fx_0 (ct_6 rfl) rfl rfl (Nat.le_of_ble_eq_true rfl) (by decide) dL_revenue_5) (fun x1 σ2 L3 α4 hα4 hn => ?_) (fun en σ5 L6 α7 hα7 hn => ?_)
  rotate_left
  · clear h
    rcases hn with ⟨rfl, hn⟩
    · rw [fO_al hα7 (k := 0) fx_0, fO_al hα7 (k := 17) fx_17]
      refine r_catch (en := 1) hC hX ([] : List ExceptionTableEntry) (⟨0, 10, 13, 21⟩ : ExceptionTableEntry) [] (by rw [htab]; rfl) (fun z hz => nomatch hz) (by decide) (by decide) kL_revenue_0 (by decide +kernel) (fun q9 => ?_)
      refine r_astoreQ (lv' := [(4, .ref q9), (0, fO α7 (some 0)), (1, .int a1), (2, .int a2), (3, fO α7 (some 17))]) hC dL_revenue_13 (by decide) rfl ?_
      refine r_iconst (v := 1) hC dL_revenue_15 (by decide) ?_
      subst hQ
      exact r_xiret hC hA hr hlk hα7 (by decide) dL_revenue_16 hn
  clear h
  revert hn
  intro h
  rw [fO_al hα4 (k := 0) fx_0, fO_al hα4 (k := 17) fx_17]
  refine r_i2l hC dL_revenue_8 ?_
  obtain ⟨c8, h⟩ := h
  refine r_last hC fx_17 rfl c8 dL_revenue_9 ?_
  refine r_topm (fun σ9 qσ9 => ?_)
  replace h := h σ9 qσ9
  refine r_goto (tgt := 17) hC dL_revenue_10 (by decide) ?_
  refine r_iconst (v := 0) hC dL_revenue_17 (by decide) ?_
  subst hQ
  exact r_xiret hC hA hr hlk hα4 (by decide) dL_revenue_18 h
theorem kL_due_0 : (Cond.classLink RL 21 "java/lang/IndexOutOfBoundsException") ∈ wsL_due := by decide +kernel
set_option maxHeartbeats 4000000 in
set_option maxRecDepth 100000 in
theorem cm_L_due (l : Launch) (hlf : l.stackTraces = false) (dC : Nat → ClassId) (dI : Nat → Nat → Nat) (dA : Nat → ClassId) (L : List Nat) (α : Nat → Nat) (σ : Mm) (a1 : Int32) (a2 : Int32) (a3 : Int32) (Qm : Int32 → Mm → List Nat → Prop) (h : wp_L_due L σ a1 a2 a3 Qm) (sz : Nat) : vx_Met l yL_due wsL_due ({ frames := 7, cells := 16, slots := 2000, locals := 178 } : Room) (xP dC dI dA L α σ sz [fO α (some 0), .int a1, .int a2, .int a3, fO α (some 17)]) (va_Qi (fun r u => Qm r u.1 u.2) (cX dC dI dA L α (wl dA (Fc ++ L) α σ) sz) (va_A (wl dA (Fc ++ L) α σ) sz)) (xXC dC dI dA L α (wl dA (Fc ++ L) α σ) sz (fun _ _ _ => False)) 16 2000 (va_A (wl dA (Fc ++ L) α σ) sz) := by
  refine m_wstart (own := RL) (lv := [(0, fO α (some 0)), (1, .int a1), (2, .int a2), (3, .int a3), (4, fO α (some 17))]) (by decide) rfl rfl (by simp only [lgl_O, lgl_I, lgl_J, lgl_N]; decide) (by simp only [lva_O, lva_I, lva_J, lva_N]) ?_
  intro p e s m below meth c hsz hC hr hlk htab hX
  generalize hA : va_A (wl dA (Fc ++ L) α σ) sz = A at hC hX ⊢
  have hA := hA.symm
  generalize hargs : ([fO α (some 0), .int a1, .int a2, .int a3, fO α (some 17)] : List Value).toArray = args at hC ⊢
  generalize hQ : vx_MQ below _ _ args s 16 2000 A = Q
  unfold wp_L_due at h
  refine r_aload hC dL_due_0 4 rfl ?_
  refine r_iconst (v := 0) hC dL_due_2 (by decide) ?_
  refine r_aload_n hC dL_due_3 rfl 0 rfl ?_
  refine r_iload_n hC dL_due_4 rfl 1 rfl ?_
  refine r_iload_n hC dL_due_5 rfl 2 rfl ?_
  refine r_iload_n hC dL_due_6 rfl 3 rfl ?_
  refine r_xcalli hC [.int 0, fO α (some 17)] (m_xrunV (R := ({ frames := 7, cells := 16, slots := 2000, locals := 178 } : Room)) (cells := 0) (slots := 0) (n := 3) (ci := 6) hC hX [.int a1, .int a2, .int a3] [.int 0, fO α (some 17)] (fun sz => cm_X6_due l hlf dC dI dA L α σ a1 a2 a3 _ _ h sz) gL_due_X6_due rfl ⟨rfl, rfl⟩ (by decide +kernel) ⟨Nat.le_of_ble_eq_true rfl, Nat.le_of_ble_eq_true rfl⟩ fx_0 (ct_6 rfl) rfl rfl (Nat.le_of_ble_eq_true rfl) (by decide) dL_due_7) (fun x1 σ2 L3 α4 hα4 hn => ?_) (fun en σ5 L6 α7 hα7 hn => ?_)
  rotate_left
  · clear h
    rcases hn with ⟨rfl, hn⟩
    · rw [fO_al hα7 (k := 0) fx_0, fO_al hα7 (k := 17) fx_17]
      refine r_catch (en := 1) hC hX ([] : List ExceptionTableEntry) (⟨0, 12, 15, 21⟩ : ExceptionTableEntry) [] (by rw [htab]; rfl) (fun z hz => nomatch hz) (by decide) (by decide) kL_due_0 (by decide +kernel) (fun q9 => ?_)
      refine r_astoreQ (lv' := [(5, .ref q9), (0, fO α7 (some 0)), (1, .int a1), (2, .int a2), (3, .int a3), (4, fO α7 (some 17))]) hC dL_due_15 (by decide) rfl ?_
      refine r_iconst (v := 1) hC dL_due_17 (by decide) ?_
      subst hQ
      exact r_xiret hC hA hr hlk hα7 (by decide) dL_due_18 hn
  clear h
  revert hn
  intro h
  rw [fO_al hα4 (k := 0) fx_0, fO_al hα4 (k := 17) fx_17]
  refine r_i2l hC dL_due_10 ?_
  obtain ⟨c8, h⟩ := h
  refine r_last hC fx_17 rfl c8 dL_due_11 ?_
  refine r_topm (fun σ9 qσ9 => ?_)
  replace h := h σ9 qσ9
  refine r_goto (tgt := 19) hC dL_due_12 (by decide) ?_
  refine r_iconst (v := 0) hC dL_due_19 (by decide) ?_
  subst hQ
  exact r_xiret hC hA hr hlk hα4 (by decide) dL_due_20 h
theorem kL_balance_0 : (Cond.classLink RL 21 "java/lang/IndexOutOfBoundsException") ∈ wsL_balance := by decide +kernel
set_option maxHeartbeats 4000000 in
set_option maxRecDepth 100000 in
theorem cm_L_balance (l : Launch) (hlf : l.stackTraces = false) (dC : Nat → ClassId) (dI : Nat → Nat → Nat) (dA : Nat → ClassId) (L : List Nat) (α : Nat → Nat) (σ : Mm) (a1 : Int32) (a2 : Int32) (a3 : Int32) (Qm : Int32 → Mm → List Nat → Prop) (h : wp_L_balance L σ a1 a2 a3 Qm) (sz : Nat) : vx_Met l yL_balance wsL_balance ({ frames := 7, cells := 16, slots := 2000, locals := 178 } : Room) (xP dC dI dA L α σ sz [fO α (some 0), .int a1, .int a2, .int a3, fO α (some 17)]) (va_Qi (fun r u => Qm r u.1 u.2) (cX dC dI dA L α (wl dA (Fc ++ L) α σ) sz) (va_A (wl dA (Fc ++ L) α σ) sz)) (xXC dC dI dA L α (wl dA (Fc ++ L) α σ) sz (fun _ _ _ => False)) 16 2000 (va_A (wl dA (Fc ++ L) α σ) sz) := by
  refine m_wstart (own := RL) (lv := [(0, fO α (some 0)), (1, .int a1), (2, .int a2), (3, .int a3), (4, fO α (some 17))]) (by decide) rfl rfl (by simp only [lgl_O, lgl_I, lgl_J, lgl_N]; decide) (by simp only [lva_O, lva_I, lva_J, lva_N]) ?_
  intro p e s m below meth c hsz hC hr hlk htab hX
  generalize hA : va_A (wl dA (Fc ++ L) α σ) sz = A at hC hX ⊢
  have hA := hA.symm
  generalize hargs : ([fO α (some 0), .int a1, .int a2, .int a3, fO α (some 17)] : List Value).toArray = args at hC ⊢
  generalize hQ : vx_MQ below _ _ args s 16 2000 A = Q
  unfold wp_L_balance at h
  refine r_aload hC dL_balance_0 4 rfl ?_
  refine r_iconst (v := 0) hC dL_balance_2 (by decide) ?_
  refine r_aload_n hC dL_balance_3 rfl 0 rfl ?_
  refine r_iload_n hC dL_balance_4 rfl 1 rfl ?_
  refine r_iload_n hC dL_balance_5 rfl 2 rfl ?_
  refine r_iload_n hC dL_balance_6 rfl 3 rfl ?_
  refine r_xcalll hC [.int 0, fO α (some 17)] (m_xrunV (R := ({ frames := 7, cells := 16, slots := 2000, locals := 178 } : Room)) (cells := 0) (slots := 0) (n := 3) (ci := 6) hC hX [.int a1, .int a2, .int a3] [.int 0, fO α (some 17)] (fun sz => cm_X6_balance l hlf dC dI dA L α σ a1 a2 a3 _ _ h sz) gL_balance_X6_balance rfl ⟨rfl, rfl⟩ (by decide +kernel) ⟨Nat.le_of_ble_eq_true rfl, Nat.le_of_ble_eq_true rfl⟩ fx_0 (ct_6 rfl) rfl rfl (Nat.le_of_ble_eq_true rfl) (by decide) dL_balance_7) (fun y1 σ2 L3 α4 hα4 hn => ?_) (fun en σ5 L6 α7 hα7 hn => ?_)
  rotate_left
  · clear h
    rcases hn with ⟨rfl, hn⟩
    · rw [fO_al hα7 (k := 0) fx_0, fO_al hα7 (k := 17) fx_17]
      refine r_catch (en := 1) hC hX ([] : List ExceptionTableEntry) (⟨0, 11, 14, 21⟩ : ExceptionTableEntry) [] (by rw [htab]; rfl) (fun z hz => nomatch hz) (by decide) (by decide) kL_balance_0 (by decide +kernel) (fun q9 => ?_)
      refine r_astoreQ (lv' := [(5, .ref q9), (0, fO α7 (some 0)), (1, .int a1), (2, .int a2), (3, .int a3), (4, fO α7 (some 17))]) hC dL_balance_14 (by decide) rfl ?_
      refine r_iconst (v := 1) hC dL_balance_16 (by decide) ?_
      subst hQ
      exact r_xiret hC hA hr hlk hα7 (by decide) dL_balance_17 hn
  clear h
  revert hn
  intro h
  rw [fO_al hα4 (k := 0) fx_0, fO_al hα4 (k := 17) fx_17]
  obtain ⟨c8, h⟩ := h
  refine r_last hC fx_17 rfl c8 dL_balance_10 ?_
  refine r_topm (fun σ9 qσ9 => ?_)
  replace h := h σ9 qσ9
  refine r_goto (tgt := 18) hC dL_balance_11 (by decide) ?_
  refine r_iconst (v := 0) hC dL_balance_18 (by decide) ?_
  subst hQ
  exact r_xiret hC hA hr hlk hα4 (by decide) dL_balance_19 h
theorem kL_agrees_0 : (Cond.classLink RL 21 "java/lang/IndexOutOfBoundsException") ∈ wsL_agrees := by decide +kernel
set_option maxHeartbeats 4000000 in
set_option maxRecDepth 100000 in
theorem cm_L_agrees (l : Launch) (hlf : l.stackTraces = false) (dC : Nat → ClassId) (dI : Nat → Nat → Nat) (dA : Nat → ClassId) (L : List Nat) (α : Nat → Nat) (σ : Mm) (a1 : Int32) (a2 : Int32) (Qm : Int32 → Mm → List Nat → Prop) (h : wp_L_agrees L σ a1 a2 Qm) (sz : Nat) : vx_Met l yL_agrees wsL_agrees ({ frames := 7, cells := 16, slots := 2000, locals := 180 } : Room) (xP dC dI dA L α σ sz [fO α (some 0), .int a1, .int a2, fO α (some 17)]) (va_Qi (fun r u => Qm r u.1 u.2) (cX dC dI dA L α (wl dA (Fc ++ L) α σ) sz) (va_A (wl dA (Fc ++ L) α σ) sz)) (xXC dC dI dA L α (wl dA (Fc ++ L) α σ) sz (fun _ _ _ => False)) 16 2000 (va_A (wl dA (Fc ++ L) α σ) sz) := by
  refine m_wstart (own := RL) (lv := [(0, fO α (some 0)), (1, .int a1), (2, .int a2), (3, fO α (some 17))]) (by decide) rfl rfl (by simp only [lgl_O, lgl_I, lgl_J, lgl_N]; decide) (by simp only [lva_O, lva_I, lva_J, lva_N]) ?_
  intro p e s m below meth c hsz hC hr hlk htab hX
  generalize hA : va_A (wl dA (Fc ++ L) α σ) sz = A at hC hX ⊢
  have hA := hA.symm
  generalize hargs : ([fO α (some 0), .int a1, .int a2, fO α (some 17)] : List Value).toArray = args at hC ⊢
  generalize hQ : vx_MQ below _ _ args s 16 2000 A = Q
  unfold wp_L_agrees at h
  refine r_aload_n hC dL_agrees_0 rfl 3 rfl ?_
  refine r_iconst (v := 0) hC dL_agrees_1 (by decide) ?_
  refine r_aload_n hC dL_agrees_2 rfl 0 rfl ?_
  refine r_iload_n hC dL_agrees_3 rfl 1 rfl ?_
  refine r_iload_n hC dL_agrees_4 rfl 2 rfl ?_
  refine r_xcalli hC [.int 0, fO α (some 17)] (m_xrunV (R := ({ frames := 7, cells := 16, slots := 2000, locals := 180 } : Room)) (cells := 0) (slots := 0) (n := 2) (ci := 6) hC hX [.int a1, .int a2] [.int 0, fO α (some 17)] (fun sz => cm_X6_agrees l hlf dC dI dA L α σ a1 a2 _ _ h sz) gL_agrees_X6_agrees rfl ⟨rfl, rfl⟩ (by decide +kernel) ⟨Nat.le_of_ble_eq_true rfl, Nat.le_of_ble_eq_true rfl⟩ fx_0 (ct_6 rfl) rfl rfl (Nat.le_of_ble_eq_true rfl) (by decide) dL_agrees_5) (fun x1 σ2 L3 α4 hα4 hn => ?_) (fun en σ5 L6 α7 hα7 hn => ?_)
  rotate_left
  · clear h
    rcases hn with ⟨rfl, hn⟩
    · rw [fO_al hα7 (k := 0) fx_0, fO_al hα7 (k := 17) fx_17]
      refine r_catch (en := 1) hC hX ([] : List ExceptionTableEntry) (⟨0, 17, 20, 21⟩ : ExceptionTableEntry) [] (by rw [htab]; rfl) (fun z hz => nomatch hz) (by decide) (by decide) kL_agrees_0 (by decide +kernel) (fun q9 => ?_)
      refine r_astoreQ (lv' := [(4, .ref q9), (0, fO α7 (some 0)), (1, .int a1), (2, .int a2), (3, fO α7 (some 17))]) hC dL_agrees_20 (by decide) rfl ?_
      refine r_iconst (v := 1) hC dL_agrees_22 (by decide) ?_
      subst hQ
      exact r_xiret hC hA hr hlk hα7 (by decide) dL_agrees_23 hn
  clear h
  revert hn
  intro h
  rw [fO_al hα4 (k := 0) fx_0, fO_al hα4 (k := 17) fx_17]
  obtain ⟨J9, hJ9, h⟩ := h
  have KJ9 : ∀ (y8 : Int64), J9 y8 → G p l e ({ frames := 7, cells := 16, slots := 2000, locals := 180 } : Room) s m args below meth c (0 + 16) (0 + 2000) Q dC dI dA (Fc ++ L3) α4 A 5 σ2 16 [] [.long y8, .int 0, fO α4 (some 17)] := by
    clear h
    intro y8 h
    replace h := hJ9 y8 h
    obtain ⟨c10, h⟩ := h
    refine r_last hC fx_17 rfl c10 dL_agrees_16 ?_
    refine r_topm (fun σ11 qσ11 => ?_)
    replace h := h σ11 qσ11
    refine r_goto (tgt := 24) hC dL_agrees_17 (by decide) ?_
    refine r_iconst (v := 0) hC dL_agrees_24 (by decide) ?_
    subst hQ
    exact r_xiret hC hA hr hlk hα4 (by decide) dL_agrees_25 h
  refine r_if_eq (tgt := 15) hC dL_agrees_8 (by decide) (fun q => ?_) (fun q => ?_)
  · replace h := h.1 q
    refine r_lconst (v := 0) hC dL_agrees_15 (by decide) ?_
    refine r_lvs [] rfl ?_
    exact KJ9 0 h
  · replace h := h.2 q
    refine r_lconst (v := 1) hC dL_agrees_11 (by decide) ?_
    refine r_goto (tgt := 16) hC dL_agrees_12 (by decide) ?_
    refine r_lvs [] rfl ?_
    exact KJ9 1 h
theorem kL_suspend_0 : (Cond.classLink RL 21 "java/lang/IndexOutOfBoundsException") ∈ wsL_suspend := by decide +kernel
set_option maxHeartbeats 4000000 in
set_option maxRecDepth 100000 in
theorem cm_L_suspend (l : Launch) (hlf : l.stackTraces = false) (dC : Nat → ClassId) (dI : Nat → Nat → Nat) (dA : Nat → ClassId) (L : List Nat) (α : Nat → Nat) (σ : Mm) (a1 : Int32) (a2 : Int32) (Qm : Int32 → Mm → List Nat → Prop) (h : wp_L_suspend L σ a1 a2 Qm) (sz : Nat) : vx_Met l yL_suspend wsL_suspend ({ frames := 7, cells := 16, slots := 2000, locals := 113 } : Room) (xP dC dI dA L α σ sz [fO α (some 0), .int a1, .int a2, fO α (some 17)]) (va_Qi (fun r u => Qm r u.1 u.2) (cX dC dI dA L α (wl dA (Fc ++ L) α σ) sz) (va_A (wl dA (Fc ++ L) α σ) sz)) (xXC dC dI dA L α (wl dA (Fc ++ L) α σ) sz (fun _ _ _ => False)) 16 2000 (va_A (wl dA (Fc ++ L) α σ) sz) := by
  refine m_wstart (own := RL) (lv := [(0, fO α (some 0)), (1, .int a1), (2, .int a2), (3, fO α (some 17))]) (by decide) rfl rfl (by simp only [lgl_O, lgl_I, lgl_J, lgl_N]; decide) (by simp only [lva_O, lva_I, lva_J, lva_N]) ?_
  intro p e s m below meth c hsz hC hr hlk htab hX
  generalize hA : va_A (wl dA (Fc ++ L) α σ) sz = A at hC hX ⊢
  have hA := hA.symm
  generalize hargs : ([fO α (some 0), .int a1, .int a2, fO α (some 17)] : List Value).toArray = args at hC ⊢
  generalize hQ : vx_MQ below _ _ args s 16 2000 A = Q
  unfold wp_L_suspend at h
  refine r_aload_n hC dL_suspend_0 rfl 3 rfl ?_
  refine r_iconst (v := 0) hC dL_suspend_1 (by decide) ?_
  refine r_aload_n hC dL_suspend_2 rfl 0 rfl ?_
  refine r_iload_n hC dL_suspend_3 rfl 1 rfl ?_
  refine r_iload_n hC dL_suspend_4 rfl 2 rfl ?_
  refine r_xcalli hC [.int 0, fO α (some 17)] (m_xrunV (R := ({ frames := 7, cells := 16, slots := 2000, locals := 113 } : Room)) (cells := 0) (slots := 0) (n := 2) (ci := 6) hC hX [.int a1, .int a2] [.int 0, fO α (some 17)] (fun sz => cm_X6_suspend l hlf dC dI dA L α σ a1 a2 _ _ h sz) gL_suspend_X6_suspend rfl ⟨rfl, rfl⟩ (by decide +kernel) ⟨Nat.le_of_ble_eq_true rfl, Nat.le_of_ble_eq_true rfl⟩ fx_0 (ct_6 rfl) rfl rfl (Nat.le_of_ble_eq_true rfl) (by decide) dL_suspend_5) (fun x1 σ2 L3 α4 hα4 hn => ?_) (fun en σ5 L6 α7 hα7 hn => ?_)
  rotate_left
  · clear h
    rcases hn with ⟨rfl, hn⟩
    · rw [fO_al hα7 (k := 0) fx_0, fO_al hα7 (k := 17) fx_17]
      refine r_catch (en := 1) hC hX ([] : List ExceptionTableEntry) (⟨0, 17, 20, 21⟩ : ExceptionTableEntry) [] (by rw [htab]; rfl) (fun z hz => nomatch hz) (by decide) (by decide) kL_suspend_0 (by decide +kernel) (fun q9 => ?_)
      refine r_astoreQ (lv' := [(4, .ref q9), (0, fO α7 (some 0)), (1, .int a1), (2, .int a2), (3, fO α7 (some 17))]) hC dL_suspend_20 (by decide) rfl ?_
      refine r_iconst (v := 1) hC dL_suspend_22 (by decide) ?_
      subst hQ
      exact r_xiret hC hA hr hlk hα7 (by decide) dL_suspend_23 hn
  clear h
  revert hn
  intro h
  rw [fO_al hα4 (k := 0) fx_0, fO_al hα4 (k := 17) fx_17]
  obtain ⟨J9, hJ9, h⟩ := h
  have KJ9 : ∀ (y8 : Int64), J9 y8 → G p l e ({ frames := 7, cells := 16, slots := 2000, locals := 113 } : Room) s m args below meth c (0 + 16) (0 + 2000) Q dC dI dA (Fc ++ L3) α4 A 5 σ2 16 [] [.long y8, .int 0, fO α4 (some 17)] := by
    clear h
    intro y8 h
    replace h := hJ9 y8 h
    obtain ⟨c10, h⟩ := h
    refine r_last hC fx_17 rfl c10 dL_suspend_16 ?_
    refine r_topm (fun σ11 qσ11 => ?_)
    replace h := h σ11 qσ11
    refine r_goto (tgt := 24) hC dL_suspend_17 (by decide) ?_
    refine r_iconst (v := 0) hC dL_suspend_24 (by decide) ?_
    subst hQ
    exact r_xiret hC hA hr hlk hα4 (by decide) dL_suspend_25 h
  refine r_if_eq (tgt := 15) hC dL_suspend_8 (by decide) (fun q => ?_) (fun q => ?_)
  · replace h := h.1 q
    refine r_lconst (v := 0) hC dL_suspend_15 (by decide) ?_
    refine r_lvs [] rfl ?_
    exact KJ9 0 h
  · replace h := h.2 q
    refine r_lconst (v := 1) hC dL_suspend_11 (by decide) ?_
    refine r_goto (tgt := 16) hC dL_suspend_12 (by decide) ?_
    refine r_lvs [] rfl ?_
    exact KJ9 1 h
theorem kL_least_0 : (Cond.classLink RL 13 "java/lang/IllegalArgumentException") ∈ wsL_least := by decide +kernel
set_option maxHeartbeats 4000000 in
set_option maxRecDepth 100000 in
theorem cm_L_least (l : Launch) (hlf : l.stackTraces = false) (dC : Nat → ClassId) (dI : Nat → Nat → Nat) (dA : Nat → ClassId) (L : List Nat) (α : Nat → Nat) (σ : Mm) (a1 : Int32) (Qm : Int32 → Mm → List Nat → Prop) (h : wp_L_least L σ a1 Qm) (sz : Nat) : vx_Met l yL_least wsL_least ({ frames := 7, cells := 16, slots := 2000, locals := 112 } : Room) (xP dC dI dA L α σ sz [fO α (some 0), .int a1, fO α (some 17)]) (va_Qi (fun r u => Qm r u.1 u.2) (cX dC dI dA L α (wl dA (Fc ++ L) α σ) sz) (va_A (wl dA (Fc ++ L) α σ) sz)) (xXC dC dI dA L α (wl dA (Fc ++ L) α σ) sz (fun _ _ _ => False)) 16 2000 (va_A (wl dA (Fc ++ L) α σ) sz) := by
  refine m_wstart (own := RL) (lv := [(0, fO α (some 0)), (1, .int a1), (2, fO α (some 17))]) (by decide) rfl rfl (by simp only [lgl_O, lgl_I, lgl_J, lgl_N]; decide) (by simp only [lva_O, lva_I, lva_J, lva_N]) ?_
  intro p e s m below meth c hsz hC hr hlk htab hX
  generalize hA : va_A (wl dA (Fc ++ L) α σ) sz = A at hC hX ⊢
  have hA := hA.symm
  generalize hargs : ([fO α (some 0), .int a1, fO α (some 17)] : List Value).toArray = args at hC ⊢
  generalize hQ : vx_MQ below _ _ args s 16 2000 A = Q
  unfold wp_L_least at h
  refine r_aload_n hC dL_least_0 rfl 2 rfl ?_
  refine r_iconst (v := 0) hC dL_least_1 (by decide) ?_
  refine r_aload_n hC dL_least_2 rfl 0 rfl ?_
  refine r_iload_n hC dL_least_3 rfl 1 rfl ?_
  refine r_xcalli hC [.int 0, fO α (some 17)] (m_xrunV (R := ({ frames := 7, cells := 16, slots := 2000, locals := 112 } : Room)) (cells := 0) (slots := 0) (n := 1) (ci := 6) hC hX [.int a1] [.int 0, fO α (some 17)] (fun sz => cm_X6_least l hlf dC dI dA L α σ a1 _ _ h sz) gL_least_X6_least rfl ⟨rfl, rfl⟩ (by decide +kernel) ⟨Nat.le_of_ble_eq_true rfl, Nat.le_of_ble_eq_true rfl⟩ fx_0 (ct_6 rfl) rfl rfl (Nat.le_of_ble_eq_true rfl) (by decide) dL_least_4) (fun x1 σ2 L3 α4 hα4 hn => ?_) (fun en σ5 L6 α7 hα7 hn => ?_)
  rotate_left
  · clear h
    rcases hn with ⟨rfl, hn⟩
    · rw [fO_al hα7 (k := 0) fx_0, fO_al hα7 (k := 17) fx_17]
      refine r_catch (en := 2) hC hX ([] : List ExceptionTableEntry) (⟨0, 9, 12, 13⟩ : ExceptionTableEntry) [] (by rw [htab]; rfl) (fun z hz => nomatch hz) (by decide) (by decide) kL_least_0 (by decide +kernel) (fun q9 => ?_)
      refine r_astoreQ_n (lv' := [(3, .ref q9), (0, fO α7 (some 0)), (1, .int a1), (2, fO α7 (some 17))]) hC dL_least_12 rfl (by decide) rfl ?_
      refine r_iconst (v := 1) hC dL_least_13 (by decide) ?_
      subst hQ
      exact r_xiret hC hA hr hlk hα7 (by decide) dL_least_14 hn
  clear h
  revert hn
  intro h
  rw [fO_al hα4 (k := 0) fx_0, fO_al hα4 (k := 17) fx_17]
  refine r_i2l hC dL_least_7 ?_
  obtain ⟨c8, h⟩ := h
  refine r_last hC fx_17 rfl c8 dL_least_8 ?_
  refine r_topm (fun σ9 qσ9 => ?_)
  replace h := h σ9 qσ9
  refine r_goto (tgt := 15) hC dL_least_9 (by decide) ?_
  refine r_iconst (v := 0) hC dL_least_15 (by decide) ?_
  subst hQ
  exact r_xiret hC hA hr hlk hα4 (by decide) dL_least_16 h
theorem kL_owed_0 : (Cond.classLink RL 21 "java/lang/IndexOutOfBoundsException") ∈ wsL_owed := by decide +kernel
set_option maxHeartbeats 4000000 in
set_option maxRecDepth 100000 in
theorem cm_L_owed (l : Launch) (hlf : l.stackTraces = false) (dC : Nat → ClassId) (dI : Nat → Nat → Nat) (dA : Nat → ClassId) (L : List Nat) (α : Nat → Nat) (σ : Mm) (a1 : Int32) (Qm : Int32 → Mm → List Nat → Prop) (h : wp_L_owed L σ a1 Qm) (sz : Nat) : vx_Met l yL_owed wsL_owed ({ frames := 7, cells := 16, slots := 2000, locals := 175 } : Room) (xP dC dI dA L α σ sz [fO α (some 0), .int a1, fO α (some 17)]) (va_Qi (fun r u => Qm r u.1 u.2) (cX dC dI dA L α (wl dA (Fc ++ L) α σ) sz) (va_A (wl dA (Fc ++ L) α σ) sz)) (xXC dC dI dA L α (wl dA (Fc ++ L) α σ) sz (fun _ _ _ => False)) 16 2000 (va_A (wl dA (Fc ++ L) α σ) sz) := by
  refine m_wstart (own := RL) (lv := [(0, fO α (some 0)), (1, .int a1), (2, fO α (some 17))]) (by decide) rfl rfl (by simp only [lgl_O, lgl_I, lgl_J, lgl_N]; decide) (by simp only [lva_O, lva_I, lva_J, lva_N]) ?_
  intro p e s m below meth c hsz hC hr hlk htab hX
  generalize hA : va_A (wl dA (Fc ++ L) α σ) sz = A at hC hX ⊢
  have hA := hA.symm
  generalize hargs : ([fO α (some 0), .int a1, fO α (some 17)] : List Value).toArray = args at hC ⊢
  generalize hQ : vx_MQ below _ _ args s 16 2000 A = Q
  unfold wp_L_owed at h
  refine r_aload_n hC dL_owed_0 rfl 2 rfl ?_
  refine r_iconst (v := 0) hC dL_owed_1 (by decide) ?_
  refine r_aload_n hC dL_owed_2 rfl 0 rfl ?_
  refine r_iload_n hC dL_owed_3 rfl 1 rfl ?_
  refine r_xcalll hC [.int 0, fO α (some 17)] (m_xrunV (R := ({ frames := 7, cells := 16, slots := 2000, locals := 175 } : Room)) (cells := 0) (slots := 0) (n := 1) (ci := 6) hC hX [.int a1] [.int 0, fO α (some 17)] (fun sz => cm_X6_owed l hlf dC dI dA L α σ a1 _ _ h sz) gL_owed_X6_owed rfl ⟨rfl, rfl⟩ (by decide +kernel) ⟨Nat.le_of_ble_eq_true rfl, Nat.le_of_ble_eq_true rfl⟩ fx_0 (ct_6 rfl) rfl rfl (Nat.le_of_ble_eq_true rfl) (by decide) dL_owed_4) (fun y1 σ2 L3 α4 hα4 hn => ?_) (fun en σ5 L6 α7 hα7 hn => ?_)
  rotate_left
  · clear h
    rcases hn with ⟨rfl, hn⟩
    · rw [fO_al hα7 (k := 0) fx_0, fO_al hα7 (k := 17) fx_17]
      refine r_catch (en := 1) hC hX ([] : List ExceptionTableEntry) (⟨0, 8, 11, 21⟩ : ExceptionTableEntry) [] (by rw [htab]; rfl) (fun z hz => nomatch hz) (by decide) (by decide) kL_owed_0 (by decide +kernel) (fun q9 => ?_)
      refine r_astoreQ_n (lv' := [(3, .ref q9), (0, fO α7 (some 0)), (1, .int a1), (2, fO α7 (some 17))]) hC dL_owed_11 rfl (by decide) rfl ?_
      refine r_iconst (v := 1) hC dL_owed_12 (by decide) ?_
      subst hQ
      exact r_xiret hC hA hr hlk hα7 (by decide) dL_owed_13 hn
  clear h
  revert hn
  intro h
  rw [fO_al hα4 (k := 0) fx_0, fO_al hα4 (k := 17) fx_17]
  obtain ⟨c8, h⟩ := h
  refine r_last hC fx_17 rfl c8 dL_owed_7 ?_
  refine r_topm (fun σ9 qσ9 => ?_)
  replace h := h σ9 qσ9
  refine r_goto (tgt := 14) hC dL_owed_8 (by decide) ?_
  refine r_iconst (v := 0) hC dL_owed_14 (by decide) ?_
  subst hQ
  exact r_xiret hC hA hr hlk hα4 (by decide) dL_owed_15 h
theorem kL_paid_0 : (Cond.classLink RL 21 "java/lang/IndexOutOfBoundsException") ∈ wsL_paid := by decide +kernel
set_option maxHeartbeats 4000000 in
set_option maxRecDepth 100000 in
theorem cm_L_paid (l : Launch) (hlf : l.stackTraces = false) (dC : Nat → ClassId) (dI : Nat → Nat → Nat) (dA : Nat → ClassId) (L : List Nat) (α : Nat → Nat) (σ : Mm) (a1 : Int32) (Qm : Int32 → Mm → List Nat → Prop) (h : wp_L_paid L σ a1 Qm) (sz : Nat) : vx_Met l yL_paid wsL_paid ({ frames := 7, cells := 16, slots := 2000, locals := 111 } : Room) (xP dC dI dA L α σ sz [fO α (some 0), .int a1, fO α (some 17)]) (va_Qi (fun r u => Qm r u.1 u.2) (cX dC dI dA L α (wl dA (Fc ++ L) α σ) sz) (va_A (wl dA (Fc ++ L) α σ) sz)) (xXC dC dI dA L α (wl dA (Fc ++ L) α σ) sz (fun _ _ _ => False)) 16 2000 (va_A (wl dA (Fc ++ L) α σ) sz) := by
  refine m_wstart (own := RL) (lv := [(0, fO α (some 0)), (1, .int a1), (2, fO α (some 17))]) (by decide) rfl rfl (by simp only [lgl_O, lgl_I, lgl_J, lgl_N]; decide) (by simp only [lva_O, lva_I, lva_J, lva_N]) ?_
  intro p e s m below meth c hsz hC hr hlk htab hX
  generalize hA : va_A (wl dA (Fc ++ L) α σ) sz = A at hC hX ⊢
  have hA := hA.symm
  generalize hargs : ([fO α (some 0), .int a1, fO α (some 17)] : List Value).toArray = args at hC ⊢
  generalize hQ : vx_MQ below _ _ args s 16 2000 A = Q
  unfold wp_L_paid at h
  refine r_aload_n hC dL_paid_0 rfl 2 rfl ?_
  refine r_iconst (v := 0) hC dL_paid_1 (by decide) ?_
  refine r_aload_n hC dL_paid_2 rfl 0 rfl ?_
  refine r_iload_n hC dL_paid_3 rfl 1 rfl ?_
  refine r_xcalll hC [.int 0, fO α (some 17)] (m_xrunV (R := ({ frames := 7, cells := 16, slots := 2000, locals := 111 } : Room)) (cells := 0) (slots := 0) (n := 1) (ci := 6) hC hX [.int a1] [.int 0, fO α (some 17)] (fun sz => cm_X6_paid l hlf dC dI dA L α σ a1 _ _ h sz) gL_paid_X6_paid rfl ⟨rfl, rfl⟩ (by decide +kernel) ⟨Nat.le_of_ble_eq_true rfl, Nat.le_of_ble_eq_true rfl⟩ fx_0 (ct_6 rfl) rfl rfl (Nat.le_of_ble_eq_true rfl) (by decide) dL_paid_4) (fun y1 σ2 L3 α4 hα4 hn => ?_) (fun en σ5 L6 α7 hα7 hn => ?_)
  rotate_left
  · clear h
    rcases hn with ⟨rfl, hn⟩
    · rw [fO_al hα7 (k := 0) fx_0, fO_al hα7 (k := 17) fx_17]
      refine r_catch (en := 1) hC hX ([] : List ExceptionTableEntry) (⟨0, 8, 11, 21⟩ : ExceptionTableEntry) [] (by rw [htab]; rfl) (fun z hz => nomatch hz) (by decide) (by decide) kL_paid_0 (by decide +kernel) (fun q9 => ?_)
      refine r_astoreQ_n (lv' := [(3, .ref q9), (0, fO α7 (some 0)), (1, .int a1), (2, fO α7 (some 17))]) hC dL_paid_11 rfl (by decide) rfl ?_
      refine r_iconst (v := 1) hC dL_paid_12 (by decide) ?_
      subst hQ
      exact r_xiret hC hA hr hlk hα7 (by decide) dL_paid_13 hn
  clear h
  revert hn
  intro h
  rw [fO_al hα4 (k := 0) fx_0, fO_al hα4 (k := 17) fx_17]
  obtain ⟨c8, h⟩ := h
  refine r_last hC fx_17 rfl c8 dL_paid_7 ?_
  refine r_topm (fun σ9 qσ9 => ?_)
  replace h := h σ9 qσ9
  refine r_goto (tgt := 14) hC dL_paid_8 (by decide) ?_
  refine r_iconst (v := 0) hC dL_paid_14 (by decide) ?_
  subst hQ
  exact r_xiret hC hA hr hlk hα4 (by decide) dL_paid_15 h
