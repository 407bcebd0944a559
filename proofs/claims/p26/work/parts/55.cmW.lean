theorem kL_pass_0 : (Cond.classLink RL 15 "java/lang/IllegalArgumentException") ∈ wsL_pass := by decide +kernel
theorem kL_pass_1 : (Cond.classLink RL 17 "java/lang/IllegalStateException") ∈ wsL_pass := by decide +kernel
set_option maxHeartbeats 4000000 in
set_option maxRecDepth 100000 in
theorem cm_L_pass (l : Launch) (hlf : l.stackTraces = false) (dC : Nat → ClassId) (dI : Nat → Nat → Nat) (dA : Nat → ClassId) (L : List Nat) (α : Nat → Nat) (σ : Mm) (a1 : Int32) (Qm : Int32 → Mm → List Nat → Prop) (h : wp_L_pass L σ a1 Qm) (sz : Nat) : vx_Met l yL_pass wsL_pass ({ frames := 7, cells := 16, slots := 2000, locals := 111 } : Room) (xP dC dI dA L α σ sz [fO α (some 0), .int a1]) (va_Qi (fun r u => Qm r u.1 u.2) (cX dC dI dA L α (wl dA (Fc ++ L) α σ) sz) (va_A (wl dA (Fc ++ L) α σ) sz)) (xXC dC dI dA L α (wl dA (Fc ++ L) α σ) sz (fun _ _ _ => False)) 16 2000 (va_A (wl dA (Fc ++ L) α σ) sz) := by
  refine m_wstart (own := RL) (lv := [(0, fO α (some 0)), (1, .int a1)]) (by decide) rfl rfl (by simp only [lgl_O, lgl_I, lgl_J, lgl_N]; decide) (by simp only [lva_O, lva_I, lva_J, lva_N]) ?_
  intro p e s m below meth c hsz hC hr hlk htab hX
  generalize hA : va_A (wl dA (Fc ++ L) α σ) sz = A at hC hX ⊢
  have hA := hA.symm
  generalize hargs : ([fO α (some 0), .int a1] : List Value).toArray = args at hC ⊢
  generalize hQ : vx_MQ below _ _ args s 16 2000 A = Q
  unfold wp_L_pass at h
  refine r_aload_n hC dL_pass_0 rfl 0 rfl ?_
  refine r_iload_n hC dL_pass_1 rfl 1 rfl ?_
  refine r_xcalli hC [] (m_xrunV (R := ({ frames := 7, cells := 16, slots := 2000, locals := 111 } : Room)) (cells := 0) (slots := 0) (n := 1) (ci := 6) hC hX [.int a1] [] (fun sz => cm_X6_pass l hlf dC dI dA L α σ a1 _ _ h sz) gL_pass_X6_pass rfl ⟨rfl, rfl⟩ (by decide +kernel) ⟨Nat.le_of_ble_eq_true rfl, Nat.le_of_ble_eq_true rfl⟩ fx_0 (ct_6 rfl) rfl rfl (Nat.le_of_ble_eq_true rfl) (by decide) dL_pass_2) (fun x1 σ2 L3 α4 hα4 hn => ?_) (fun en σ5 L6 α7 hα7 hn => ?_)
  rotate_left
  · clear h
    rcases hn with ⟨rfl, hn⟩ | ⟨rfl, hn⟩
    · rw [fO_al hα7 (k := 0) fx_0]
      refine r_catch (en := 2) hC hX ([] : List ExceptionTableEntry) (⟨0, 5, 6, 15⟩ : ExceptionTableEntry) [⟨0, 5, 10, 17⟩] (by rw [htab]; rfl) (fun z hz => nomatch hz) (by decide) (by decide) kL_pass_0 (by decide +kernel) (fun q9 => ?_)
      refine r_astoreQ_n (lv' := [(2, .ref q9), (0, fO α7 (some 0)), (1, .int a1)]) hC dL_pass_6 rfl (by decide) rfl ?_
      refine r_bipush (v := (-102)) hC dL_pass_7 (by decide) ?_
      subst hQ
      exact r_xiret hC hA hr hlk hα7 (by decide) dL_pass_9 hn
    · rw [fO_al hα7 (k := 0) fx_0]
      refine r_catch (en := 3) hC hX ([⟨0, 5, 6, 15⟩] : List ExceptionTableEntry) (⟨0, 5, 10, 17⟩ : ExceptionTableEntry) [] (by rw [htab]; rfl) (fun z hz => by rcases List.mem_singleton.mp hz with rfl; exact ⟨"java/lang/IllegalArgumentException", by decide, kL_pass_0, by decide +kernel⟩) (by decide) (by decide) kL_pass_1 (by decide +kernel) (fun q9 => ?_)
      refine r_astoreQ_n (lv' := [(2, .ref q9), (0, fO α7 (some 0)), (1, .int a1)]) hC dL_pass_10 rfl (by decide) rfl ?_
      refine r_bipush (v := (-103)) hC dL_pass_11 (by decide) ?_
      subst hQ
      exact r_xiret hC hA hr hlk hα7 (by decide) dL_pass_13 hn
  clear h
  revert hn
  intro h
  rw [fO_al hα4 (k := 0) fx_0]
  subst hQ
  exact r_xiret hC hA hr hlk hα4 (by decide) dL_pass_5 h
theorem kL_tract_0 : (Cond.classLink RL 23 "java/lang/IndexOutOfBoundsException") ∈ wsL_tract := by decide +kernel
theorem kL_tract_1 : (Cond.classLink RL 15 "java/lang/IllegalArgumentException") ∈ wsL_tract := by decide +kernel
theorem kL_tract_2 : (Cond.classLink RL 17 "java/lang/IllegalStateException") ∈ wsL_tract := by decide +kernel
set_option maxHeartbeats 4000000 in
set_option maxRecDepth 100000 in
theorem cm_L_tract (l : Launch) (hlf : l.stackTraces = false) (dC : Nat → ClassId) (dI : Nat → Nat → Nat) (dA : Nat → ClassId) (L : List Nat) (α : Nat → Nat) (σ : Mm) (a1 : Int32) (a2 : Int32) (Qm : Int32 → Mm → List Nat → Prop) (h : wp_L_tract L σ a1 a2 Qm) (sz : Nat) : vx_Met l yL_tract wsL_tract ({ frames := 7, cells := 16, slots := 2000, locals := 112 } : Room) (xP dC dI dA L α σ sz [fO α (some 0), .int a1, .int a2]) (va_Qi (fun r u => Qm r u.1 u.2) (cX dC dI dA L α (wl dA (Fc ++ L) α σ) sz) (va_A (wl dA (Fc ++ L) α σ) sz)) (xXC dC dI dA L α (wl dA (Fc ++ L) α σ) sz (fun _ _ _ => False)) 16 2000 (va_A (wl dA (Fc ++ L) α σ) sz) := by
  refine m_wstart (own := RL) (lv := [(0, fO α (some 0)), (1, .int a1), (2, .int a2)]) (by decide) rfl rfl (by simp only [lgl_O, lgl_I, lgl_J, lgl_N]; decide) (by simp only [lva_O, lva_I, lva_J, lva_N]) ?_
  intro p e s m below meth c hsz hC hr hlk htab hX
  generalize hA : va_A (wl dA (Fc ++ L) α σ) sz = A at hC hX ⊢
  have hA := hA.symm
  generalize hargs : ([fO α (some 0), .int a1, .int a2] : List Value).toArray = args at hC ⊢
  generalize hQ : vx_MQ below _ _ args s 16 2000 A = Q
  unfold wp_L_tract at h
  refine r_aload_n hC dL_tract_0 rfl 0 rfl ?_
  refine r_iload_n hC dL_tract_1 rfl 1 rfl ?_
  refine r_iload_n hC dL_tract_2 rfl 2 rfl ?_
  refine r_xcalli hC [] (m_xrunV (R := ({ frames := 7, cells := 16, slots := 2000, locals := 112 } : Room)) (cells := 0) (slots := 0) (n := 2) (ci := 6) hC hX [.int a1, .int a2] [] (fun sz => cm_X6_tract l hlf dC dI dA L α σ a1 a2 _ _ h sz) gL_tract_X6_tract rfl ⟨rfl, rfl⟩ (by decide +kernel) ⟨Nat.le_of_ble_eq_true rfl, Nat.le_of_ble_eq_true rfl⟩ fx_0 (ct_6 rfl) rfl rfl (Nat.le_of_ble_eq_true rfl) (by decide) dL_tract_3) (fun x1 σ2 L3 α4 hα4 hn => ?_) (fun en σ5 L6 α7 hα7 hn => ?_)
  rotate_left
  · clear h
    rcases hn with ⟨rfl, hn⟩ | ⟨rfl, hn⟩ | ⟨rfl, hn⟩
    · rw [fO_al hα7 (k := 0) fx_0]
      refine r_catch (en := 1) hC hX ([] : List ExceptionTableEntry) (⟨0, 6, 7, 23⟩ : ExceptionTableEntry) [⟨0, 6, 11, 15⟩, ⟨0, 6, 15, 17⟩] (by rw [htab]; rfl) (fun z hz => nomatch hz) (by decide) (by decide) kL_tract_0 (by decide +kernel) (fun q9 => ?_)
      refine r_astoreQ_n (lv' := [(3, .ref q9), (0, fO α7 (some 0)), (1, .int a1), (2, .int a2)]) hC dL_tract_7 rfl (by decide) rfl ?_
      refine r_bipush (v := (-101)) hC dL_tract_8 (by decide) ?_
      subst hQ
      exact r_xiret hC hA hr hlk hα7 (by decide) dL_tract_10 hn
    · rw [fO_al hα7 (k := 0) fx_0]
      refine r_catch (en := 2) hC hX ([⟨0, 6, 7, 23⟩] : List ExceptionTableEntry) (⟨0, 6, 11, 15⟩ : ExceptionTableEntry) [⟨0, 6, 15, 17⟩] (by rw [htab]; rfl) (fun z hz => by rcases List.mem_singleton.mp hz with rfl; exact ⟨"java/lang/IndexOutOfBoundsException", by decide, kL_tract_0, by decide +kernel⟩) (by decide) (by decide) kL_tract_1 (by decide +kernel) (fun q9 => ?_)
      refine r_astoreQ_n (lv' := [(3, .ref q9), (0, fO α7 (some 0)), (1, .int a1), (2, .int a2)]) hC dL_tract_11 rfl (by decide) rfl ?_
      refine r_bipush (v := (-102)) hC dL_tract_12 (by decide) ?_
      subst hQ
      exact r_xiret hC hA hr hlk hα7 (by decide) dL_tract_14 hn
    · rw [fO_al hα7 (k := 0) fx_0]
      refine r_catch (en := 3) hC hX ([⟨0, 6, 7, 23⟩, ⟨0, 6, 11, 15⟩] : List ExceptionTableEntry) (⟨0, 6, 15, 17⟩ : ExceptionTableEntry) [] (by rw [htab]; rfl) (fun z hz => by rcases List.mem_cons.mp hz with rfl | hz; exact ⟨"java/lang/IndexOutOfBoundsException", by decide, kL_tract_0, by decide +kernel⟩; rcases List.mem_singleton.mp hz with rfl; exact ⟨"java/lang/IllegalArgumentException", by decide, kL_tract_1, by decide +kernel⟩) (by decide) (by decide) kL_tract_2 (by decide +kernel) (fun q9 => ?_)
      refine r_astoreQ_n (lv' := [(3, .ref q9), (0, fO α7 (some 0)), (1, .int a1), (2, .int a2)]) hC dL_tract_15 rfl (by decide) rfl ?_
      refine r_bipush (v := (-103)) hC dL_tract_16 (by decide) ?_
      subst hQ
      exact r_xiret hC hA hr hlk hα7 (by decide) dL_tract_18 hn
  clear h
  revert hn
  intro h
  rw [fO_al hα4 (k := 0) fx_0]
  subst hQ
  exact r_xiret hC hA hr hlk hα4 (by decide) dL_tract_6 h
theorem kL_deed_0 : (Cond.classLink RL 23 "java/lang/IndexOutOfBoundsException") ∈ wsL_deed := by decide +kernel
theorem kL_deed_1 : (Cond.classLink RL 15 "java/lang/IllegalArgumentException") ∈ wsL_deed := by decide +kernel
theorem kL_deed_2 : (Cond.classLink RL 17 "java/lang/IllegalStateException") ∈ wsL_deed := by decide +kernel
set_option maxHeartbeats 4000000 in
set_option maxRecDepth 100000 in
theorem cm_L_deed (l : Launch) (hlf : l.stackTraces = false) (dC : Nat → ClassId) (dI : Nat → Nat → Nat) (dA : Nat → ClassId) (L : List Nat) (α : Nat → Nat) (σ : Mm) (a1 : Int32) (a2 : Int32) (a3 : Int32) (a4 : Int32) (a5 : Int32) (Qm : Int32 → Mm → List Nat → Prop) (h : wp_L_deed L σ a1 a2 a3 a4 a5 Qm) (sz : Nat) : vx_Met l yL_deed wsL_deed ({ frames := 7, cells := 16, slots := 2000, locals := 116 } : Room) (xP dC dI dA L α σ sz [fO α (some 0), .int a1, .int a2, .int a3, .int a4, .int a5]) (va_Qi (fun r u => Qm r u.1 u.2) (cX dC dI dA L α (wl dA (Fc ++ L) α σ) sz) (va_A (wl dA (Fc ++ L) α σ) sz)) (xXC dC dI dA L α (wl dA (Fc ++ L) α σ) sz (fun _ _ _ => False)) 16 2000 (va_A (wl dA (Fc ++ L) α σ) sz) := by
  refine m_wstart (own := RL) (lv := [(0, fO α (some 0)), (1, .int a1), (2, .int a2), (3, .int a3), (4, .int a4), (5, .int a5)]) (by decide) rfl rfl (by simp only [lgl_O, lgl_I, lgl_J, lgl_N]; decide) (by simp only [lva_O, lva_I, lva_J, lva_N]) ?_
  intro p e s m below meth c hsz hC hr hlk htab hX
  generalize hA : va_A (wl dA (Fc ++ L) α σ) sz = A at hC hX ⊢
  have hA := hA.symm
  generalize hargs : ([fO α (some 0), .int a1, .int a2, .int a3, .int a4, .int a5] : List Value).toArray = args at hC ⊢
  generalize hQ : vx_MQ below _ _ args s 16 2000 A = Q
  unfold wp_L_deed at h
  refine r_aload_n hC dL_deed_0 rfl 0 rfl ?_
  refine r_iload_n hC dL_deed_1 rfl 1 rfl ?_
  refine r_iload_n hC dL_deed_2 rfl 2 rfl ?_
  refine r_iload_n hC dL_deed_3 rfl 3 rfl ?_
  refine r_iload hC dL_deed_4 4 rfl ?_
  refine r_iload hC dL_deed_6 5 rfl ?_
  refine r_xcalli hC [] (m_xrunV (R := ({ frames := 7, cells := 16, slots := 2000, locals := 116 } : Room)) (cells := 0) (slots := 0) (n := 5) (ci := 6) hC hX [.int a1, .int a2, .int a3, .int a4, .int a5] [] (fun sz => cm_X6_deed l hlf dC dI dA L α σ a1 a2 a3 a4 a5 _ _ h sz) gL_deed_X6_deed rfl ⟨rfl, rfl⟩ (by decide +kernel) ⟨Nat.le_of_ble_eq_true rfl, Nat.le_of_ble_eq_true rfl⟩ fx_0 (ct_6 rfl) rfl rfl (Nat.le_of_ble_eq_true rfl) (by decide) dL_deed_8) (fun x1 σ2 L3 α4 hα4 hn => ?_) (fun en σ5 L6 α7 hα7 hn => ?_)
  rotate_left
  · clear h
    rcases hn with ⟨rfl, hn⟩ | ⟨rfl, hn⟩ | ⟨rfl, hn⟩
    · rw [fO_al hα7 (k := 0) fx_0]
      refine r_catch (en := 1) hC hX ([] : List ExceptionTableEntry) (⟨0, 11, 12, 23⟩ : ExceptionTableEntry) [⟨0, 11, 17, 15⟩, ⟨0, 11, 22, 17⟩] (by rw [htab]; rfl) (fun z hz => nomatch hz) (by decide) (by decide) kL_deed_0 (by decide +kernel) (fun q9 => ?_)
      refine r_astoreQ (lv' := [(6, .ref q9), (0, fO α7 (some 0)), (1, .int a1), (2, .int a2), (3, .int a3), (4, .int a4), (5, .int a5)]) hC dL_deed_12 (by decide) rfl ?_
      refine r_bipush (v := (-101)) hC dL_deed_14 (by decide) ?_
      subst hQ
      exact r_xiret hC hA hr hlk hα7 (by decide) dL_deed_16 hn
    · rw [fO_al hα7 (k := 0) fx_0]
      refine r_catch (en := 2) hC hX ([⟨0, 11, 12, 23⟩] : List ExceptionTableEntry) (⟨0, 11, 17, 15⟩ : ExceptionTableEntry) [⟨0, 11, 22, 17⟩] (by rw [htab]; rfl) (fun z hz => by rcases List.mem_singleton.mp hz with rfl; exact ⟨"java/lang/IndexOutOfBoundsException", by decide, kL_deed_0, by decide +kernel⟩) (by decide) (by decide) kL_deed_1 (by decide +kernel) (fun q9 => ?_)
      refine r_astoreQ (lv' := [(6, .ref q9), (0, fO α7 (some 0)), (1, .int a1), (2, .int a2), (3, .int a3), (4, .int a4), (5, .int a5)]) hC dL_deed_17 (by decide) rfl ?_
      refine r_bipush (v := (-102)) hC dL_deed_19 (by decide) ?_
      subst hQ
      exact r_xiret hC hA hr hlk hα7 (by decide) dL_deed_21 hn
    · rw [fO_al hα7 (k := 0) fx_0]
      refine r_catch (en := 3) hC hX ([⟨0, 11, 12, 23⟩, ⟨0, 11, 17, 15⟩] : List ExceptionTableEntry) (⟨0, 11, 22, 17⟩ : ExceptionTableEntry) [] (by rw [htab]; rfl) (fun z hz => by rcases List.mem_cons.mp hz with rfl | hz; exact ⟨"java/lang/IndexOutOfBoundsException", by decide, kL_deed_0, by decide +kernel⟩; rcases List.mem_singleton.mp hz with rfl; exact ⟨"java/lang/IllegalArgumentException", by decide, kL_deed_1, by decide +kernel⟩) (by decide) (by decide) kL_deed_2 (by decide +kernel) (fun q9 => ?_)
      refine r_astoreQ (lv' := [(6, .ref q9), (0, fO α7 (some 0)), (1, .int a1), (2, .int a2), (3, .int a3), (4, .int a4), (5, .int a5)]) hC dL_deed_22 (by decide) rfl ?_
      refine r_bipush (v := (-103)) hC dL_deed_24 (by decide) ?_
      subst hQ
      exact r_xiret hC hA hr hlk hα7 (by decide) dL_deed_26 hn
  clear h
  revert hn
  intro h
  rw [fO_al hα4 (k := 0) fx_0]
  subst hQ
  exact r_xiret hC hA hr hlk hα4 (by decide) dL_deed_11 h
theorem kL_title_0 : (Cond.classLink RL 23 "java/lang/IndexOutOfBoundsException") ∈ wsL_title := by decide +kernel
set_option maxHeartbeats 4000000 in
set_option maxRecDepth 100000 in
theorem cm_L_title (l : Launch) (hlf : l.stackTraces = false) (dC : Nat → ClassId) (dI : Nat → Nat → Nat) (dA : Nat → ClassId) (L : List Nat) (α : Nat → Nat) (σ : Mm) (a1 : Int32) (a2 : Int32) (a3 : Int32) (Qm : Int32 → Mm → List Nat → Prop) (h : wp_L_title L σ a1 a2 a3 Qm) (sz : Nat) : vx_Met l yL_title wsL_title ({ frames := 7, cells := 16, slots := 2000, locals := 114 } : Room) (xP dC dI dA L α σ sz [fO α (some 0), .int a1, .int a2, .int a3]) (va_Qi (fun r u => Qm r u.1 u.2) (cX dC dI dA L α (wl dA (Fc ++ L) α σ) sz) (va_A (wl dA (Fc ++ L) α σ) sz)) (xXC dC dI dA L α (wl dA (Fc ++ L) α σ) sz (fun _ _ _ => False)) 16 2000 (va_A (wl dA (Fc ++ L) α σ) sz) := by
  refine m_wstart (own := RL) (lv := [(0, fO α (some 0)), (1, .int a1), (2, .int a2), (3, .int a3)]) (by decide) rfl rfl (by simp only [lgl_O, lgl_I, lgl_J, lgl_N]; decide) (by simp only [lva_O, lva_I, lva_J, lva_N]) ?_
  intro p e s m below meth c hsz hC hr hlk htab hX
  generalize hA : va_A (wl dA (Fc ++ L) α σ) sz = A at hC hX ⊢
  have hA := hA.symm
  generalize hargs : ([fO α (some 0), .int a1, .int a2, .int a3] : List Value).toArray = args at hC ⊢
  generalize hQ : vx_MQ below _ _ args s 16 2000 A = Q
  unfold wp_L_title at h
  refine r_aload_n hC dL_title_0 rfl 0 rfl ?_
  refine r_iload_n hC dL_title_1 rfl 1 rfl ?_
  refine r_iload_n hC dL_title_2 rfl 2 rfl ?_
  refine r_iload_n hC dL_title_3 rfl 3 rfl ?_
  refine r_xcalli hC [] (m_xrunV (R := ({ frames := 7, cells := 16, slots := 2000, locals := 114 } : Room)) (cells := 0) (slots := 0) (n := 3) (ci := 6) hC hX [.int a1, .int a2, .int a3] [] (fun sz => cm_X6_title l hlf dC dI dA L α σ a1 a2 a3 _ _ h sz) gL_title_X6_title rfl ⟨rfl, rfl⟩ (by decide +kernel) ⟨Nat.le_of_ble_eq_true rfl, Nat.le_of_ble_eq_true rfl⟩ fx_0 (ct_6 rfl) rfl rfl (Nat.le_of_ble_eq_true rfl) (by decide) dL_title_4) (fun x1 σ2 L3 α4 hα4 hn => ?_) (fun en σ5 L6 α7 hα7 hn => ?_)
  rotate_left
  · clear h
    rcases hn with ⟨rfl, hn⟩
    · rw [fO_al hα7 (k := 0) fx_0]
      refine r_catch (en := 1) hC hX ([] : List ExceptionTableEntry) (⟨0, 7, 8, 23⟩ : ExceptionTableEntry) [] (by rw [htab]; rfl) (fun z hz => nomatch hz) (by decide) (by decide) kL_title_0 (by decide +kernel) (fun q9 => ?_)
      refine r_astoreQ (lv' := [(4, .ref q9), (0, fO α7 (some 0)), (1, .int a1), (2, .int a2), (3, .int a3)]) hC dL_title_8 (by decide) rfl ?_
      refine r_bipush (v := (-101)) hC dL_title_10 (by decide) ?_
      subst hQ
      exact r_xiret hC hA hr hlk hα7 (by decide) dL_title_12 hn
  clear h
  revert hn
  intro h
  rw [fO_al hα4 (k := 0) fx_0]
  subst hQ
  exact r_xiret hC hA hr hlk hα4 (by decide) dL_title_7 h
theorem kL_lease_0 : (Cond.classLink RL 23 "java/lang/IndexOutOfBoundsException") ∈ wsL_lease := by decide +kernel
theorem kL_lease_1 : (Cond.classLink RL 15 "java/lang/IllegalArgumentException") ∈ wsL_lease := by decide +kernel
theorem kL_lease_2 : (Cond.classLink RL 17 "java/lang/IllegalStateException") ∈ wsL_lease := by decide +kernel
set_option maxHeartbeats 4000000 in
set_option maxRecDepth 100000 in
theorem cm_L_lease (l : Launch) (hlf : l.stackTraces = false) (dC : Nat → ClassId) (dI : Nat → Nat → Nat) (dA : Nat → ClassId) (L : List Nat) (α : Nat → Nat) (σ : Mm) (a1 : Int32) (a2 : Int32) (a3 : Int32) (a4 : Int32) (a5 : Int32) (Qm : Int32 → Mm → List Nat → Prop) (h : wp_L_lease L σ a1 a2 a3 a4 a5 Qm) (sz : Nat) : vx_Met l yL_lease wsL_lease ({ frames := 7, cells := 16, slots := 2000, locals := 117 } : Room) (xP dC dI dA L α σ sz [fO α (some 0), .int a1, .int a2, .int a3, .int a4, .int a5]) (va_Qi (fun r u => Qm r u.1 u.2) (cX dC dI dA L α (wl dA (Fc ++ L) α σ) sz) (va_A (wl dA (Fc ++ L) α σ) sz)) (xXC dC dI dA L α (wl dA (Fc ++ L) α σ) sz (fun _ _ _ => False)) 16 2000 (va_A (wl dA (Fc ++ L) α σ) sz) := by
  refine m_wstart (own := RL) (lv := [(0, fO α (some 0)), (1, .int a1), (2, .int a2), (3, .int a3), (4, .int a4), (5, .int a5)]) (by decide) rfl rfl (by simp only [lgl_O, lgl_I, lgl_J, lgl_N]; decide) (by simp only [lva_O, lva_I, lva_J, lva_N]) ?_
  intro p e s m below meth c hsz hC hr hlk htab hX
  generalize hA : va_A (wl dA (Fc ++ L) α σ) sz = A at hC hX ⊢
  have hA := hA.symm
  generalize hargs : ([fO α (some 0), .int a1, .int a2, .int a3, .int a4, .int a5] : List Value).toArray = args at hC ⊢
  generalize hQ : vx_MQ below _ _ args s 16 2000 A = Q
  unfold wp_L_lease at h
  refine r_aload_n hC dL_lease_0 rfl 0 rfl ?_
  refine r_iload_n hC dL_lease_1 rfl 1 rfl ?_
  refine r_iload_n hC dL_lease_2 rfl 2 rfl ?_
  refine r_iload_n hC dL_lease_3 rfl 3 rfl ?_
  refine r_iload hC dL_lease_4 4 rfl ?_
  refine r_iload hC dL_lease_6 5 rfl ?_
  refine r_xcalli hC [] (m_xrunV (R := ({ frames := 7, cells := 16, slots := 2000, locals := 117 } : Room)) (cells := 0) (slots := 0) (n := 5) (ci := 6) hC hX [.int a1, .int a2, .int a3, .int a4, .int a5] [] (fun sz => cm_X6_lease l hlf dC dI dA L α σ a1 a2 a3 a4 a5 _ _ h sz) gL_lease_X6_lease rfl ⟨rfl, rfl⟩ (by decide +kernel) ⟨Nat.le_of_ble_eq_true rfl, Nat.le_of_ble_eq_true rfl⟩ fx_0 (ct_6 rfl) rfl rfl (Nat.le_of_ble_eq_true rfl) (by decide) dL_lease_8) (fun x1 σ2 L3 α4 hα4 hn => ?_) (fun en σ5 L6 α7 hα7 hn => ?_)
  rotate_left
  · clear h
    rcases hn with ⟨rfl, hn⟩ | ⟨rfl, hn⟩ | ⟨rfl, hn⟩
    · rw [fO_al hα7 (k := 0) fx_0]
      refine r_catch (en := 1) hC hX ([] : List ExceptionTableEntry) (⟨0, 11, 12, 23⟩ : ExceptionTableEntry) [⟨0, 11, 17, 15⟩, ⟨0, 11, 22, 17⟩] (by rw [htab]; rfl) (fun z hz => nomatch hz) (by decide) (by decide) kL_lease_0 (by decide +kernel) (fun q9 => ?_)
      refine r_astoreQ (lv' := [(6, .ref q9), (0, fO α7 (some 0)), (1, .int a1), (2, .int a2), (3, .int a3), (4, .int a4), (5, .int a5)]) hC dL_lease_12 (by decide) rfl ?_
      refine r_bipush (v := (-101)) hC dL_lease_14 (by decide) ?_
      subst hQ
      exact r_xiret hC hA hr hlk hα7 (by decide) dL_lease_16 hn
    · rw [fO_al hα7 (k := 0) fx_0]
      refine r_catch (en := 2) hC hX ([⟨0, 11, 12, 23⟩] : List ExceptionTableEntry) (⟨0, 11, 17, 15⟩ : ExceptionTableEntry) [⟨0, 11, 22, 17⟩] (by rw [htab]; rfl) (fun z hz => by rcases List.mem_singleton.mp hz with rfl; exact ⟨"java/lang/IndexOutOfBoundsException", by decide, kL_lease_0, by decide +kernel⟩) (by decide) (by decide) kL_lease_1 (by decide +kernel) (fun q9 => ?_)
      refine r_astoreQ (lv' := [(6, .ref q9), (0, fO α7 (some 0)), (1, .int a1), (2, .int a2), (3, .int a3), (4, .int a4), (5, .int a5)]) hC dL_lease_17 (by decide) rfl ?_
      refine r_bipush (v := (-102)) hC dL_lease_19 (by decide) ?_
      subst hQ
      exact r_xiret hC hA hr hlk hα7 (by decide) dL_lease_21 hn
    · rw [fO_al hα7 (k := 0) fx_0]
      refine r_catch (en := 3) hC hX ([⟨0, 11, 12, 23⟩, ⟨0, 11, 17, 15⟩] : List ExceptionTableEntry) (⟨0, 11, 22, 17⟩ : ExceptionTableEntry) [] (by rw [htab]; rfl) (fun z hz => by rcases List.mem_cons.mp hz with rfl | hz; exact ⟨"java/lang/IndexOutOfBoundsException", by decide, kL_lease_0, by decide +kernel⟩; rcases List.mem_singleton.mp hz with rfl; exact ⟨"java/lang/IllegalArgumentException", by decide, kL_lease_1, by decide +kernel⟩) (by decide) (by decide) kL_lease_2 (by decide +kernel) (fun q9 => ?_)
      refine r_astoreQ (lv' := [(6, .ref q9), (0, fO α7 (some 0)), (1, .int a1), (2, .int a2), (3, .int a3), (4, .int a4), (5, .int a5)]) hC dL_lease_22 (by decide) rfl ?_
      refine r_bipush (v := (-103)) hC dL_lease_24 (by decide) ?_
      subst hQ
      exact r_xiret hC hA hr hlk hα7 (by decide) dL_lease_26 hn
  clear h
  revert hn
  intro h
  rw [fO_al hα4 (k := 0) fx_0]
  subst hQ
  exact r_xiret hC hA hr hlk hα4 (by decide) dL_lease_11 h
theorem kL_unit_0 : (Cond.classLink RL 15 "java/lang/IllegalArgumentException") ∈ wsL_unit := by decide +kernel
theorem kL_unit_1 : (Cond.classLink RL 17 "java/lang/IllegalStateException") ∈ wsL_unit := by decide +kernel
set_option maxHeartbeats 4000000 in
set_option maxRecDepth 100000 in
theorem cm_L_unit (l : Launch) (hlf : l.stackTraces = false) (dC : Nat → ClassId) (dI : Nat → Nat → Nat) (dA : Nat → ClassId) (L : List Nat) (α : Nat → Nat) (σ : Mm) (a1 : Int32) (Qm : Int32 → Mm → List Nat → Prop) (h : wp_L_unit L σ a1 Qm) (sz : Nat) : vx_Met l yL_unit wsL_unit ({ frames := 7, cells := 16, slots := 2000, locals := 114 } : Room) (xP dC dI dA L α σ sz [fO α (some 0), .int a1]) (va_Qi (fun r u => Qm r u.1 u.2) (cX dC dI dA L α (wl dA (Fc ++ L) α σ) sz) (va_A (wl dA (Fc ++ L) α σ) sz)) (xXC dC dI dA L α (wl dA (Fc ++ L) α σ) sz (fun _ _ _ => False)) 16 2000 (va_A (wl dA (Fc ++ L) α σ) sz) := by
  refine m_wstart (own := RL) (lv := [(0, fO α (some 0)), (1, .int a1)]) (by decide) rfl rfl (by simp only [lgl_O, lgl_I, lgl_J, lgl_N]; decide) (by simp only [lva_O, lva_I, lva_J, lva_N]) ?_
  intro p e s m below meth c hsz hC hr hlk htab hX
  generalize hA : va_A (wl dA (Fc ++ L) α σ) sz = A at hC hX ⊢
  have hA := hA.symm
  generalize hargs : ([fO α (some 0), .int a1] : List Value).toArray = args at hC ⊢
  generalize hQ : vx_MQ below _ _ args s 16 2000 A = Q
  unfold wp_L_unit at h
  refine r_aload_n hC dL_unit_0 rfl 0 rfl ?_
  refine r_iload_n hC dL_unit_1 rfl 1 rfl ?_
  refine r_xcalli hC [] (m_xrunV (R := ({ frames := 7, cells := 16, slots := 2000, locals := 114 } : Room)) (cells := 0) (slots := 0) (n := 1) (ci := 6) hC hX [.int a1] [] (fun sz => cm_X6_unit l hlf dC dI dA L α σ a1 _ _ h sz) gL_unit_X6_unit rfl ⟨rfl, rfl⟩ (by decide +kernel) ⟨Nat.le_of_ble_eq_true rfl, Nat.le_of_ble_eq_true rfl⟩ fx_0 (ct_6 rfl) rfl rfl (Nat.le_of_ble_eq_true rfl) (by decide) dL_unit_2) (fun x1 σ2 L3 α4 hα4 hn => ?_) (fun en σ5 L6 α7 hα7 hn => ?_)
  rotate_left
  · clear h
    rcases hn with ⟨rfl, hn⟩ | ⟨rfl, hn⟩
    · rw [fO_al hα7 (k := 0) fx_0]
      refine r_catch (en := 2) hC hX ([] : List ExceptionTableEntry) (⟨0, 5, 6, 15⟩ : ExceptionTableEntry) [⟨0, 5, 10, 17⟩] (by rw [htab]; rfl) (fun z hz => nomatch hz) (by decide) (by decide) kL_unit_0 (by decide +kernel) (fun q9 => ?_)
      refine r_astoreQ_n (lv' := [(2, .ref q9), (0, fO α7 (some 0)), (1, .int a1)]) hC dL_unit_6 rfl (by decide) rfl ?_
      refine r_bipush (v := (-102)) hC dL_unit_7 (by decide) ?_
      subst hQ
      exact r_xiret hC hA hr hlk hα7 (by decide) dL_unit_9 hn
    · rw [fO_al hα7 (k := 0) fx_0]
      refine r_catch (en := 3) hC hX ([⟨0, 5, 6, 15⟩] : List ExceptionTableEntry) (⟨0, 5, 10, 17⟩ : ExceptionTableEntry) [] (by rw [htab]; rfl) (fun z hz => by rcases List.mem_singleton.mp hz with rfl; exact ⟨"java/lang/IllegalArgumentException", by decide, kL_unit_0, by decide +kernel⟩) (by decide) (by decide) kL_unit_1 (by decide +kernel) (fun q9 => ?_)
      refine r_astoreQ_n (lv' := [(2, .ref q9), (0, fO α7 (some 0)), (1, .int a1)]) hC dL_unit_10 rfl (by decide) rfl ?_
      refine r_bipush (v := (-103)) hC dL_unit_11 (by decide) ?_
      subst hQ
      exact r_xiret hC hA hr hlk hα7 (by decide) dL_unit_13 hn
  clear h
  revert hn
  intro h
  rw [fO_al hα4 (k := 0) fx_0]
  subst hQ
  exact r_xiret hC hA hr hlk hα4 (by decide) dL_unit_5 h
theorem kL_well_0 : (Cond.classLink RL 23 "java/lang/IndexOutOfBoundsException") ∈ wsL_well := by decide +kernel
theorem kL_well_1 : (Cond.classLink RL 17 "java/lang/IllegalStateException") ∈ wsL_well := by decide +kernel
set_option maxHeartbeats 4000000 in
set_option maxRecDepth 100000 in
theorem cm_L_well (l : Launch) (hlf : l.stackTraces = false) (dC : Nat → ClassId) (dI : Nat → Nat → Nat) (dA : Nat → ClassId) (L : List Nat) (α : Nat → Nat) (σ : Mm) (a1 : Int32) (Qm : Int32 → Mm → List Nat → Prop) (h : wp_L_well L σ a1 Qm) (sz : Nat) : vx_Met l yL_well wsL_well ({ frames := 7, cells := 16, slots := 2000, locals := 112 } : Room) (xP dC dI dA L α σ sz [fO α (some 0), .int a1]) (va_Qi (fun r u => Qm r u.1 u.2) (cX dC dI dA L α (wl dA (Fc ++ L) α σ) sz) (va_A (wl dA (Fc ++ L) α σ) sz)) (xXC dC dI dA L α (wl dA (Fc ++ L) α σ) sz (fun _ _ _ => False)) 16 2000 (va_A (wl dA (Fc ++ L) α σ) sz) := by
  refine m_wstart (own := RL) (lv := [(0, fO α (some 0)), (1, .int a1)]) (by decide) rfl rfl (by simp only [lgl_O, lgl_I, lgl_J, lgl_N]; decide) (by simp only [lva_O, lva_I, lva_J, lva_N]) ?_
  intro p e s m below meth c hsz hC hr hlk htab hX
  generalize hA : va_A (wl dA (Fc ++ L) α σ) sz = A at hC hX ⊢
  have hA := hA.symm
  generalize hargs : ([fO α (some 0), .int a1] : List Value).toArray = args at hC ⊢
  generalize hQ : vx_MQ below _ _ args s 16 2000 A = Q
  unfold wp_L_well at h
  refine r_aload_n hC dL_well_0 rfl 0 rfl ?_
  refine r_iload_n hC dL_well_1 rfl 1 rfl ?_
  refine r_xcalli hC [] (m_xrunV (R := ({ frames := 7, cells := 16, slots := 2000, locals := 112 } : Room)) (cells := 0) (slots := 0) (n := 1) (ci := 6) hC hX [.int a1] [] (fun sz => cm_X6_well l hlf dC dI dA L α σ a1 _ _ h sz) gL_well_X6_well rfl ⟨rfl, rfl⟩ (by decide +kernel) ⟨Nat.le_of_ble_eq_true rfl, Nat.le_of_ble_eq_true rfl⟩ fx_0 (ct_6 rfl) rfl rfl (Nat.le_of_ble_eq_true rfl) (by decide) dL_well_2) (fun x1 σ2 L3 α4 hα4 hn => ?_) (fun en σ5 L6 α7 hα7 hn => ?_)
  rotate_left
  · clear h
    rcases hn with ⟨rfl, hn⟩ | ⟨rfl, hn⟩
    · rw [fO_al hα7 (k := 0) fx_0]
      refine r_catch (en := 1) hC hX ([] : List ExceptionTableEntry) (⟨0, 5, 6, 23⟩ : ExceptionTableEntry) [⟨0, 5, 10, 17⟩] (by rw [htab]; rfl) (fun z hz => nomatch hz) (by decide) (by decide) kL_well_0 (by decide +kernel) (fun q9 => ?_)
      refine r_astoreQ_n (lv' := [(2, .ref q9), (0, fO α7 (some 0)), (1, .int a1)]) hC dL_well_6 rfl (by decide) rfl ?_
      refine r_bipush (v := (-101)) hC dL_well_7 (by decide) ?_
      subst hQ
      exact r_xiret hC hA hr hlk hα7 (by decide) dL_well_9 hn
    · rw [fO_al hα7 (k := 0) fx_0]
      refine r_catch (en := 3) hC hX ([⟨0, 5, 6, 23⟩] : List ExceptionTableEntry) (⟨0, 5, 10, 17⟩ : ExceptionTableEntry) [] (by rw [htab]; rfl) (fun z hz => by rcases List.mem_singleton.mp hz with rfl; exact ⟨"java/lang/IndexOutOfBoundsException", by decide, kL_well_0, by decide +kernel⟩) (by decide) (by decide) kL_well_1 (by decide +kernel) (fun q9 => ?_)
      refine r_astoreQ_n (lv' := [(2, .ref q9), (0, fO α7 (some 0)), (1, .int a1)]) hC dL_well_10 rfl (by decide) rfl ?_
      refine r_bipush (v := (-103)) hC dL_well_11 (by decide) ?_
      subst hQ
      exact r_xiret hC hA hr hlk hα7 (by decide) dL_well_13 hn
  clear h
  revert hn
  intro h
  rw [fO_al hα4 (k := 0) fx_0]
  subst hQ
  exact r_xiret hC hA hr hlk hα4 (by decide) dL_well_5 h
theorem kL_oil_0 : (Cond.classLink RL 23 "java/lang/IndexOutOfBoundsException") ∈ wsL_oil := by decide +kernel
theorem kL_oil_1 : (Cond.classLink RL 15 "java/lang/IllegalArgumentException") ∈ wsL_oil := by decide +kernel
theorem kL_oil_2 : (Cond.classLink RL 17 "java/lang/IllegalStateException") ∈ wsL_oil := by decide +kernel
set_option maxHeartbeats 4000000 in
set_option maxRecDepth 100000 in
theorem cm_L_oil (l : Launch) (hlf : l.stackTraces = false) (dC : Nat → ClassId) (dI : Nat → Nat → Nat) (dA : Nat → ClassId) (L : List Nat) (α : Nat → Nat) (σ : Mm) (a1 : Int32) (a2 : Int32) (a3 : Int32) (a4 : Int32) (Qm : Int32 → Mm → List Nat → Prop) (h : wp_L_oil L σ a1 a2 a3 a4 Qm) (sz : Nat) : vx_Met l yL_oil wsL_oil ({ frames := 7, cells := 16, slots := 2000, locals := 116 } : Room) (xP dC dI dA L α σ sz [fO α (some 0), .int a1, .int a2, .int a3, .int a4]) (va_Qi (fun r u => Qm r u.1 u.2) (cX dC dI dA L α (wl dA (Fc ++ L) α σ) sz) (va_A (wl dA (Fc ++ L) α σ) sz)) (xXC dC dI dA L α (wl dA (Fc ++ L) α σ) sz (fun _ _ _ => False)) 16 2000 (va_A (wl dA (Fc ++ L) α σ) sz) := by
  refine m_wstart (own := RL) (lv := [(0, fO α (some 0)), (1, .int a1), (2, .int a2), (3, .int a3), (4, .int a4)]) (by decide) rfl rfl (by simp only [lgl_O, lgl_I, lgl_J, lgl_N]; decide) (by simp only [lva_O, lva_I, lva_J, lva_N]) ?_
  intro p e s m below meth c hsz hC hr hlk htab hX
  generalize hA : va_A (wl dA (Fc ++ L) α σ) sz = A at hC hX ⊢
  have hA := hA.symm
  generalize hargs : ([fO α (some 0), .int a1, .int a2, .int a3, .int a4] : List Value).toArray = args at hC ⊢
  generalize hQ : vx_MQ below _ _ args s 16 2000 A = Q
  unfold wp_L_oil at h
  refine r_aload_n hC dL_oil_0 rfl 0 rfl ?_
  refine r_iload_n hC dL_oil_1 rfl 1 rfl ?_
  refine r_iload_n hC dL_oil_2 rfl 2 rfl ?_
  refine r_iload_n hC dL_oil_3 rfl 3 rfl ?_
  refine r_iload hC dL_oil_4 4 rfl ?_
  refine r_xcalli hC [] (m_xrunV (R := ({ frames := 7, cells := 16, slots := 2000, locals := 116 } : Room)) (cells := 0) (slots := 0) (n := 4) (ci := 6) hC hX [.int a1, .int a2, .int a3, .int a4] [] (fun sz => cm_X6_oil l hlf dC dI dA L α σ a1 a2 a3 a4 _ _ h sz) gL_oil_X6_oil rfl ⟨rfl, rfl⟩ (by decide +kernel) ⟨Nat.le_of_ble_eq_true rfl, Nat.le_of_ble_eq_true rfl⟩ fx_0 (ct_6 rfl) rfl rfl (Nat.le_of_ble_eq_true rfl) (by decide) dL_oil_6) (fun x1 σ2 L3 α4 hα4 hn => ?_) (fun en σ5 L6 α7 hα7 hn => ?_)
  rotate_left
  · clear h
    rcases hn with ⟨rfl, hn⟩ | ⟨rfl, hn⟩ | ⟨rfl, hn⟩
    · rw [fO_al hα7 (k := 0) fx_0]
      refine r_catch (en := 1) hC hX ([] : List ExceptionTableEntry) (⟨0, 9, 10, 23⟩ : ExceptionTableEntry) [⟨0, 9, 15, 15⟩, ⟨0, 9, 20, 17⟩] (by rw [htab]; rfl) (fun z hz => nomatch hz) (by decide) (by decide) kL_oil_0 (by decide +kernel) (fun q9 => ?_)
      refine r_astoreQ (lv' := [(5, .ref q9), (0, fO α7 (some 0)), (1, .int a1), (2, .int a2), (3, .int a3), (4, .int a4)]) hC dL_oil_10 (by decide) rfl ?_
      refine r_bipush (v := (-101)) hC dL_oil_12 (by decide) ?_
      subst hQ
      exact r_xiret hC hA hr hlk hα7 (by decide) dL_oil_14 hn
    · rw [fO_al hα7 (k := 0) fx_0]
      refine r_catch (en := 2) hC hX ([⟨0, 9, 10, 23⟩] : List ExceptionTableEntry) (⟨0, 9, 15, 15⟩ : ExceptionTableEntry) [⟨0, 9, 20, 17⟩] (by rw [htab]; rfl) (fun z hz => by rcases List.mem_singleton.mp hz with rfl; exact ⟨"java/lang/IndexOutOfBoundsException", by decide, kL_oil_0, by decide +kernel⟩) (by decide) (by decide) kL_oil_1 (by decide +kernel) (fun q9 => ?_)
      refine r_astoreQ (lv' := [(5, .ref q9), (0, fO α7 (some 0)), (1, .int a1), (2, .int a2), (3, .int a3), (4, .int a4)]) hC dL_oil_15 (by decide) rfl ?_
      refine r_bipush (v := (-102)) hC dL_oil_17 (by decide) ?_
      subst hQ
      exact r_xiret hC hA hr hlk hα7 (by decide) dL_oil_19 hn
    · rw [fO_al hα7 (k := 0) fx_0]
      refine r_catch (en := 3) hC hX ([⟨0, 9, 10, 23⟩, ⟨0, 9, 15, 15⟩] : List ExceptionTableEntry) (⟨0, 9, 20, 17⟩ : ExceptionTableEntry) [] (by rw [htab]; rfl) (fun z hz => by rcases List.mem_cons.mp hz with rfl | hz; exact ⟨"java/lang/IndexOutOfBoundsException", by decide, kL_oil_0, by decide +kernel⟩; rcases List.mem_singleton.mp hz with rfl; exact ⟨"java/lang/IllegalArgumentException", by decide, kL_oil_1, by decide +kernel⟩) (by decide) (by decide) kL_oil_2 (by decide +kernel) (fun q9 => ?_)
      refine r_astoreQ (lv' := [(5, .ref q9), (0, fO α7 (some 0)), (1, .int a1), (2, .int a2), (3, .int a3), (4, .int a4)]) hC dL_oil_20 (by decide) rfl ?_
      refine r_bipush (v := (-103)) hC dL_oil_22 (by decide) ?_
      subst hQ
      exact r_xiret hC hA hr hlk hα7 (by decide) dL_oil_24 hn
  clear h
  revert hn
  intro h
  rw [fO_al hα4 (k := 0) fx_0]
  subst hQ
  exact r_xiret hC hA hr hlk hα4 (by decide) dL_oil_9 h
theorem kL_cost_0 : (Cond.classLink RL 23 "java/lang/IndexOutOfBoundsException") ∈ wsL_cost := by decide +kernel
theorem kL_cost_1 : (Cond.classLink RL 15 "java/lang/IllegalArgumentException") ∈ wsL_cost := by decide +kernel
theorem kL_cost_2 : (Cond.classLink RL 17 "java/lang/IllegalStateException") ∈ wsL_cost := by decide +kernel
set_option maxHeartbeats 4000000 in
set_option maxRecDepth 100000 in
theorem cm_L_cost (l : Launch) (hlf : l.stackTraces = false) (dC : Nat → ClassId) (dI : Nat → Nat → Nat) (dA : Nat → ClassId) (L : List Nat) (α : Nat → Nat) (σ : Mm) (a1 : Int32) (a2 : Int32) (a3 : Int32) (Qm : Int32 → Mm → List Nat → Prop) (h : wp_L_cost L σ a1 a2 a3 Qm) (sz : Nat) : vx_Met l yL_cost wsL_cost ({ frames := 7, cells := 16, slots := 2000, locals := 114 } : Room) (xP dC dI dA L α σ sz [fO α (some 0), .int a1, .int a2, .int a3]) (va_Qi (fun r u => Qm r u.1 u.2) (cX dC dI dA L α (wl dA (Fc ++ L) α σ) sz) (va_A (wl dA (Fc ++ L) α σ) sz)) (xXC dC dI dA L α (wl dA (Fc ++ L) α σ) sz (fun _ _ _ => False)) 16 2000 (va_A (wl dA (Fc ++ L) α σ) sz) := by
  refine m_wstart (own := RL) (lv := [(0, fO α (some 0)), (1, .int a1), (2, .int a2), (3, .int a3)]) (by decide) rfl rfl (by simp only [lgl_O, lgl_I, lgl_J, lgl_N]; decide) (by simp only [lva_O, lva_I, lva_J, lva_N]) ?_
  intro p e s m below meth c hsz hC hr hlk htab hX
  generalize hA : va_A (wl dA (Fc ++ L) α σ) sz = A at hC hX ⊢
  have hA := hA.symm
  generalize hargs : ([fO α (some 0), .int a1, .int a2, .int a3] : List Value).toArray = args at hC ⊢
  generalize hQ : vx_MQ below _ _ args s 16 2000 A = Q
  unfold wp_L_cost at h
  refine r_aload_n hC dL_cost_0 rfl 0 rfl ?_
  refine r_iload_n hC dL_cost_1 rfl 1 rfl ?_
  refine r_iload_n hC dL_cost_2 rfl 2 rfl ?_
  refine r_iload_n hC dL_cost_3 rfl 3 rfl ?_
  refine r_xcalli hC [] (m_xrunV (R := ({ frames := 7, cells := 16, slots := 2000, locals := 114 } : Room)) (cells := 0) (slots := 0) (n := 3) (ci := 6) hC hX [.int a1, .int a2, .int a3] [] (fun sz => cm_X6_cost l hlf dC dI dA L α σ a1 a2 a3 _ _ h sz) gL_cost_X6_cost rfl ⟨rfl, rfl⟩ (by decide +kernel) ⟨Nat.le_of_ble_eq_true rfl, Nat.le_of_ble_eq_true rfl⟩ fx_0 (ct_6 rfl) rfl rfl (Nat.le_of_ble_eq_true rfl) (by decide) dL_cost_4) (fun x1 σ2 L3 α4 hα4 hn => ?_) (fun en σ5 L6 α7 hα7 hn => ?_)
  rotate_left
  · clear h
    rcases hn with ⟨rfl, hn⟩ | ⟨rfl, hn⟩ | ⟨rfl, hn⟩
    · rw [fO_al hα7 (k := 0) fx_0]
      refine r_catch (en := 1) hC hX ([] : List ExceptionTableEntry) (⟨0, 7, 8, 23⟩ : ExceptionTableEntry) [⟨0, 7, 13, 15⟩, ⟨0, 7, 18, 17⟩] (by rw [htab]; rfl) (fun z hz => nomatch hz) (by decide) (by decide) kL_cost_0 (by decide +kernel) (fun q9 => ?_)
      refine r_astoreQ (lv' := [(4, .ref q9), (0, fO α7 (some 0)), (1, .int a1), (2, .int a2), (3, .int a3)]) hC dL_cost_8 (by decide) rfl ?_
      refine r_bipush (v := (-101)) hC dL_cost_10 (by decide) ?_
      subst hQ
      exact r_xiret hC hA hr hlk hα7 (by decide) dL_cost_12 hn
    · rw [fO_al hα7 (k := 0) fx_0]
      refine r_catch (en := 2) hC hX ([⟨0, 7, 8, 23⟩] : List ExceptionTableEntry) (⟨0, 7, 13, 15⟩ : ExceptionTableEntry) [⟨0, 7, 18, 17⟩] (by rw [htab]; rfl) (fun z hz => by rcases List.mem_singleton.mp hz with rfl; exact ⟨"java/lang/IndexOutOfBoundsException", by decide, kL_cost_0, by decide +kernel⟩) (by decide) (by decide) kL_cost_1 (by decide +kernel) (fun q9 => ?_)
      refine r_astoreQ (lv' := [(4, .ref q9), (0, fO α7 (some 0)), (1, .int a1), (2, .int a2), (3, .int a3)]) hC dL_cost_13 (by decide) rfl ?_
      refine r_bipush (v := (-102)) hC dL_cost_15 (by decide) ?_
      subst hQ
      exact r_xiret hC hA hr hlk hα7 (by decide) dL_cost_17 hn
    · rw [fO_al hα7 (k := 0) fx_0]
      refine r_catch (en := 3) hC hX ([⟨0, 7, 8, 23⟩, ⟨0, 7, 13, 15⟩] : List ExceptionTableEntry) (⟨0, 7, 18, 17⟩ : ExceptionTableEntry) [] (by rw [htab]; rfl) (fun z hz => by rcases List.mem_cons.mp hz with rfl | hz; exact ⟨"java/lang/IndexOutOfBoundsException", by decide, kL_cost_0, by decide +kernel⟩; rcases List.mem_singleton.mp hz with rfl; exact ⟨"java/lang/IllegalArgumentException", by decide, kL_cost_1, by decide +kernel⟩) (by decide) (by decide) kL_cost_2 (by decide +kernel) (fun q9 => ?_)
      refine r_astoreQ (lv' := [(4, .ref q9), (0, fO α7 (some 0)), (1, .int a1), (2, .int a2), (3, .int a3)]) hC dL_cost_18 (by decide) rfl ?_
      refine r_bipush (v := (-103)) hC dL_cost_20 (by decide) ?_
      subst hQ
      exact r_xiret hC hA hr hlk hα7 (by decide) dL_cost_22 hn
  clear h
  revert hn
  intro h
  rw [fO_al hα4 (k := 0) fx_0]
  subst hQ
  exact r_xiret hC hA hr hlk hα4 (by decide) dL_cost_7 h
theorem kL_tax_0 : (Cond.classLink RL 23 "java/lang/IndexOutOfBoundsException") ∈ wsL_tax := by decide +kernel
theorem kL_tax_1 : (Cond.classLink RL 15 "java/lang/IllegalArgumentException") ∈ wsL_tax := by decide +kernel
set_option maxHeartbeats 4000000 in
set_option maxRecDepth 100000 in
theorem cm_L_tax (l : Launch) (hlf : l.stackTraces = false) (dC : Nat → ClassId) (dI : Nat → Nat → Nat) (dA : Nat → ClassId) (L : List Nat) (α : Nat → Nat) (σ : Mm) (a1 : Int32) (a2 : Int32) (Qm : Int32 → Mm → List Nat → Prop) (h : wp_L_tax L σ a1 a2 Qm) (sz : Nat) : vx_Met l yL_tax wsL_tax ({ frames := 7, cells := 16, slots := 2000, locals := 113 } : Room) (xP dC dI dA L α σ sz [fO α (some 0), .int a1, .int a2]) (va_Qi (fun r u => Qm r u.1 u.2) (cX dC dI dA L α (wl dA (Fc ++ L) α σ) sz) (va_A (wl dA (Fc ++ L) α σ) sz)) (xXC dC dI dA L α (wl dA (Fc ++ L) α σ) sz (fun _ _ _ => False)) 16 2000 (va_A (wl dA (Fc ++ L) α σ) sz) := by
  refine m_wstart (own := RL) (lv := [(0, fO α (some 0)), (1, .int a1), (2, .int a2)]) (by decide) rfl rfl (by simp only [lgl_O, lgl_I, lgl_J, lgl_N]; decide) (by simp only [lva_O, lva_I, lva_J, lva_N]) ?_
  intro p e s m below meth c hsz hC hr hlk htab hX
  generalize hA : va_A (wl dA (Fc ++ L) α σ) sz = A at hC hX ⊢
  have hA := hA.symm
  generalize hargs : ([fO α (some 0), .int a1, .int a2] : List Value).toArray = args at hC ⊢
  generalize hQ : vx_MQ below _ _ args s 16 2000 A = Q
  unfold wp_L_tax at h
  refine r_aload_n hC dL_tax_0 rfl 0 rfl ?_
  refine r_iload_n hC dL_tax_1 rfl 1 rfl ?_
  refine r_iload_n hC dL_tax_2 rfl 2 rfl ?_
  refine r_xcalli hC [] (m_xrunV (R := ({ frames := 7, cells := 16, slots := 2000, locals := 113 } : Room)) (cells := 0) (slots := 0) (n := 2) (ci := 6) hC hX [.int a1, .int a2] [] (fun sz => cm_X6_tax l hlf dC dI dA L α σ a1 a2 _ _ h sz) gL_tax_X6_tax rfl ⟨rfl, rfl⟩ (by decide +kernel) ⟨Nat.le_of_ble_eq_true rfl, Nat.le_of_ble_eq_true rfl⟩ fx_0 (ct_6 rfl) rfl rfl (Nat.le_of_ble_eq_true rfl) (by decide) dL_tax_3) (fun x1 σ2 L3 α4 hα4 hn => ?_) (fun en σ5 L6 α7 hα7 hn => ?_)
  rotate_left
  · clear h
    rcases hn with ⟨rfl, hn⟩ | ⟨rfl, hn⟩
    · rw [fO_al hα7 (k := 0) fx_0]
      refine r_catch (en := 1) hC hX ([] : List ExceptionTableEntry) (⟨0, 6, 7, 23⟩ : ExceptionTableEntry) [⟨0, 6, 11, 15⟩] (by rw [htab]; rfl) (fun z hz => nomatch hz) (by decide) (by decide) kL_tax_0 (by decide +kernel) (fun q9 => ?_)
      refine r_astoreQ_n (lv' := [(3, .ref q9), (0, fO α7 (some 0)), (1, .int a1), (2, .int a2)]) hC dL_tax_7 rfl (by decide) rfl ?_
      refine r_bipush (v := (-101)) hC dL_tax_8 (by decide) ?_
      subst hQ
      exact r_xiret hC hA hr hlk hα7 (by decide) dL_tax_10 hn
    · rw [fO_al hα7 (k := 0) fx_0]
      refine r_catch (en := 2) hC hX ([⟨0, 6, 7, 23⟩] : List ExceptionTableEntry) (⟨0, 6, 11, 15⟩ : ExceptionTableEntry) [] (by rw [htab]; rfl) (fun z hz => by rcases List.mem_singleton.mp hz with rfl; exact ⟨"java/lang/IndexOutOfBoundsException", by decide, kL_tax_0, by decide +kernel⟩) (by decide) (by decide) kL_tax_1 (by decide +kernel) (fun q9 => ?_)
      refine r_astoreQ_n (lv' := [(3, .ref q9), (0, fO α7 (some 0)), (1, .int a1), (2, .int a2)]) hC dL_tax_11 rfl (by decide) rfl ?_
      refine r_bipush (v := (-102)) hC dL_tax_12 (by decide) ?_
      subst hQ
      exact r_xiret hC hA hr hlk hα7 (by decide) dL_tax_14 hn
  clear h
  revert hn
  intro h
  rw [fO_al hα4 (k := 0) fx_0]
  subst hQ
  exact r_xiret hC hA hr hlk hα4 (by decide) dL_tax_6 h
theorem kL_consent_0 : (Cond.classLink RL 23 "java/lang/IndexOutOfBoundsException") ∈ wsL_consent := by decide +kernel
set_option maxHeartbeats 4000000 in
set_option maxRecDepth 100000 in
theorem cm_L_consent (l : Launch) (hlf : l.stackTraces = false) (dC : Nat → ClassId) (dI : Nat → Nat → Nat) (dA : Nat → ClassId) (L : List Nat) (α : Nat → Nat) (σ : Mm) (a1 : Int32) (a2 : Int32) (a3 : Int32) (Qm : Int32 → Mm → List Nat → Prop) (h : wp_L_consent L σ a1 a2 a3 Qm) (sz : Nat) : vx_Met l yL_consent wsL_consent ({ frames := 7, cells := 16, slots := 2000, locals := 116 } : Room) (xP dC dI dA L α σ sz [fO α (some 0), .int a1, .int a2, .int a3]) (va_Qi (fun r u => Qm r u.1 u.2) (cX dC dI dA L α (wl dA (Fc ++ L) α σ) sz) (va_A (wl dA (Fc ++ L) α σ) sz)) (xXC dC dI dA L α (wl dA (Fc ++ L) α σ) sz (fun _ _ _ => False)) 16 2000 (va_A (wl dA (Fc ++ L) α σ) sz) := by
  refine m_wstart (own := RL) (lv := [(0, fO α (some 0)), (1, .int a1), (2, .int a2), (3, .int a3)]) (by decide) rfl rfl (by simp only [lgl_O, lgl_I, lgl_J, lgl_N]; decide) (by simp only [lva_O, lva_I, lva_J, lva_N]) ?_
  intro p e s m below meth c hsz hC hr hlk htab hX
  generalize hA : va_A (wl dA (Fc ++ L) α σ) sz = A at hC hX ⊢
  have hA := hA.symm
  generalize hargs : ([fO α (some 0), .int a1, .int a2, .int a3] : List Value).toArray = args at hC ⊢
  generalize hQ : vx_MQ below _ _ args s 16 2000 A = Q
  unfold wp_L_consent at h
  refine r_aload_n hC dL_consent_0 rfl 0 rfl ?_
  refine r_iload_n hC dL_consent_1 rfl 1 rfl ?_
  refine r_iload_n hC dL_consent_2 rfl 2 rfl ?_
  refine r_iload_n hC dL_consent_3 rfl 3 rfl ?_
  refine r_xcalli hC [] (m_xrunV (R := ({ frames := 7, cells := 16, slots := 2000, locals := 116 } : Room)) (cells := 0) (slots := 0) (n := 3) (ci := 6) hC hX [.int a1, .int a2, .int a3] [] (fun sz => cm_X6_consent l hlf dC dI dA L α σ a1 a2 a3 _ _ h sz) gL_consent_X6_consent rfl ⟨rfl, rfl⟩ (by decide +kernel) ⟨Nat.le_of_ble_eq_true rfl, Nat.le_of_ble_eq_true rfl⟩ fx_0 (ct_6 rfl) rfl rfl (Nat.le_of_ble_eq_true rfl) (by decide) dL_consent_4) (fun x1 σ2 L3 α4 hα4 hn => ?_) (fun en σ5 L6 α7 hα7 hn => ?_)
  rotate_left
  · clear h
    rcases hn with ⟨rfl, hn⟩
    · rw [fO_al hα7 (k := 0) fx_0]
      refine r_catch (en := 1) hC hX ([] : List ExceptionTableEntry) (⟨0, 15, 16, 23⟩ : ExceptionTableEntry) [] (by rw [htab]; rfl) (fun z hz => nomatch hz) (by decide) (by decide) kL_consent_0 (by decide +kernel) (fun q9 => ?_)
      refine r_astoreQ (lv' := [(4, .ref q9), (0, fO α7 (some 0)), (1, .int a1), (2, .int a2), (3, .int a3)]) hC dL_consent_16 (by decide) rfl ?_
      refine r_bipush (v := (-101)) hC dL_consent_18 (by decide) ?_
      subst hQ
      exact r_xiret hC hA hr hlk hα7 (by decide) dL_consent_20 hn
  clear h
  revert hn
  intro h
  rw [fO_al hα4 (k := 0) fx_0]
  obtain ⟨J9, hJ9, h⟩ := h
  have KJ9 : ∀ (x8 : Int32), J9 x8 → G p l e ({ frames := 7, cells := 16, slots := 2000, locals := 116 } : Room) s m args below meth c (0 + 16) (0 + 2000) Q dC dI dA (Fc ++ L3) α4 A 5 σ2 15 [] [.int x8] := by
    clear h
    intro x8 h
    replace h := hJ9 x8 h
    subst hQ
    exact r_xiret hC hA hr hlk hα4 (by decide) dL_consent_15 h
  refine r_if_eq (tgt := 14) hC dL_consent_7 (by decide) (fun q => ?_) (fun q => ?_)
  · replace h := h.1 q
    refine r_iconst (v := 0) hC dL_consent_14 (by decide) ?_
    refine r_lvs [] rfl ?_
    exact KJ9 0 h
  · replace h := h.2 q
    refine r_iconst (v := 1) hC dL_consent_10 (by decide) ?_
    refine r_goto (tgt := 15) hC dL_consent_11 (by decide) ?_
    refine r_lvs [] rfl ?_
    exact KJ9 1 h
theorem kL_penalty_0 : (Cond.classLink RL 15 "java/lang/IllegalArgumentException") ∈ wsL_penalty := by decide +kernel
set_option maxHeartbeats 4000000 in
set_option maxRecDepth 100000 in
theorem cm_L_penalty (l : Launch) (hlf : l.stackTraces = false) (dC : Nat → ClassId) (dI : Nat → Nat → Nat) (dA : Nat → ClassId) (L : List Nat) (α : Nat → Nat) (σ : Mm) (a1 : Int32) (Qm : Int32 → Mm → List Nat → Prop) (h : wp_L_penalty L σ a1 Qm) (sz : Nat) : vx_Met l yL_penalty wsL_penalty ({ frames := 7, cells := 16, slots := 2000, locals := 112 } : Room) (xP dC dI dA L α σ sz [fO α (some 0), .int a1]) (va_Qi (fun r u => Qm r u.1 u.2) (cX dC dI dA L α (wl dA (Fc ++ L) α σ) sz) (va_A (wl dA (Fc ++ L) α σ) sz)) (xXC dC dI dA L α (wl dA (Fc ++ L) α σ) sz (fun _ _ _ => False)) 16 2000 (va_A (wl dA (Fc ++ L) α σ) sz) := by
  refine m_wstart (own := RL) (lv := [(0, fO α (some 0)), (1, .int a1)]) (by decide) rfl rfl (by simp only [lgl_O, lgl_I, lgl_J, lgl_N]; decide) (by simp only [lva_O, lva_I, lva_J, lva_N]) ?_
  intro p e s m below meth c hsz hC hr hlk htab hX
  generalize hA : va_A (wl dA (Fc ++ L) α σ) sz = A at hC hX ⊢
  have hA := hA.symm
  generalize hargs : ([fO α (some 0), .int a1] : List Value).toArray = args at hC ⊢
  generalize hQ : vx_MQ below _ _ args s 16 2000 A = Q
  unfold wp_L_penalty at h
  refine r_aload_n hC dL_penalty_0 rfl 0 rfl ?_
  refine r_iload_n hC dL_penalty_1 rfl 1 rfl ?_
  refine r_xcalli hC [] (m_xrunV (R := ({ frames := 7, cells := 16, slots := 2000, locals := 112 } : Room)) (cells := 0) (slots := 0) (n := 1) (ci := 6) hC hX [.int a1] [] (fun sz => cm_X6_penalty l hlf dC dI dA L α σ a1 _ _ h sz) gL_penalty_X6_penalty rfl ⟨rfl, rfl⟩ (by decide +kernel) ⟨Nat.le_of_ble_eq_true rfl, Nat.le_of_ble_eq_true rfl⟩ fx_0 (ct_6 rfl) rfl rfl (Nat.le_of_ble_eq_true rfl) (by decide) dL_penalty_2) (fun x1 σ2 L3 α4 hα4 hn => ?_) (fun en σ5 L6 α7 hα7 hn => ?_)
  rotate_left
  · clear h
    rcases hn with ⟨rfl, hn⟩
    · rw [fO_al hα7 (k := 0) fx_0]
      refine r_catch (en := 2) hC hX ([] : List ExceptionTableEntry) (⟨0, 5, 6, 15⟩ : ExceptionTableEntry) [] (by rw [htab]; rfl) (fun z hz => nomatch hz) (by decide) (by decide) kL_penalty_0 (by decide +kernel) (fun q9 => ?_)
      refine r_astoreQ_n (lv' := [(2, .ref q9), (0, fO α7 (some 0)), (1, .int a1)]) hC dL_penalty_6 rfl (by decide) rfl ?_
      refine r_bipush (v := (-102)) hC dL_penalty_7 (by decide) ?_
      subst hQ
      exact r_xiret hC hA hr hlk hα7 (by decide) dL_penalty_9 hn
  clear h
  revert hn
  intro h
  rw [fO_al hα4 (k := 0) fx_0]
  subst hQ
  exact r_xiret hC hA hr hlk hα4 (by decide) dL_penalty_5 h
theorem kL_interest_0 : (Cond.classLink RL 23 "java/lang/IndexOutOfBoundsException") ∈ wsL_interest := by decide +kernel
set_option maxHeartbeats 4000000 in
set_option maxRecDepth 100000 in
theorem cm_L_interest (l : Launch) (hlf : l.stackTraces = false) (dC : Nat → ClassId) (dI : Nat → Nat → Nat) (dA : Nat → ClassId) (L : List Nat) (α : Nat → Nat) (σ : Mm) (a1 : Int32) (a2 : Int32) (a3 : Int32) (a4 : Int32) (Qm : Int32 → Mm → List Nat → Prop) (h : wp_L_interest L σ a1 a2 a3 a4 Qm) (sz : Nat) : vx_Met l yL_interest wsL_interest ({ frames := 7, cells := 16, slots := 2000, locals := 127 } : Room) (xP dC dI dA L α σ sz [fO α (some 0), .int a1, .int a2, .int a3, .int a4]) (va_Qi (fun r u => Qm r u.1 u.2) (cX dC dI dA L α (wl dA (Fc ++ L) α σ) sz) (va_A (wl dA (Fc ++ L) α σ) sz)) (xXC dC dI dA L α (wl dA (Fc ++ L) α σ) sz (fun _ _ _ => False)) 16 2000 (va_A (wl dA (Fc ++ L) α σ) sz) := by
  refine m_wstart (own := RL) (lv := [(0, fO α (some 0)), (1, .int a1), (2, .int a2), (3, .int a3), (4, .int a4)]) (by decide) rfl rfl (by simp only [lgl_O, lgl_I, lgl_J, lgl_N]; decide) (by simp only [lva_O, lva_I, lva_J, lva_N]) ?_
  intro p e s m below meth c hsz hC hr hlk htab hX
  generalize hA : va_A (wl dA (Fc ++ L) α σ) sz = A at hC hX ⊢
  have hA := hA.symm
  generalize hargs : ([fO α (some 0), .int a1, .int a2, .int a3, .int a4] : List Value).toArray = args at hC ⊢
  generalize hQ : vx_MQ below _ _ args s 16 2000 A = Q
  unfold wp_L_interest at h
  refine r_aload_n hC dL_interest_0 rfl 0 rfl ?_
  refine r_iload_n hC dL_interest_1 rfl 1 rfl ?_
  refine r_iload_n hC dL_interest_2 rfl 2 rfl ?_
  refine r_iload_n hC dL_interest_3 rfl 3 rfl ?_
  refine r_iload hC dL_interest_4 4 rfl ?_
  refine r_xcalli hC [] (m_xrunV (R := ({ frames := 7, cells := 16, slots := 2000, locals := 127 } : Room)) (cells := 0) (slots := 0) (n := 4) (ci := 6) hC hX [.int a1, .int a2, .int a3, .int a4] [] (fun sz => cm_X6_interest l hlf dC dI dA L α σ a1 a2 a3 a4 _ _ h sz) gL_interest_X6_interest rfl ⟨rfl, rfl⟩ (by decide +kernel) ⟨Nat.le_of_ble_eq_true rfl, Nat.le_of_ble_eq_true rfl⟩ fx_0 (ct_6 rfl) rfl rfl (Nat.le_of_ble_eq_true rfl) (by decide) dL_interest_6) (fun x1 σ2 L3 α4 hα4 hn => ?_) (fun en σ5 L6 α7 hα7 hn => ?_)
  rotate_left
  · clear h
    rcases hn with ⟨rfl, hn⟩
    · rw [fO_al hα7 (k := 0) fx_0]
      refine r_catch (en := 1) hC hX ([] : List ExceptionTableEntry) (⟨0, 9, 10, 23⟩ : ExceptionTableEntry) [] (by rw [htab]; rfl) (fun z hz => nomatch hz) (by decide) (by decide) kL_interest_0 (by decide +kernel) (fun q9 => ?_)
      refine r_astoreQ (lv' := [(5, .ref q9), (0, fO α7 (some 0)), (1, .int a1), (2, .int a2), (3, .int a3), (4, .int a4)]) hC dL_interest_10 (by decide) rfl ?_
      refine r_bipush (v := (-101)) hC dL_interest_12 (by decide) ?_
      subst hQ
      exact r_xiret hC hA hr hlk hα7 (by decide) dL_interest_14 hn
  clear h
  revert hn
  intro h
  rw [fO_al hα4 (k := 0) fx_0]
  subst hQ
  exact r_xiret hC hA hr hlk hα4 (by decide) dL_interest_9 h
theorem kL_revenue_0 : (Cond.classLink RL 23 "java/lang/IndexOutOfBoundsException") ∈ wsL_revenue := by decide +kernel
set_option maxHeartbeats 4000000 in
set_option maxRecDepth 100000 in
theorem cm_L_revenue (l : Launch) (hlf : l.stackTraces = false) (dC : Nat → ClassId) (dI : Nat → Nat → Nat) (dA : Nat → ClassId) (L : List Nat) (α : Nat → Nat) (σ : Mm) (a1 : Int32) (a2 : Int32) (Qm : Int32 → Mm → List Nat → Prop) (h : wp_L_revenue L σ a1 a2 Qm) (sz : Nat) : vx_Met l yL_revenue wsL_revenue ({ frames := 7, cells := 16, slots := 2000, locals := 113 } : Room) (xP dC dI dA L α σ sz [fO α (some 0), .int a1, .int a2]) (va_Qi (fun r u => Qm r u.1 u.2) (cX dC dI dA L α (wl dA (Fc ++ L) α σ) sz) (va_A (wl dA (Fc ++ L) α σ) sz)) (xXC dC dI dA L α (wl dA (Fc ++ L) α σ) sz (fun _ _ _ => False)) 16 2000 (va_A (wl dA (Fc ++ L) α σ) sz) := by
  refine m_wstart (own := RL) (lv := [(0, fO α (some 0)), (1, .int a1), (2, .int a2)]) (by decide) rfl rfl (by simp only [lgl_O, lgl_I, lgl_J, lgl_N]; decide) (by simp only [lva_O, lva_I, lva_J, lva_N]) ?_
  intro p e s m below meth c hsz hC hr hlk htab hX
  generalize hA : va_A (wl dA (Fc ++ L) α σ) sz = A at hC hX ⊢
  have hA := hA.symm
  generalize hargs : ([fO α (some 0), .int a1, .int a2] : List Value).toArray = args at hC ⊢
  generalize hQ : vx_MQ below _ _ args s 16 2000 A = Q
  unfold wp_L_revenue at h
  refine r_aload_n hC dL_revenue_0 rfl 0 rfl ?_
  refine r_iload_n hC dL_revenue_1 rfl 1 rfl ?_
  refine r_iload_n hC dL_revenue_2 rfl 2 rfl ?_
  refine r_xcalli hC [] (m_xrunV (R := ({ frames := 7, cells := 16, slots := 2000, locals := 113 } : Room)) (cells := 0) (slots := 0) (n := 2) (ci := 6) hC hX [.int a1, .int a2] [] (fun sz => cm_X6_revenue l hlf dC dI dA L α σ a1 a2 _ _ h sz) gL_revenue_X6_revenue rfl ⟨rfl, rfl⟩ (by decide +kernel) ⟨Nat.le_of_ble_eq_true rfl, Nat.le_of_ble_eq_true rfl⟩ fx_0 (ct_6 rfl) rfl rfl (Nat.le_of_ble_eq_true rfl) (by decide) dL_revenue_3) (fun x1 σ2 L3 α4 hα4 hn => ?_) (fun en σ5 L6 α7 hα7 hn => ?_)
  rotate_left
  · clear h
    rcases hn with ⟨rfl, hn⟩
    · rw [fO_al hα7 (k := 0) fx_0]
      refine r_catch (en := 1) hC hX ([] : List ExceptionTableEntry) (⟨0, 6, 7, 23⟩ : ExceptionTableEntry) [] (by rw [htab]; rfl) (fun z hz => nomatch hz) (by decide) (by decide) kL_revenue_0 (by decide +kernel) (fun q9 => ?_)
      refine r_astoreQ_n (lv' := [(3, .ref q9), (0, fO α7 (some 0)), (1, .int a1), (2, .int a2)]) hC dL_revenue_7 rfl (by decide) rfl ?_
      refine r_bipush (v := (-101)) hC dL_revenue_8 (by decide) ?_
      subst hQ
      exact r_xiret hC hA hr hlk hα7 (by decide) dL_revenue_10 hn
  clear h
  revert hn
  intro h
  rw [fO_al hα4 (k := 0) fx_0]
  subst hQ
  exact r_xiret hC hA hr hlk hα4 (by decide) dL_revenue_6 h
theorem kL_due_0 : (Cond.classLink RL 23 "java/lang/IndexOutOfBoundsException") ∈ wsL_due := by decide +kernel
theorem kL_due_1 : (Cond.constant RL 69 (-2000000001)) ∈ wsL_due := by decide +kernel
set_option maxHeartbeats 4000000 in
set_option maxRecDepth 100000 in
theorem cm_L_due (l : Launch) (hlf : l.stackTraces = false) (dC : Nat → ClassId) (dI : Nat → Nat → Nat) (dA : Nat → ClassId) (L : List Nat) (α : Nat → Nat) (σ : Mm) (a1 : Int32) (a2 : Int32) (a3 : Int32) (Qm : Int32 → Mm → List Nat → Prop) (h : wp_L_due L σ a1 a2 a3 Qm) (sz : Nat) : vx_Met l yL_due wsL_due ({ frames := 7, cells := 16, slots := 2000, locals := 178 } : Room) (xP dC dI dA L α σ sz [fO α (some 0), .int a1, .int a2, .int a3]) (va_Qi (fun r u => Qm r u.1 u.2) (cX dC dI dA L α (wl dA (Fc ++ L) α σ) sz) (va_A (wl dA (Fc ++ L) α σ) sz)) (xXC dC dI dA L α (wl dA (Fc ++ L) α σ) sz (fun _ _ _ => False)) 16 2000 (va_A (wl dA (Fc ++ L) α σ) sz) := by
  refine m_wstart (own := RL) (lv := [(0, fO α (some 0)), (1, .int a1), (2, .int a2), (3, .int a3)]) (by decide) rfl rfl (by simp only [lgl_O, lgl_I, lgl_J, lgl_N]; decide) (by simp only [lva_O, lva_I, lva_J, lva_N]) ?_
  intro p e s m below meth c hsz hC hr hlk htab hX
  generalize hA : va_A (wl dA (Fc ++ L) α σ) sz = A at hC hX ⊢
  have hA := hA.symm
  generalize hargs : ([fO α (some 0), .int a1, .int a2, .int a3] : List Value).toArray = args at hC ⊢
  generalize hQ : vx_MQ below _ _ args s 16 2000 A = Q
  unfold wp_L_due at h
  refine r_aload_n hC dL_due_0 rfl 0 rfl ?_
  refine r_iload_n hC dL_due_1 rfl 1 rfl ?_
  refine r_iload_n hC dL_due_2 rfl 2 rfl ?_
  refine r_iload_n hC dL_due_3 rfl 3 rfl ?_
  refine r_xcalli hC [] (m_xrunV (R := ({ frames := 7, cells := 16, slots := 2000, locals := 178 } : Room)) (cells := 0) (slots := 0) (n := 3) (ci := 6) hC hX [.int a1, .int a2, .int a3] [] (fun sz => cm_X6_due l hlf dC dI dA L α σ a1 a2 a3 _ _ h sz) gL_due_X6_due rfl ⟨rfl, rfl⟩ (by decide +kernel) ⟨Nat.le_of_ble_eq_true rfl, Nat.le_of_ble_eq_true rfl⟩ fx_0 (ct_6 rfl) rfl rfl (Nat.le_of_ble_eq_true rfl) (by decide) dL_due_4) (fun x1 σ2 L3 α4 hα4 hn => ?_) (fun en σ5 L6 α7 hα7 hn => ?_)
  rotate_left
  · clear h
    rcases hn with ⟨rfl, hn⟩
    · rw [fO_al hα7 (k := 0) fx_0]
      refine r_catch (en := 1) hC hX ([] : List ExceptionTableEntry) (⟨0, 7, 8, 23⟩ : ExceptionTableEntry) [] (by rw [htab]; rfl) (fun z hz => nomatch hz) (by decide) (by decide) kL_due_0 (by decide +kernel) (fun q9 => ?_)
      refine r_astoreQ (lv' := [(4, .ref q9), (0, fO α7 (some 0)), (1, .int a1), (2, .int a2), (3, .int a3)]) hC dL_due_8 (by decide) rfl ?_
      refine r_ldc (v := (-2000000001)) hC kL_due_1 dL_due_10 ?_
      subst hQ
      exact r_xiret hC hA hr hlk hα7 (by decide) dL_due_12 hn
  clear h
  revert hn
  intro h
  rw [fO_al hα4 (k := 0) fx_0]
  subst hQ
  exact r_xiret hC hA hr hlk hα4 (by decide) dL_due_7 h
theorem kL_balance_0 : (Cond.classLink RL 23 "java/lang/IndexOutOfBoundsException") ∈ wsL_balance := by decide +kernel
theorem kL_balance_1 : (Cond.constantLong RL 74 (-101)) ∈ wsL_balance := by decide +kernel
set_option maxHeartbeats 4000000 in
set_option maxRecDepth 100000 in
theorem cm_L_balance (l : Launch) (hlf : l.stackTraces = false) (dC : Nat → ClassId) (dI : Nat → Nat → Nat) (dA : Nat → ClassId) (L : List Nat) (α : Nat → Nat) (σ : Mm) (a1 : Int32) (a2 : Int32) (a3 : Int32) (Qm : Int64 → Mm → List Nat → Prop) (h : wp_L_balance L σ a1 a2 a3 Qm) (sz : Nat) : vx_Met l yL_balance wsL_balance ({ frames := 7, cells := 16, slots := 2000, locals := 178 } : Room) (xP dC dI dA L α σ sz [fO α (some 0), .int a1, .int a2, .int a3]) (va_Ql (fun r u => Qm r u.1 u.2) (cX dC dI dA L α (wl dA (Fc ++ L) α σ) sz) (va_A (wl dA (Fc ++ L) α σ) sz)) (xXC dC dI dA L α (wl dA (Fc ++ L) α σ) sz (fun _ _ _ => False)) 16 2000 (va_A (wl dA (Fc ++ L) α σ) sz) := by
  refine m_wstart (own := RL) (lv := [(0, fO α (some 0)), (1, .int a1), (2, .int a2), (3, .int a3)]) (by decide) rfl rfl (by simp only [lgl_O, lgl_I, lgl_J, lgl_N]; decide) (by simp only [lva_O, lva_I, lva_J, lva_N]) ?_
  intro p e s m below meth c hsz hC hr hlk htab hX
  generalize hA : va_A (wl dA (Fc ++ L) α σ) sz = A at hC hX ⊢
  have hA := hA.symm
  generalize hargs : ([fO α (some 0), .int a1, .int a2, .int a3] : List Value).toArray = args at hC ⊢
  generalize hQ : vx_MQ below _ _ args s 16 2000 A = Q
  unfold wp_L_balance at h
  refine r_aload_n hC dL_balance_0 rfl 0 rfl ?_
  refine r_iload_n hC dL_balance_1 rfl 1 rfl ?_
  refine r_iload_n hC dL_balance_2 rfl 2 rfl ?_
  refine r_iload_n hC dL_balance_3 rfl 3 rfl ?_
  refine r_xcalll hC [] (m_xrunV (R := ({ frames := 7, cells := 16, slots := 2000, locals := 178 } : Room)) (cells := 0) (slots := 0) (n := 3) (ci := 6) hC hX [.int a1, .int a2, .int a3] [] (fun sz => cm_X6_balance l hlf dC dI dA L α σ a1 a2 a3 _ _ h sz) gL_balance_X6_balance rfl ⟨rfl, rfl⟩ (by decide +kernel) ⟨Nat.le_of_ble_eq_true rfl, Nat.le_of_ble_eq_true rfl⟩ fx_0 (ct_6 rfl) rfl rfl (Nat.le_of_ble_eq_true rfl) (by decide) dL_balance_4) (fun y1 σ2 L3 α4 hα4 hn => ?_) (fun en σ5 L6 α7 hα7 hn => ?_)
  rotate_left
  · clear h
    rcases hn with ⟨rfl, hn⟩
    · rw [fO_al hα7 (k := 0) fx_0]
      refine r_catch (en := 1) hC hX ([] : List ExceptionTableEntry) (⟨0, 7, 8, 23⟩ : ExceptionTableEntry) [] (by rw [htab]; rfl) (fun z hz => nomatch hz) (by decide) (by decide) kL_balance_0 (by decide +kernel) (fun q9 => ?_)
      refine r_astoreQ (lv' := [(4, .ref q9), (0, fO α7 (some 0)), (1, .int a1), (2, .int a2), (3, .int a3)]) hC dL_balance_8 (by decide) rfl ?_
      refine r_ldc2 (v := (-101)) hC kL_balance_1 dL_balance_10 ?_
      subst hQ
      exact r_xlret hC hA hr hlk hα7 (by decide) dL_balance_13 hn
  clear h
  revert hn
  intro h
  rw [fO_al hα4 (k := 0) fx_0]
  subst hQ
  exact r_xlret hC hA hr hlk hα4 (by decide) dL_balance_7 h
theorem kL_agrees_0 : (Cond.classLink RL 23 "java/lang/IndexOutOfBoundsException") ∈ wsL_agrees := by decide +kernel
set_option maxHeartbeats 4000000 in
set_option maxRecDepth 100000 in
theorem cm_L_agrees (l : Launch) (hlf : l.stackTraces = false) (dC : Nat → ClassId) (dI : Nat → Nat → Nat) (dA : Nat → ClassId) (L : List Nat) (α : Nat → Nat) (σ : Mm) (a1 : Int32) (a2 : Int32) (Qm : Int32 → Mm → List Nat → Prop) (h : wp_L_agrees L σ a1 a2 Qm) (sz : Nat) : vx_Met l yL_agrees wsL_agrees ({ frames := 7, cells := 16, slots := 2000, locals := 180 } : Room) (xP dC dI dA L α σ sz [fO α (some 0), .int a1, .int a2]) (va_Qi (fun r u => Qm r u.1 u.2) (cX dC dI dA L α (wl dA (Fc ++ L) α σ) sz) (va_A (wl dA (Fc ++ L) α σ) sz)) (xXC dC dI dA L α (wl dA (Fc ++ L) α σ) sz (fun _ _ _ => False)) 16 2000 (va_A (wl dA (Fc ++ L) α σ) sz) := by
  refine m_wstart (own := RL) (lv := [(0, fO α (some 0)), (1, .int a1), (2, .int a2)]) (by decide) rfl rfl (by simp only [lgl_O, lgl_I, lgl_J, lgl_N]; decide) (by simp only [lva_O, lva_I, lva_J, lva_N]) ?_
  intro p e s m below meth c hsz hC hr hlk htab hX
  generalize hA : va_A (wl dA (Fc ++ L) α σ) sz = A at hC hX ⊢
  have hA := hA.symm
  generalize hargs : ([fO α (some 0), .int a1, .int a2] : List Value).toArray = args at hC ⊢
  generalize hQ : vx_MQ below _ _ args s 16 2000 A = Q
  unfold wp_L_agrees at h
  refine r_aload_n hC dL_agrees_0 rfl 0 rfl ?_
  refine r_iload_n hC dL_agrees_1 rfl 1 rfl ?_
  refine r_iload_n hC dL_agrees_2 rfl 2 rfl ?_
  refine r_xcalli hC [] (m_xrunV (R := ({ frames := 7, cells := 16, slots := 2000, locals := 180 } : Room)) (cells := 0) (slots := 0) (n := 2) (ci := 6) hC hX [.int a1, .int a2] [] (fun sz => cm_X6_agrees l hlf dC dI dA L α σ a1 a2 _ _ h sz) gL_agrees_X6_agrees rfl ⟨rfl, rfl⟩ (by decide +kernel) ⟨Nat.le_of_ble_eq_true rfl, Nat.le_of_ble_eq_true rfl⟩ fx_0 (ct_6 rfl) rfl rfl (Nat.le_of_ble_eq_true rfl) (by decide) dL_agrees_3) (fun x1 σ2 L3 α4 hα4 hn => ?_) (fun en σ5 L6 α7 hα7 hn => ?_)
  rotate_left
  · clear h
    rcases hn with ⟨rfl, hn⟩
    · rw [fO_al hα7 (k := 0) fx_0]
      refine r_catch (en := 1) hC hX ([] : List ExceptionTableEntry) (⟨0, 14, 15, 23⟩ : ExceptionTableEntry) [] (by rw [htab]; rfl) (fun z hz => nomatch hz) (by decide) (by decide) kL_agrees_0 (by decide +kernel) (fun q9 => ?_)
      refine r_astoreQ_n (lv' := [(3, .ref q9), (0, fO α7 (some 0)), (1, .int a1), (2, .int a2)]) hC dL_agrees_15 rfl (by decide) rfl ?_
      refine r_bipush (v := (-101)) hC dL_agrees_16 (by decide) ?_
      subst hQ
      exact r_xiret hC hA hr hlk hα7 (by decide) dL_agrees_18 hn
  clear h
  revert hn
  intro h
  rw [fO_al hα4 (k := 0) fx_0]
  obtain ⟨J9, hJ9, h⟩ := h
  have KJ9 : ∀ (x8 : Int32), J9 x8 → G p l e ({ frames := 7, cells := 16, slots := 2000, locals := 180 } : Room) s m args below meth c (0 + 16) (0 + 2000) Q dC dI dA (Fc ++ L3) α4 A 4 σ2 14 [] [.int x8] := by
    clear h
    intro x8 h
    replace h := hJ9 x8 h
    subst hQ
    exact r_xiret hC hA hr hlk hα4 (by decide) dL_agrees_14 h
  refine r_if_eq (tgt := 13) hC dL_agrees_6 (by decide) (fun q => ?_) (fun q => ?_)
  · replace h := h.1 q
    refine r_iconst (v := 0) hC dL_agrees_13 (by decide) ?_
    refine r_lvs [] rfl ?_
    exact KJ9 0 h
  · replace h := h.2 q
    refine r_iconst (v := 1) hC dL_agrees_9 (by decide) ?_
    refine r_goto (tgt := 14) hC dL_agrees_10 (by decide) ?_
    refine r_lvs [] rfl ?_
    exact KJ9 1 h
theorem kL_suspend_0 : (Cond.classLink RL 23 "java/lang/IndexOutOfBoundsException") ∈ wsL_suspend := by decide +kernel
set_option maxHeartbeats 4000000 in
set_option maxRecDepth 100000 in
theorem cm_L_suspend (l : Launch) (hlf : l.stackTraces = false) (dC : Nat → ClassId) (dI : Nat → Nat → Nat) (dA : Nat → ClassId) (L : List Nat) (α : Nat → Nat) (σ : Mm) (a1 : Int32) (a2 : Int32) (Qm : Int32 → Mm → List Nat → Prop) (h : wp_L_suspend L σ a1 a2 Qm) (sz : Nat) : vx_Met l yL_suspend wsL_suspend ({ frames := 7, cells := 16, slots := 2000, locals := 113 } : Room) (xP dC dI dA L α σ sz [fO α (some 0), .int a1, .int a2]) (va_Qi (fun r u => Qm r u.1 u.2) (cX dC dI dA L α (wl dA (Fc ++ L) α σ) sz) (va_A (wl dA (Fc ++ L) α σ) sz)) (xXC dC dI dA L α (wl dA (Fc ++ L) α σ) sz (fun _ _ _ => False)) 16 2000 (va_A (wl dA (Fc ++ L) α σ) sz) := by
  refine m_wstart (own := RL) (lv := [(0, fO α (some 0)), (1, .int a1), (2, .int a2)]) (by decide) rfl rfl (by simp only [lgl_O, lgl_I, lgl_J, lgl_N]; decide) (by simp only [lva_O, lva_I, lva_J, lva_N]) ?_
  intro p e s m below meth c hsz hC hr hlk htab hX
  generalize hA : va_A (wl dA (Fc ++ L) α σ) sz = A at hC hX ⊢
  have hA := hA.symm
  generalize hargs : ([fO α (some 0), .int a1, .int a2] : List Value).toArray = args at hC ⊢
  generalize hQ : vx_MQ below _ _ args s 16 2000 A = Q
  unfold wp_L_suspend at h
  refine r_aload_n hC dL_suspend_0 rfl 0 rfl ?_
  refine r_iload_n hC dL_suspend_1 rfl 1 rfl ?_
  refine r_iload_n hC dL_suspend_2 rfl 2 rfl ?_
  refine r_xcalli hC [] (m_xrunV (R := ({ frames := 7, cells := 16, slots := 2000, locals := 113 } : Room)) (cells := 0) (slots := 0) (n := 2) (ci := 6) hC hX [.int a1, .int a2] [] (fun sz => cm_X6_suspend l hlf dC dI dA L α σ a1 a2 _ _ h sz) gL_suspend_X6_suspend rfl ⟨rfl, rfl⟩ (by decide +kernel) ⟨Nat.le_of_ble_eq_true rfl, Nat.le_of_ble_eq_true rfl⟩ fx_0 (ct_6 rfl) rfl rfl (Nat.le_of_ble_eq_true rfl) (by decide) dL_suspend_3) (fun x1 σ2 L3 α4 hα4 hn => ?_) (fun en σ5 L6 α7 hα7 hn => ?_)
  rotate_left
  · clear h
    rcases hn with ⟨rfl, hn⟩
    · rw [fO_al hα7 (k := 0) fx_0]
      refine r_catch (en := 1) hC hX ([] : List ExceptionTableEntry) (⟨0, 14, 15, 23⟩ : ExceptionTableEntry) [] (by rw [htab]; rfl) (fun z hz => nomatch hz) (by decide) (by decide) kL_suspend_0 (by decide +kernel) (fun q9 => ?_)
      refine r_astoreQ_n (lv' := [(3, .ref q9), (0, fO α7 (some 0)), (1, .int a1), (2, .int a2)]) hC dL_suspend_15 rfl (by decide) rfl ?_
      refine r_bipush (v := (-101)) hC dL_suspend_16 (by decide) ?_
      subst hQ
      exact r_xiret hC hA hr hlk hα7 (by decide) dL_suspend_18 hn
  clear h
  revert hn
  intro h
  rw [fO_al hα4 (k := 0) fx_0]
  obtain ⟨J9, hJ9, h⟩ := h
  have KJ9 : ∀ (x8 : Int32), J9 x8 → G p l e ({ frames := 7, cells := 16, slots := 2000, locals := 113 } : Room) s m args below meth c (0 + 16) (0 + 2000) Q dC dI dA (Fc ++ L3) α4 A 4 σ2 14 [] [.int x8] := by
    clear h
    intro x8 h
    replace h := hJ9 x8 h
    subst hQ
    exact r_xiret hC hA hr hlk hα4 (by decide) dL_suspend_14 h
  refine r_if_eq (tgt := 13) hC dL_suspend_6 (by decide) (fun q => ?_) (fun q => ?_)
  · replace h := h.1 q
    refine r_iconst (v := 0) hC dL_suspend_13 (by decide) ?_
    refine r_lvs [] rfl ?_
    exact KJ9 0 h
  · replace h := h.2 q
    refine r_iconst (v := 1) hC dL_suspend_9 (by decide) ?_
    refine r_goto (tgt := 14) hC dL_suspend_10 (by decide) ?_
    refine r_lvs [] rfl ?_
    exact KJ9 1 h
theorem kL_least_0 : (Cond.classLink RL 15 "java/lang/IllegalArgumentException") ∈ wsL_least := by decide +kernel
set_option maxHeartbeats 4000000 in
set_option maxRecDepth 100000 in
theorem cm_L_least (l : Launch) (hlf : l.stackTraces = false) (dC : Nat → ClassId) (dI : Nat → Nat → Nat) (dA : Nat → ClassId) (L : List Nat) (α : Nat → Nat) (σ : Mm) (a1 : Int32) (Qm : Int32 → Mm → List Nat → Prop) (h : wp_L_least L σ a1 Qm) (sz : Nat) : vx_Met l yL_least wsL_least ({ frames := 7, cells := 16, slots := 2000, locals := 112 } : Room) (xP dC dI dA L α σ sz [fO α (some 0), .int a1]) (va_Qi (fun r u => Qm r u.1 u.2) (cX dC dI dA L α (wl dA (Fc ++ L) α σ) sz) (va_A (wl dA (Fc ++ L) α σ) sz)) (xXC dC dI dA L α (wl dA (Fc ++ L) α σ) sz (fun _ _ _ => False)) 16 2000 (va_A (wl dA (Fc ++ L) α σ) sz) := by
  refine m_wstart (own := RL) (lv := [(0, fO α (some 0)), (1, .int a1)]) (by decide) rfl rfl (by simp only [lgl_O, lgl_I, lgl_J, lgl_N]; decide) (by simp only [lva_O, lva_I, lva_J, lva_N]) ?_
  intro p e s m below meth c hsz hC hr hlk htab hX
  generalize hA : va_A (wl dA (Fc ++ L) α σ) sz = A at hC hX ⊢
  have hA := hA.symm
  generalize hargs : ([fO α (some 0), .int a1] : List Value).toArray = args at hC ⊢
  generalize hQ : vx_MQ below _ _ args s 16 2000 A = Q
  unfold wp_L_least at h
  refine r_aload_n hC dL_least_0 rfl 0 rfl ?_
  refine r_iload_n hC dL_least_1 rfl 1 rfl ?_
  refine r_xcalli hC [] (m_xrunV (R := ({ frames := 7, cells := 16, slots := 2000, locals := 112 } : Room)) (cells := 0) (slots := 0) (n := 1) (ci := 6) hC hX [.int a1] [] (fun sz => cm_X6_least l hlf dC dI dA L α σ a1 _ _ h sz) gL_least_X6_least rfl ⟨rfl, rfl⟩ (by decide +kernel) ⟨Nat.le_of_ble_eq_true rfl, Nat.le_of_ble_eq_true rfl⟩ fx_0 (ct_6 rfl) rfl rfl (Nat.le_of_ble_eq_true rfl) (by decide) dL_least_2) (fun x1 σ2 L3 α4 hα4 hn => ?_) (fun en σ5 L6 α7 hα7 hn => ?_)
  rotate_left
  · clear h
    rcases hn with ⟨rfl, hn⟩
    · rw [fO_al hα7 (k := 0) fx_0]
      refine r_catch (en := 2) hC hX ([] : List ExceptionTableEntry) (⟨0, 5, 6, 15⟩ : ExceptionTableEntry) [] (by rw [htab]; rfl) (fun z hz => nomatch hz) (by decide) (by decide) kL_least_0 (by decide +kernel) (fun q9 => ?_)
      refine r_astoreQ_n (lv' := [(2, .ref q9), (0, fO α7 (some 0)), (1, .int a1)]) hC dL_least_6 rfl (by decide) rfl ?_
      refine r_bipush (v := (-102)) hC dL_least_7 (by decide) ?_
      subst hQ
      exact r_xiret hC hA hr hlk hα7 (by decide) dL_least_9 hn
  clear h
  revert hn
  intro h
  rw [fO_al hα4 (k := 0) fx_0]
  subst hQ
  exact r_xiret hC hA hr hlk hα4 (by decide) dL_least_5 h
theorem kL_owed_0 : (Cond.classLink RL 23 "java/lang/IndexOutOfBoundsException") ∈ wsL_owed := by decide +kernel
theorem kL_owed_1 : (Cond.constantLong RL 91 (-1000000000001)) ∈ wsL_owed := by decide +kernel
set_option maxHeartbeats 4000000 in
set_option maxRecDepth 100000 in
theorem cm_L_owed (l : Launch) (hlf : l.stackTraces = false) (dC : Nat → ClassId) (dI : Nat → Nat → Nat) (dA : Nat → ClassId) (L : List Nat) (α : Nat → Nat) (σ : Mm) (a1 : Int32) (Qm : Int64 → Mm → List Nat → Prop) (h : wp_L_owed L σ a1 Qm) (sz : Nat) : vx_Met l yL_owed wsL_owed ({ frames := 7, cells := 16, slots := 2000, locals := 175 } : Room) (xP dC dI dA L α σ sz [fO α (some 0), .int a1]) (va_Ql (fun r u => Qm r u.1 u.2) (cX dC dI dA L α (wl dA (Fc ++ L) α σ) sz) (va_A (wl dA (Fc ++ L) α σ) sz)) (xXC dC dI dA L α (wl dA (Fc ++ L) α σ) sz (fun _ _ _ => False)) 16 2000 (va_A (wl dA (Fc ++ L) α σ) sz) := by
  refine m_wstart (own := RL) (lv := [(0, fO α (some 0)), (1, .int a1)]) (by decide) rfl rfl (by simp only [lgl_O, lgl_I, lgl_J, lgl_N]; decide) (by simp only [lva_O, lva_I, lva_J, lva_N]) ?_
  intro p e s m below meth c hsz hC hr hlk htab hX
  generalize hA : va_A (wl dA (Fc ++ L) α σ) sz = A at hC hX ⊢
  have hA := hA.symm
  generalize hargs : ([fO α (some 0), .int a1] : List Value).toArray = args at hC ⊢
  generalize hQ : vx_MQ below _ _ args s 16 2000 A = Q
  unfold wp_L_owed at h
  refine r_aload_n hC dL_owed_0 rfl 0 rfl ?_
  refine r_iload_n hC dL_owed_1 rfl 1 rfl ?_
  refine r_xcalll hC [] (m_xrunV (R := ({ frames := 7, cells := 16, slots := 2000, locals := 175 } : Room)) (cells := 0) (slots := 0) (n := 1) (ci := 6) hC hX [.int a1] [] (fun sz => cm_X6_owed l hlf dC dI dA L α σ a1 _ _ h sz) gL_owed_X6_owed rfl ⟨rfl, rfl⟩ (by decide +kernel) ⟨Nat.le_of_ble_eq_true rfl, Nat.le_of_ble_eq_true rfl⟩ fx_0 (ct_6 rfl) rfl rfl (Nat.le_of_ble_eq_true rfl) (by decide) dL_owed_2) (fun y1 σ2 L3 α4 hα4 hn => ?_) (fun en σ5 L6 α7 hα7 hn => ?_)
  rotate_left
  · clear h
    rcases hn with ⟨rfl, hn⟩
    · rw [fO_al hα7 (k := 0) fx_0]
      refine r_catch (en := 1) hC hX ([] : List ExceptionTableEntry) (⟨0, 5, 6, 23⟩ : ExceptionTableEntry) [] (by rw [htab]; rfl) (fun z hz => nomatch hz) (by decide) (by decide) kL_owed_0 (by decide +kernel) (fun q9 => ?_)
      refine r_astoreQ_n (lv' := [(2, .ref q9), (0, fO α7 (some 0)), (1, .int a1)]) hC dL_owed_6 rfl (by decide) rfl ?_
      refine r_ldc2 (v := (-1000000000001)) hC kL_owed_1 dL_owed_7 ?_
      subst hQ
      exact r_xlret hC hA hr hlk hα7 (by decide) dL_owed_10 hn
  clear h
  revert hn
  intro h
  rw [fO_al hα4 (k := 0) fx_0]
  subst hQ
  exact r_xlret hC hA hr hlk hα4 (by decide) dL_owed_5 h
theorem kL_paid_0 : (Cond.classLink RL 23 "java/lang/IndexOutOfBoundsException") ∈ wsL_paid := by decide +kernel
theorem kL_paid_1 : (Cond.constantLong RL 74 (-101)) ∈ wsL_paid := by decide +kernel
set_option maxHeartbeats 4000000 in
set_option maxRecDepth 100000 in
theorem cm_L_paid (l : Launch) (hlf : l.stackTraces = false) (dC : Nat → ClassId) (dI : Nat → Nat → Nat) (dA : Nat → ClassId) (L : List Nat) (α : Nat → Nat) (σ : Mm) (a1 : Int32) (Qm : Int64 → Mm → List Nat → Prop) (h : wp_L_paid L σ a1 Qm) (sz : Nat) : vx_Met l yL_paid wsL_paid ({ frames := 7, cells := 16, slots := 2000, locals := 111 } : Room) (xP dC dI dA L α σ sz [fO α (some 0), .int a1]) (va_Ql (fun r u => Qm r u.1 u.2) (cX dC dI dA L α (wl dA (Fc ++ L) α σ) sz) (va_A (wl dA (Fc ++ L) α σ) sz)) (xXC dC dI dA L α (wl dA (Fc ++ L) α σ) sz (fun _ _ _ => False)) 16 2000 (va_A (wl dA (Fc ++ L) α σ) sz) := by
  refine m_wstart (own := RL) (lv := [(0, fO α (some 0)), (1, .int a1)]) (by decide) rfl rfl (by simp only [lgl_O, lgl_I, lgl_J, lgl_N]; decide) (by simp only [lva_O, lva_I, lva_J, lva_N]) ?_
  intro p e s m below meth c hsz hC hr hlk htab hX
  generalize hA : va_A (wl dA (Fc ++ L) α σ) sz = A at hC hX ⊢
  have hA := hA.symm
  generalize hargs : ([fO α (some 0), .int a1] : List Value).toArray = args at hC ⊢
  generalize hQ : vx_MQ below _ _ args s 16 2000 A = Q
  unfold wp_L_paid at h
  refine r_aload_n hC dL_paid_0 rfl 0 rfl ?_
  refine r_iload_n hC dL_paid_1 rfl 1 rfl ?_
  refine r_xcalll hC [] (m_xrunV (R := ({ frames := 7, cells := 16, slots := 2000, locals := 111 } : Room)) (cells := 0) (slots := 0) (n := 1) (ci := 6) hC hX [.int a1] [] (fun sz => cm_X6_paid l hlf dC dI dA L α σ a1 _ _ h sz) gL_paid_X6_paid rfl ⟨rfl, rfl⟩ (by decide +kernel) ⟨Nat.le_of_ble_eq_true rfl, Nat.le_of_ble_eq_true rfl⟩ fx_0 (ct_6 rfl) rfl rfl (Nat.le_of_ble_eq_true rfl) (by decide) dL_paid_2) (fun y1 σ2 L3 α4 hα4 hn => ?_) (fun en σ5 L6 α7 hα7 hn => ?_)
  rotate_left
  · clear h
    rcases hn with ⟨rfl, hn⟩
    · rw [fO_al hα7 (k := 0) fx_0]
      refine r_catch (en := 1) hC hX ([] : List ExceptionTableEntry) (⟨0, 5, 6, 23⟩ : ExceptionTableEntry) [] (by rw [htab]; rfl) (fun z hz => nomatch hz) (by decide) (by decide) kL_paid_0 (by decide +kernel) (fun q9 => ?_)
      refine r_astoreQ_n (lv' := [(2, .ref q9), (0, fO α7 (some 0)), (1, .int a1)]) hC dL_paid_6 rfl (by decide) rfl ?_
      refine r_ldc2 (v := (-101)) hC kL_paid_1 dL_paid_7 ?_
      subst hQ
      exact r_xlret hC hA hr hlk hα7 (by decide) dL_paid_10 hn
  clear h
  revert hn
  intro h
  rw [fO_al hα4 (k := 0) fx_0]
  subst hQ
  exact r_xlret hC hA hr hlk hα4 (by decide) dL_paid_5 h
