/-! PURE: the law's cases, on -/
theorem c_tract {C : Cr} {i : Nat} {x2 x3 x4 x5 x63 : Int32} {y6 : Int64} {J76 : Rh → Int32 → Int32 → Int32 → Int32 → Int64 → Int32 → Prop} (hG : GC C) (hi : i < 28) (hV : VS C x2 x3 x4 x5 y6) (hz : 0 ≤ x63.toInt) (h2 : (i : Int) ≤ C 200 1 ∨ 3 ≤ C 200 1) (h5 : ¬ 5 ≤ x2) (hn : C 200 0 ≤ 6) (hJ : ∀ ρ a b c d e, MI i (C 200 0) ρ a b c d e 1 → J76 ρ a b c d e 1) {σ64 : Rh} (hR : Rel σ64.2.1 σ64.1 C) (hw : σ64.2.2 ≤ 64 * i) : σ64.2.2 + 1 ≤ 3500 ∧ wp_L_tract σ64.2.1 σ64.1 (1 + (jr x63 1000)) (jr (x63 / 1000) 10) (fun (x294 : Int32) (σ295 : Mm) (L296 : List Nat) => ∀ ρ298 : Rh, ρ298 = (σ295, L296, σ64.2.2 + 1) → (∃ J301 : Rh → Int32 → Prop, (∀ (σ299 : Rh) (x300 : Int32), J301 σ299 x300 → ∀ x302 : Int32, x302 = x2 + 1 → J76 σ299 x302 x3 x4 x5 y6 x300) ∧ ((¬ x294 = x2 → J301 ρ298 0) ∧ (¬ (¬ x294 = x2) → J301 ρ298 1)))) := by
  obtain ⟨v2, v3, v4, v5, v6⟩ := id hV
  have ht := hG.1.nt
  rw [leT, show (5 : Int32).toInt = 5 from rfl] at h5
  have D1 := ow_n (x := x63 / 1000) (y := 10) (dv_nn hz (by decide)) rfl
  have D2 := one_p (c := 1) (k := 1) rfl (by omega) (jr_n (y := 1000) (n := 1000) hz rfl (by decide)) (by decide)
  refine ⟨by omega, K_tract hG.1 hR (fun z => absurd D1 z) (fun _ z => absurd ⟨by omega, by omega⟩ z) (fun _ _ z => absurd (by omega) z) (fun d1 d2 d3 σ' L' x9 R' e9 ρ1 e1 => ?_)⟩
  subst e1
  have t := l_T e9 (by omega) (by omega)
  have ex : x9 = x2 := eqT.mpr (by omega)
  refine okn (J := fun s v => ∀ x302 : Int32, x302 = x2 + 1 → J76 s x302 x3 x4 x5 y6 v) (fun x302 h302 => hJ _ _ _ _ _ _ ⟨_, GC_tract hG d1 d2 d3, R', (show σ64.2.2 + 1 ≤ _ by omega), ⟨?_, v3, v4, v5, v6⟩, rfl, ⟨(show 1 ≤ C 200 1 + 1 by omega), (show C 200 1 + 1 ≤ 5 by omega)⟩, ?_, hn, Int.le_refl (C 200 0)⟩) (fun z => z ex)
  · show x302.toInt = C 200 1 + 1
    rw [h302, ad32 (by rw [t_1]; omega) (by rw [t_1]; omega), t_1, v2]
  · show (i : Int) + 1 ≤ C 200 1 + 1 ∨ 3 ≤ C 200 1 + 1
    omega
theorem c_consent {C : Cr} {i : Nat} {x2 x3 x4 x5 x63 x68 : Int32} {y6 : Int64} {J76 : Rh → Int32 → Int32 → Int32 → Int32 → Int64 → Int32 → Prop} (hG : GC C) (hi : i < 28) (hV : VS C x2 x3 x4 x5 y6) (hz : 0 ≤ x63.toInt) (hm : 0 ≤ x68.toInt ∧ x68.toInt ≤ C 200 0) (h3 : 3 ≤ C 200 1 ∧ C 200 1 ≤ 5) (hn : C 200 0 ≤ 6) (hJ : ∀ ρ a b c d e, MI i (C 200 0) ρ a b c d e 1 → J76 ρ a b c d e 1) {σ134 : Rh} (hR : Rel σ134.2.1 σ134.1 C) (hw : σ134.2.2 ≤ 64 * i) (h4 : 0 < x3.toInt) : (∃ J211 : Rh → Int32 → Prop, (∀ (σ209 : Rh) (x210 : Int32), J211 σ209 x210 → σ209.2.2 + 1 ≤ 3500 ∧ wp_L_consent σ209.2.1 σ209.1 (jr x63 x3) (jr (x63 / 3) 10) x210 (fun (x212 : Int32) (σ213 : Mm) (L214 : List Nat) => ∀ ρ216 : Rh, ρ216 = (σ213, L214, σ209.2.2 + 1) → (∃ J219 : Rh → Int32 → Prop, (∀ (σ217 : Rh) (x218 : Int32), J219 σ217 x218 → J76 σ217 x2 x3 x4 x5 y6 x218) ∧ (∃ J221 : Rh → Prop, (∀ (σ220 : Rh), J221 σ220 → J219 σ220 0) ∧ ((x212 < 0 → J221 ρ216) ∧ (¬ (x212 < 0) → ρ216.2.2 + 1 ≤ 3500 ∧ wp_L_penalty ρ216.2.1 ρ216.1 (100 + (jr (x63 / 90) 401)) (fun (x222 : Int32) (σ223 : Mm) (L224 : List Nat) => ∀ ρ226 : Rh, ρ226 = (σ223, L224, ρ216.2.2 + 1) → ((x222 < 100 → J221 ρ226) ∧ (¬ (x222 < 100) → J219 ρ226 1))))))))) ∧ ((¬ (jr (x63 / 30) 3) = 0 → J211 σ134 0) ∧ (¬ (¬ (jr (x63 / 30) 3) = 0) → J211 σ134 1))) := by
  obtain ⟨v2, v3, v4, v5, v6⟩ := id hV
  have a := jr_rg hz h4
  have D1 : dUO C (jr x63 x3).toInt (jr (x63 / 3) 10).toInt := ⟨⟨a.1, by omega⟩, ow_n (dv_nn hz (by decide)) rfl⟩
  have D2 := one_p (c := 100) (k := 100) rfl (by omega) (jr_n (x := x63 / 90) (y := 401) (n := 401) (dv_nn hz (by decide)) rfl (by decide)) (by decide)
  refine ⟨fun s _ => s = σ134, fun s v hs => ?_, fun _ => rfl, fun _ => rfl⟩
  subst hs
  refine ⟨by omega, K_consent hG.1 hR (fun z => absurd D1 z) (fun _ σ' L' x9 R' e9 ρ1 e1 => ?_)⟩
  subst e1
  have G1 := GC_con (v := if v = 0 then 2 else 1) hG D1 (by by_cases z : v = 0 <;> simp [z])
  have t9 : ¬ x9 < 0 := by
    rw [e9]
    unfold bz
    split <;> decide
  refine ⟨fun s u => J76 s x2 x3 x4 x5 y6 u, fun _ _ h => h, fun _ => False, fun _ z => z.elim, fun z => absurd z t9, fun _ => ⟨(show s.2.2 + 1 + 1 ≤ 3500 by omega), K_penalty G1.1 R' (fun z => absurd ⟨by omega, by omega⟩ z) (fun d2 σ2 L2 x22 R2 e22 ρ2 e2 => ?_)⟩⟩
  subst e2
  have p := G1.1.pen
  have t := l_T e22 (by omega) (by omega)
  refine ⟨fun z => ?_, fun _ => hJ _ _ _ _ _ _ (MI_c (GC_pen G1 d2) R2 (show s.2.2 + 1 + 1 ≤ _ by omega) (VS_of hV rfl rfl rfl rfl rfl) h3 hn (Int.le_refl _))⟩
  rw [ltT, t_100] at z
  omega
theorem c_tax {C : Cr} {i : Nat} {x2 x3 x4 x5 x63 x68 : Int32} {y6 : Int64} {J76 : Rh → Int32 → Int32 → Int32 → Int32 → Int64 → Int32 → Prop} (hG : GC C) (hi : i < 28) (hV : VS C x2 x3 x4 x5 y6) (hz : 0 ≤ x63.toInt) (hm : 0 ≤ x68.toInt ∧ x68.toInt ≤ C 200 0) (h3 : 3 ≤ C 200 1 ∧ C 200 1 ≤ 5) (hn : C 200 0 ≤ 6) (hJ : ∀ ρ a b c d e, MI i (C 200 0) ρ a b c d e 1 → J76 ρ a b c d e 1) {σ136 : Rh} (hR : Rel σ136.2.1 σ136.1 C) (hw : σ136.2.2 ≤ 64 * i) : σ136.2.2 + 1 ≤ 3500 ∧ wp_L_tax σ136.2.1 σ136.1 (jr x63 51) x68 (fun (x185 : Int32) (σ186 : Mm) (L187 : List Nat) => ∀ ρ189 : Rh, ρ189 = (σ186, L187, σ136.2.2 + 1) → (∃ J192 : Rh → Int32 → Prop, (∀ (σ190 : Rh) (x191 : Int32), J192 σ190 x191 → J76 σ190 x2 x3 x4 x5 y6 x191) ∧ (∃ J194 : Rh → Prop, (∀ (σ193 : Rh), J194 σ193 → J192 σ193 0) ∧ ((x185 < 0 → J194 ρ189) ∧ (¬ (x185 < 0) → ρ189.2.2 + 1 ≤ 3500 ∧ wp_L_least ρ189.2.1 ρ189.1 (1 + (jr (x63 / 51) 5000)) (fun (x195 : Int32) (σ196 : Mm) (L197 : List Nat) => ∀ ρ199 : Rh, ρ199 = (σ196, L197, ρ189.2.2 + 1) → ((x195 < 1 → J194 ρ199) ∧ (¬ (x195 < 1) → (∃ J202 : Rh → Int32 → Prop, (∀ (σ200 : Rh) (x201 : Int32), J202 σ200 x201 → σ200.2.2 + 1 ≤ 3500 ∧ wp_L_suspend σ200.2.1 σ200.1 (jr (x63 / 3) 10) x201 (fun (x203 : Int32) (σ204 : Mm) (L205 : List Nat) => ∀ ρ207 : Rh, ρ207 = (σ204, L205, σ200.2.2 + 1) → ((x203 < 0 → J194 ρ207) ∧ (¬ (x203 < 0) → J192 ρ207 1)))) ∧ ((¬ (jr x63 2) = 0 → J202 ρ199 0) ∧ (¬ (¬ (jr x63 2) = 0) → J202 ρ199 1))))))))))) := by
  obtain ⟨v2, v3, v4, v5, v6⟩ := id hV
  have hn6 := hG.1.now
  have a := jr_n (x := x63) (y := 51) (n := 51) hz rfl (by decide)
  refine ⟨by omega, K_tax hG.1 hR (fun z => absurd hm z) (fun _ z => absurd ⟨by omega, by omega⟩ z) (fun d1 d2 σ' L' x9 R' e9 ρ1 e1 => ?_)⟩
  subst e1
  have tr := txn_rg hG.1 (x68.toInt.toNat + 1) (by omega)
  have t := l_T e9 (by omega) (by omega)
  have G1 := GC_tax (m := x68.toInt.toNat) hG d2
  have D2 := one_p (c := 1) (k := 1) rfl (by omega) (jr_n (x := x63 / 51) (y := 5000) (n := 5000) (dv_nn hz (by decide)) rfl (by decide)) (by decide)
  refine ⟨fun s u => J76 s x2 x3 x4 x5 y6 u, fun _ _ h => h, fun _ => False, fun _ z => z.elim, fun z => ?_, fun _ => ⟨(show σ136.2.2 + 1 + 1 ≤ 3500 by omega), K_least G1.1 R' (fun z => absurd ⟨by omega, by omega⟩ z) (fun d3 σ2 L2 x22 R2 e22 ρ2 e2 => ?_)⟩⟩
  · rw [ltT, t_0] at z
    omega
  subst e2
  have p := G1.1.lst
  have t2 := l_T e22 (by omega) (by omega)
  have G2 := GC_lst G1 d3
  refine ⟨fun z => ?_, fun _ => ⟨fun s v => s = (σ2, L2, σ136.2.2 + 1 + 1) ∧ (v = 0 ∨ v = 1), fun s v hs => ?_, fun _ => ⟨rfl, Or.inl rfl⟩, fun _ => ⟨rfl, Or.inr rfl⟩⟩⟩
  · rw [ltT, t_1] at z
    omega
  obtain ⟨rfl, hv⟩ := hs
  have D3 := ow_n (x := x63 / 3) (y := 10) (dv_nn hz (by decide)) rfl
  refine ⟨(show σ136.2.2 + 1 + 1 + 1 ≤ 3500 by omega), K_suspend G2.1 R2 hv (fun z => absurd D3 z) (fun _ σ3 L3 x33 R3 e33 ρ3 e3 => ?_)⟩
  subst e3
  have t9 : ¬ x33 < 0 := by
    rw [e33]
    unfold bz
    split <;> decide
  exact ⟨fun z => absurd z t9, fun _ => hJ _ _ _ _ _ _ (MI_c (GC_sus G2 (by rcases hv with z | z <;> rw [z] <;> decide)) R3 (show σ136.2.2 + 1 + 1 + 1 ≤ _ by omega) (VS_of hV rfl rfl rfl rfl rfl) h3 hn (Int.le_refl _))⟩
theorem c_pass {C : Cr} {i : Nat} {x2 x3 x4 x5 x63 x68 : Int32} {y6 : Int64} {J76 : Rh → Int32 → Int32 → Int32 → Int32 → Int64 → Int32 → Prop} (hG : GC C) (hi : i < 28) (hV : VS C x2 x3 x4 x5 y6) (hz : 0 ≤ x63.toInt) (hm : 0 ≤ x68.toInt ∧ x68.toInt ≤ C 200 0) (h3 : 3 ≤ C 200 1 ∧ C 200 1 ≤ 5) (hn : C 200 0 ≤ 6) (hJ : ∀ ρ a b c d e, MI i (C 200 0) ρ a b c d e 1 → J76 ρ a b c d e 1) {σ136 : Rh} (hR : Rel σ136.2.1 σ136.1 C) (hw : σ136.2.2 ≤ 64 * i) (h5 : ¬ 5 ≤ x5) : ∀ x138 : Int32, x138 = 1 + (jr x63 2) → ∀ x139 : Int32, x139 = x5 + x138 → σ136.2.2 + 1 ≤ 3500 ∧ wp_L_pass σ136.2.1 σ136.1 x138 (fun (x140 : Int32) (σ141 : Mm) (L142 : List Nat) => ∀ ρ144 : Rh, ρ144 = (σ141, L142, σ136.2.2 + 1) → (∃ J147 : Rh → Int32 → Prop, (∀ (σ145 : Rh) (x146 : Int32), J147 σ145 x146 → J76 σ145 x2 x3 x4 x139 y6 x146) ∧ ((¬ x140 = x139 → J147 ρ144 0) ∧ (¬ (¬ x140 = x139) → J147 ρ144 1)))) := by
  obtain ⟨v2, v3, v4, v5, v6⟩ := id hV
  have hn6 := hG.1.now
  rw [leT, show (5 : Int32).toInt = 5 from rfl] at h5
  intro x138 h138 x139 h139
  have D2 := one_p (c := 1) (k := 1) rfl (by omega) (jr_n (x := x63) (y := 2) (n := 2) hz rfl (by decide)) (by decide)
  rw [← h138] at D2
  have t139 : x139.toInt = C 200 0 + x138.toInt := by rw [h139, ad32 (by omega) (by omega), v5]
  refine ⟨by omega, K_pass hG.1 hR (fun z => absurd ⟨by omega, by omega⟩ z) (fun _ z => absurd (by omega) z) (fun d1 d2 σ' L' x9 R' e9 ρ1 e1 => ?_)⟩
  subst e1
  have t := l_T e9 (by omega) (by omega)
  have ex : x9 = x139 := eqT.mpr (by omega)
  exact okn (J := fun s v => J76 s x2 x3 x4 x139 y6 v) (hJ _ _ _ _ _ _ (MI_c (GC_pass hG (by omega) (by omega)) R' (by omega) ⟨v2, v3, v4, t139, v6⟩ h3 (show C 200 0 + x138.toInt ≤ 6 by omega) (show C 200 0 ≤ C 200 0 + x138.toInt by omega))) (fun z => z ex)
theorem c_pay {C : Cr} {i : Nat} {x2 x3 x4 x5 x63 x68 : Int32} {y6 : Int64} {J76 : Rh → Int32 → Int32 → Int32 → Int32 → Int64 → Int32 → Prop} (hG : GC C) (hi : i < 28) (hV : VS C x2 x3 x4 x5 y6) (hz : 0 ≤ x63.toInt) (hm : 0 ≤ x68.toInt ∧ x68.toInt ≤ C 200 0) (h3 : 3 ≤ C 200 1 ∧ C 200 1 ≤ 5) (hn : C 200 0 ≤ 6) (hJ : ∀ ρ a b c d e, MI i (C 200 0) ρ a b c d e 1 → J76 ρ a b c d e 1) {σ136 : Rh} (hR : Rel σ136.2.1 σ136.1 C) (hw : σ136.2.2 ≤ 64 * i) : (∃ n : Nat, lpw (S := Rh × Int64 × Int32) (fun (R151 : Rh × Int64 × Int32 → Prop) (s152 : Rh × Int64 × Int32) => match s152 with | (σ148, y149, x150) => ((10 ≤ x150 → σ148.2.2 < 3500 ∧ wp_X6_payDay σ148.2.1 σ148.1 (fun (y153 : Int64) (σ154 : Mm) => ∀ ρ156 : Rh, ρ156 = (σ154, σ148.2.1, σ148.2.2) → (∃ n : Nat, lpw (S := Rh × Int64 × Int32) (fun (R160 : Rh × Int64 × Int32 → Prop) (s161 : Rh × Int64 × Int32) => match s161 with | (σ157, y158, x159) => ((10 ≤ x159 → (∃ J164 : Rh → Int32 → Prop, (∀ (σ162 : Rh) (x163 : Int32), J164 σ162 x163 → J76 σ162 x2 x3 x4 x5 y6 x163) ∧ (∃ J166 : Rh → Prop, (∀ (σ165 : Rh), J166 σ165 → J164 σ165 0) ∧ ((y153 < 0 → J166 σ157) ∧ (¬ (y153 < 0) → ((¬ y158 = (y149 + y153) → J166 σ157) ∧ (¬ (¬ y158 = (y149 + y153)) → σ157.2.2 < 3500 ∧ wp_X6_payDay σ157.2.1 σ157.1 (fun (y167 : Int64) (σ168 : Mm) => ∀ ρ170 : Rh, ρ170 = (σ168, σ157.2.1, σ157.2.2) → ((¬ y167 = 0 → J166 ρ170) ∧ (¬ (¬ y167 = 0) → J164 ρ170 1)))))))))) ∧ (¬ (10 ≤ x159) → σ157.2.2 + 1 ≤ 3500 ∧ wp_L_paid σ157.2.1 σ157.1 x159 (fun (y171 : Int64) (σ172 : Mm) (L173 : List Nat) => ∀ ρ175 : Rh, ρ175 = (σ172, L173, σ157.2.2 + 1) → ∀ y176 : Int64, y176 = y158 + y171 → ∀ x177 : Int32, x177 = x159 + 1 → R160 (ρ175, y176, x177))))) n (ρ156, 0, 0)))) ∧ (¬ (10 ≤ x150) → σ148.2.2 + 1 ≤ 3500 ∧ wp_L_paid σ148.2.1 σ148.1 x150 (fun (y178 : Int64) (σ179 : Mm) (L180 : List Nat) => ∀ ρ182 : Rh, ρ182 = (σ179, L180, σ148.2.2 + 1) → ∀ y183 : Int64, y183 = y149 + y178 → ∀ x184 : Int32, x184 = x150 + 1 → R151 (ρ182, y183, x184))))) n (σ136, 0, 0)) := by
  obtain ⟨v2, v3, v4, v5, v6⟩ := id hV
  have hD : ∀ k : Nat, k < 10 → dOw (iZ (k : Int)).toInt := fun k hk => by rw [n_iZ (by omega)]; exact ⟨by omega, by omega⟩
  have G1 := GC_pay hG
  have G2 := GC_pay G1
  have tp := TP_rg hG.1 hG.2.1
  refine lpw_inv (fun k (s : Rh × Int64 × Int32) => Rel s.1.2.1 s.1.1 C ∧ s.1.2.2 ≤ 64 * i + k ∧ s.2.1 = lZ (sm (fun o => C 223 o) k) ∧ s.2.2 = iZ (k : Int)) 10 ⟨hR, hw, rfl, rfl⟩ ?_
  intro k s rec hk hs hrec
  obtain ⟨σ148, y149, x150⟩ := s
  obtain ⟨R1, w1, e1, e2⟩ := hs
  dsimp only at R1 w1 e1 e2
  subst e1 e2
  have ti1 : (iZ (k : Int)).toInt = k := n_iZ (by omega)
  refine ⟨fun q => ⟨by omega, ?_⟩, fun q => ⟨by omega, K_paid R1 (fun z => absurd (hD k (by rw [leT, ti1, t_10] at q; omega)) z) (fun _ σ' L' y9 R' e9 ρ1 h1 y183 h183 x184 h184 => hrec (by rw [leT, ti1, t_10] at q; omega) _ ⟨?_, ?_, ?_, by rw [h184, iZ_s]⟩)⟩⟩
  rotate_left
  · rw [h1]; exact R'
  · rw [h1]
    show σ148.2.2 + 1 ≤ _
    omega
  · show y183 = _
    rw [h183, e9, ti1, Int.toNat_natCast, lZ_add, sm_s]
  rw [leT, ti1, t_10] at q
  have e : k = 10 := by omega
  subst e
  clear hrec
  refine k_payDay hG.1 R1 (fun σ2 R2 ρ156 h156 => ?_)
  subst h156
  refine lpw_inv (fun k (s : Rh × Int64 × Int32) => Rel s.1.2.1 s.1.1 (uPay C 10) ∧ s.1.2.2 ≤ 64 * i + 10 + k ∧ s.2.1 = lZ (sm (fun o => uPay C 10 223 o) k) ∧ s.2.2 = iZ (k : Int)) 10 ⟨R2, w1, rfl, rfl⟩ ?_
  intro k s rec hk hs hrec
  obtain ⟨σ157, y158, x159⟩ := s
  obtain ⟨R3, w3, e3, e4⟩ := hs
  dsimp only at R3 w3 e3 e4
  subst e3 e4
  have ti3 : (iZ (k : Int)).toInt = k := n_iZ (by omega)
  refine ⟨fun q3 => ?_, fun q3 => ⟨by omega, K_paid R3 (fun z => absurd (hD k (by rw [leT, ti3, t_10] at q3; omega)) z) (fun _ σ' L' y9 R' e9 ρ1 h1 y183 h183 x184 h184 => hrec (by rw [leT, ti3, t_10] at q3; omega) _ ⟨?_, ?_, ?_, by rw [h184, iZ_s]⟩)⟩⟩
  rotate_left
  · rw [h1]; exact R'
  · rw [h1]
    show σ157.2.2 + 1 ≤ _
    omega
  · show y183 = _
    rw [h183, e9, ti3, Int.toNat_natCast, lZ_add, sm_s]
  rw [leT, ti3, t_10] at q3
  have e : k = 10 := by omega
  subst e
  clear hrec
  refine ⟨fun s u => J76 s x2 x3 x4 x5 y6 u, fun _ _ h => h, fun _ => False, fun _ z => z.elim, fun z => ?_, fun _ => ⟨fun z => absurd ?_ z, fun _ => ⟨by omega, k_payDay G1.1 R3 (fun σ4 R4 ρ170 h170 => ⟨fun z => absurd ?_ z, fun _ => ?_⟩)⟩⟩⟩
  · rw [Int64.lt_iff_toInt_lt, show (0 : Int64).toInt = 0 from rfl] at z
    have : (lZ (TP C)).toInt < 0 := z
    rw [toInt_lZ (by omega) (by omega)] at this
    omega
  · rw [paid_sum hG.1 hG.2.1, ← lZ_add]
    rfl
  · show lZ (TP (uPay C 10)) = 0
    rw [TP_two hG.1 hG.2.1]
    rfl
  · subst h170
    refine hJ _ _ _ _ _ _ (MI_c G2 R4 (show σ157.2.2 ≤ _ by omega) ⟨?_, ?_, ?_, ?_, ?_⟩ ?_ ?_ ?_)
    · rw [uPay_o (by decide), uPay_o (by decide)]; exact v2
    · rw [uPay_o (by decide), uPay_o (by decide)]; exact v3
    · rw [uPay_o (by decide), uPay_o (by decide)]; exact v4
    · rw [uPay_o (by decide), uPay_o (by decide)]; exact v5
    · rw [OT_pay, OT_pay]; exact v6
    · rw [uPay_o (by decide), uPay_o (by decide)]; exact h3
    · rw [uPay_o (by decide), uPay_o (by decide)]; exact hn
    · rw [uPay_o (by decide), uPay_o (by decide)]; exact Int.le_refl _
