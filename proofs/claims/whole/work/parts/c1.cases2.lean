/-! PURE: the law's cases, on -/
theorem lc_6 {xs : Nat → Int32} {N : Nat} {ρ : Rh} {x : Int32} (hG : GO ρ) (v1 : vp_in (x + 1) N) (v2 : vp_in (x + 2) N) (v3 : vp_in (x + 3) N) (v4 : vp_in (x + 4) N) (v5 : vp_in (x + 5) N) : vp_in (x + 1) N ∧ wp_L_unit ρ.2.1 ρ.1 (xs (x + 1).toNatClampNeg) (fun (x124 : Int32) (σ125 : Mm) (L126 : List Nat) => ∀ ρ127 : Rh, ρ127 = (σ125, L126, ρ.2.2) → vp_in (x + 1) N ∧ wp_X7_unit ρ127.2.2 (xs (x + 1).toNatClampNeg) (fun (x129 : Int32) (τ130 : Mm) => ∀ ρ131 : Rh, ρ131 = (ρ127.1, ρ127.2.1, τ130) → wp_X7_thrown ρ131.2.2  (fun (x132 : Int32) (τ133 : Mm) => ∀ ρ134 : Rh, ρ134 = (ρ131.1, ρ131.2.1, τ133) → ((x132 = x124 → (∃ J136 : Rh → Prop, (∀ (σ135 : Rh), J136 σ135 → GO σ135) ∧ ((¬ x124 = 0 → J136 ρ134) ∧ (¬ (¬ x124 = 0) → vp_in 0 1 ∧ (((gJ ρ134.1 17 (0 : Int32).toNatClampNeg) = x129.toInt64 → J136 ρ134) ∧ (¬ ((gJ ρ134.1 17 (0 : Int32).toNatClampNeg) = x129.toInt64) → False)))))) ∧ (¬ (x132 = x124) → False))))) := by
  obtain ⟨C, hI, hc, hR⟩ := hG
  refine ⟨v1, K_unit hI hR (fun z σ' L' R' y0 y1 y2 ρ1 h1 => ?_) (fun d1 d2 σ' L' R' O' ρ1 h1 => ?_)⟩
  · subst h1
    refine ⟨v1, M_unit hc hI (fun _ τ' c' t' ρ2 h2 => ?_) (fun d1 d2 => absurd ⟨d1, d2, trivial⟩ z)⟩
    subst h2
    intro ρ3 h3
    subst h3
    have e : rf (dUn1 C (xs (x + 1).toNatClampNeg)) (dUn2 C (xs (x + 1).toNatClampNeg)) True = y0 := rf_x2 z y1 y2
    exact tailI (t'.trans e) ⟨C, hI, c', R'⟩ (fun y => absurd (e.trans y) (rf_ne z))
  · subst h1
    refine ⟨v1, M_unit hc hI (fun z => absurd ⟨d1, d2, trivial⟩ z) (fun _ _ τ' y c' t' w ρ2 h2 => ?_)⟩
    subst h2
    intro ρ3 h3
    subst h3
    exact tailI t' ⟨_, Inv_unit hI d1 d2, c', R'⟩ (fun _ => by rw [i2lT w]; exact O')
theorem lc_7 {xs : Nat → Int32} {N : Nat} {ρ : Rh} {x : Int32} (hG : GO ρ) (v1 : vp_in (x + 1) N) (v2 : vp_in (x + 2) N) (v3 : vp_in (x + 3) N) (v4 : vp_in (x + 4) N) (v5 : vp_in (x + 5) N) : vp_in (x + 1) N ∧ wp_L_well ρ.2.1 ρ.1 (xs (x + 1).toNatClampNeg) (fun (x139 : Int32) (σ140 : Mm) (L141 : List Nat) => ∀ ρ142 : Rh, ρ142 = (σ140, L141, ρ.2.2) → vp_in (x + 1) N ∧ wp_X7_well ρ142.2.2 (xs (x + 1).toNatClampNeg) (fun (x144 : Int32) (τ145 : Mm) => ∀ ρ146 : Rh, ρ146 = (ρ142.1, ρ142.2.1, τ145) → wp_X7_thrown ρ146.2.2  (fun (x147 : Int32) (τ148 : Mm) => ∀ ρ149 : Rh, ρ149 = (ρ146.1, ρ146.2.1, τ148) → ((x147 = x139 → (∃ J151 : Rh → Prop, (∀ (σ150 : Rh), J151 σ150 → GO σ150) ∧ ((¬ x139 = 0 → J151 ρ149) ∧ (¬ (¬ x139 = 0) → vp_in 0 1 ∧ (((gJ ρ149.1 17 (0 : Int32).toNatClampNeg) = x144.toInt64 → J151 ρ149) ∧ (¬ ((gJ ρ149.1 17 (0 : Int32).toNatClampNeg) = x144.toInt64) → False)))))) ∧ (¬ (x147 = x139) → False))))) := by
  obtain ⟨C, hI, hc, hR⟩ := hG
  refine ⟨v1, K_well hI hR (fun z σ' L' R' ρ1 h1 => ?_) (fun d1 d2 σ' L' R' O' ρ1 h1 => ?_)⟩
  · subst h1
    refine ⟨v1, M_well hc hI (fun _ τ' c' t' ρ2 h2 => ?_) (fun d1 d2 => absurd ⟨d1, d2, trivial⟩ z)⟩
    subst h2
    intro ρ3 h3
    subst h3
    exact tailI t' ⟨C, hI, c', R'⟩ (fun y => absurd y (rf_ne z))
  · subst h1
    refine ⟨v1, M_well hc hI (fun z => absurd ⟨d1, d2, trivial⟩ z) (fun _ _ τ' y c' t' w ρ2 h2 => ?_)⟩
    subst h2
    intro ρ3 h3
    subst h3
    exact tailI t' ⟨_, Inv_well hI d1 d2, c', R'⟩ (fun _ => by rw [i2lT w]; exact O')
theorem lc_8 {xs : Nat → Int32} {N : Nat} {ρ : Rh} {x : Int32} (hG : GO ρ) (v1 : vp_in (x + 1) N) (v2 : vp_in (x + 2) N) (v3 : vp_in (x + 3) N) (v4 : vp_in (x + 4) N) (v5 : vp_in (x + 5) N) : vp_in (x + 1) N ∧ vp_in (x + 2) N ∧ vp_in (x + 3) N ∧ vp_in (x + 4) N ∧ wp_L_oil ρ.2.1 ρ.1 (xs (x + 1).toNatClampNeg) (xs (x + 2).toNatClampNeg) (xs (x + 3).toNatClampNeg) (xs (x + 4).toNatClampNeg) (fun (x157 : Int32) (σ158 : Mm) (L159 : List Nat) => ∀ ρ160 : Rh, ρ160 = (σ158, L159, ρ.2.2) → vp_in (x + 1) N ∧ vp_in (x + 2) N ∧ vp_in (x + 3) N ∧ vp_in (x + 4) N ∧ wp_X7_oil ρ160.2.2 (xs (x + 1).toNatClampNeg) (xs (x + 2).toNatClampNeg) (xs (x + 3).toNatClampNeg) (xs (x + 4).toNatClampNeg) (fun (x165 : Int32) (τ166 : Mm) => ∀ ρ167 : Rh, ρ167 = (ρ160.1, ρ160.2.1, τ166) → wp_X7_thrown ρ167.2.2  (fun (x168 : Int32) (τ169 : Mm) => ∀ ρ170 : Rh, ρ170 = (ρ167.1, ρ167.2.1, τ169) → ((x168 = x157 → (∃ J172 : Rh → Prop, (∀ (σ171 : Rh), J172 σ171 → GO σ171) ∧ ((¬ x157 = 0 → J172 ρ170) ∧ (¬ (¬ x157 = 0) → vp_in 0 1 ∧ (((gJ ρ170.1 17 (0 : Int32).toNatClampNeg) = x165.toInt64 → J172 ρ170) ∧ (¬ ((gJ ρ170.1 17 (0 : Int32).toNatClampNeg) = x165.toInt64) → False)))))) ∧ (¬ (x168 = x157) → False))))) := by
  obtain ⟨C, hI, hc, hR⟩ := hG
  refine ⟨v1, v2, v3, v4, K_oil hI hR (fun z σ' L' R' ρ1 h1 => ?_) (fun d1 d2 d3 σ' L' R' O' ρ1 h1 => ?_)⟩
  · subst h1
    refine ⟨v1, v2, v3, v4, M_oil hc hI (fun _ τ' c' t' ρ2 h2 => ?_) (fun d1 d2 d3 => absurd ⟨d1, d2, d3⟩ z)⟩
    subst h2
    intro ρ3 h3
    subst h3
    exact tailI t' ⟨C, hI, c', R'⟩ (fun y => absurd y (rf_ne z))
  · subst h1
    refine ⟨v1, v2, v3, v4, M_oil hc hI (fun z => absurd ⟨d1, d2, d3⟩ z) (fun _ _ _ τ' y c' t' w ρ2 h2 => ?_)⟩
    subst h2
    intro ρ3 h3
    subst h3
    exact tailI t' ⟨_, Inv_oil hI d1 d2, c', R'⟩ (fun _ => by rw [i2lT w]; exact O')
theorem lc_9 {xs : Nat → Int32} {N : Nat} {ρ : Rh} {x : Int32} (hG : GO ρ) (v1 : vp_in (x + 1) N) (v2 : vp_in (x + 2) N) (v3 : vp_in (x + 3) N) (v4 : vp_in (x + 4) N) (v5 : vp_in (x + 5) N) : vp_in (x + 1) N ∧ vp_in (x + 2) N ∧ vp_in (x + 3) N ∧ wp_L_cost ρ.2.1 ρ.1 (xs (x + 1).toNatClampNeg) (xs (x + 2).toNatClampNeg) (xs (x + 3).toNatClampNeg) (fun (x177 : Int32) (σ178 : Mm) (L179 : List Nat) => ∀ ρ180 : Rh, ρ180 = (σ178, L179, ρ.2.2) → vp_in (x + 1) N ∧ vp_in (x + 2) N ∧ vp_in (x + 3) N ∧ wp_X7_cost ρ180.2.2 (xs (x + 1).toNatClampNeg) (xs (x + 2).toNatClampNeg) (xs (x + 3).toNatClampNeg) (fun (x184 : Int32) (τ185 : Mm) => ∀ ρ186 : Rh, ρ186 = (ρ180.1, ρ180.2.1, τ185) → wp_X7_thrown ρ186.2.2  (fun (x187 : Int32) (τ188 : Mm) => ∀ ρ189 : Rh, ρ189 = (ρ186.1, ρ186.2.1, τ188) → ((x187 = x177 → (∃ J191 : Rh → Prop, (∀ (σ190 : Rh), J191 σ190 → GO σ190) ∧ ((¬ x177 = 0 → J191 ρ189) ∧ (¬ (¬ x177 = 0) → vp_in 0 1 ∧ (((gJ ρ189.1 17 (0 : Int32).toNatClampNeg) = x184.toInt64 → J191 ρ189) ∧ (¬ ((gJ ρ189.1 17 (0 : Int32).toNatClampNeg) = x184.toInt64) → False)))))) ∧ (¬ (x187 = x177) → False))))) := by
  obtain ⟨C, hI, hc, hR⟩ := hG
  refine ⟨v1, v2, v3, K_cost hI hR (fun z σ' L' R' ρ1 h1 => ?_) (fun d1 d2 d3 σ' L' R' O' ρ1 h1 => ?_)⟩
  · subst h1
    refine ⟨v1, v2, v3, M_cost hc hI (fun _ τ' c' t' ρ2 h2 => ?_) (fun d1 d2 d3 => absurd ⟨d1, d2, d3⟩ z)⟩
    subst h2
    intro ρ3 h3
    subst h3
    exact tailI t' ⟨C, hI, c', R'⟩ (fun y => absurd y (rf_ne z))
  · subst h1
    refine ⟨v1, v2, v3, M_cost hc hI (fun z => absurd ⟨d1, d2, d3⟩ z) (fun _ _ _ τ' y c' t' w ρ2 h2 => ?_)⟩
    subst h2
    intro ρ3 h3
    subst h3
    exact tailI t' ⟨_, Inv_cost hI d1 d2.1 d3, c', R'⟩ (fun _ => by rw [i2lT w]; exact O')
theorem lc_10 {xs : Nat → Int32} {N : Nat} {ρ : Rh} {x : Int32} (hG : GO ρ) (v1 : vp_in (x + 1) N) (v2 : vp_in (x + 2) N) (v3 : vp_in (x + 3) N) (v4 : vp_in (x + 4) N) (v5 : vp_in (x + 5) N) : vp_in (x + 1) N ∧ vp_in (x + 2) N ∧ wp_L_tax ρ.2.1 ρ.1 (xs (x + 1).toNatClampNeg) (xs (x + 2).toNatClampNeg) (fun (x195 : Int32) (σ196 : Mm) (L197 : List Nat) => ∀ ρ198 : Rh, ρ198 = (σ196, L197, ρ.2.2) → vp_in (x + 1) N ∧ vp_in (x + 2) N ∧ wp_X7_tax ρ198.2.2 (xs (x + 1).toNatClampNeg) (xs (x + 2).toNatClampNeg) (fun (x201 : Int32) (τ202 : Mm) => ∀ ρ203 : Rh, ρ203 = (ρ198.1, ρ198.2.1, τ202) → wp_X7_thrown ρ203.2.2  (fun (x204 : Int32) (τ205 : Mm) => ∀ ρ206 : Rh, ρ206 = (ρ203.1, ρ203.2.1, τ205) → ((x204 = x195 → (∃ J208 : Rh → Prop, (∀ (σ207 : Rh), J208 σ207 → GO σ207) ∧ ((¬ x195 = 0 → J208 ρ206) ∧ (¬ (¬ x195 = 0) → vp_in 0 1 ∧ (((gJ ρ206.1 17 (0 : Int32).toNatClampNeg) = x201.toInt64 → J208 ρ206) ∧ (¬ ((gJ ρ206.1 17 (0 : Int32).toNatClampNeg) = x201.toInt64) → False)))))) ∧ (¬ (x204 = x195) → False))))) := by
  obtain ⟨C, hI, hc, hR⟩ := hG
  refine ⟨v1, v2, K_tax hI hR (fun z σ' L' R' ρ1 h1 => ?_) (fun d1 d2 σ' L' R' O' ρ1 h1 => ?_)⟩
  · subst h1
    refine ⟨v1, v2, M_tax hc hI (fun _ τ' c' t' ρ2 h2 => ?_) (fun d1 d2 => absurd ⟨d1, d2, trivial⟩ z)⟩
    subst h2
    intro ρ3 h3
    subst h3
    exact tailI t' ⟨C, hI, c', R'⟩ (fun y => absurd y (rf_ne z))
  · subst h1
    refine ⟨v1, v2, M_tax hc hI (fun z => absurd ⟨d1, d2, trivial⟩ z) (fun _ _ τ' c' t' ρ2 h2 => ?_)⟩
    subst h2
    intro ρ3 h3
    subst h3
    have hn := hI.now
    have tr := txn_rg hI ((xs (x + 2).toNatClampNeg).toInt.toNat + 1) (by omega)
    exact tailI t' ⟨_, Inv_tax hI d2, c', R'⟩ (fun _ => by rw [iZ_l (by omega) (by omega)]; exact O')
theorem lc_11 {xs : Nat → Int32} {N : Nat} {ρ : Rh} {x : Int32} (hG : GO ρ) (v1 : vp_in (x + 1) N) (v2 : vp_in (x + 2) N) (v3 : vp_in (x + 3) N) (v4 : vp_in (x + 4) N) (v5 : vp_in (x + 5) N) : vp_in (x + 1) N ∧ vp_in (x + 2) N ∧ vp_in (x + 3) N ∧ (∃ J215 : Rh → Int32 → Prop, (∀ (σ213 : Rh) (x214 : Int32), J215 σ213 x214 → wp_L_consent σ213.2.1 σ213.1 (xs (x + 1).toNatClampNeg) (xs (x + 2).toNatClampNeg) x214 (fun (x216 : Int32) (σ217 : Mm) (L218 : List Nat) => ∀ ρ219 : Rh, ρ219 = (σ217, L218, σ213.2.2) → vp_in (x + 1) N ∧ vp_in (x + 2) N ∧ vp_in (x + 3) N ∧ (∃ J225 : Rh → Int32 → Prop, (∀ (σ223 : Rh) (x224 : Int32), J225 σ223 x224 → wp_X7_consent σ223.2.2 (xs (x + 1).toNatClampNeg) (xs (x + 2).toNatClampNeg) x224 (fun (x226 : Int32) (τ227 : Mm) => ∀ ρ228 : Rh, ρ228 = (σ223.1, σ223.2.1, τ227) → wp_X7_thrown ρ228.2.2  (fun (x229 : Int32) (τ230 : Mm) => ∀ ρ231 : Rh, ρ231 = (ρ228.1, ρ228.2.1, τ230) → ((x229 = x216 → (∃ J233 : Rh → Prop, (∀ (σ232 : Rh), J233 σ232 → GO σ232) ∧ ((¬ x216 = 0 → J233 ρ231) ∧ (¬ (¬ x216 = 0) → vp_in 0 1 ∧ (∃ J237 : Rh → Int64 → Prop, (∀ (σ235 : Rh) (y236 : Int64), J237 σ235 y236 → (((gJ ρ231.1 17 (0 : Int32).toNatClampNeg) = y236 → J233 σ235) ∧ (¬ ((gJ ρ231.1 17 (0 : Int32).toNatClampNeg) = y236) → False))) ∧ ((x226 = 0 → J237 ρ231 0) ∧ (¬ (x226 = 0) → J237 ρ231 1))))))) ∧ (¬ (x229 = x216) → False))))) ∧ (((xs (x + 3).toNatClampNeg) = 0 → J225 ρ219 0) ∧ (¬ ((xs (x + 3).toNatClampNeg) = 0) → J225 ρ219 1))))) ∧ (((xs (x + 3).toNatClampNeg) = 0 → J215 ρ 0) ∧ (¬ ((xs (x + 3).toNatClampNeg) = 0) → J215 ρ 1))) := by
  obtain ⟨C, hI, hc, hR⟩ := hG
  by_cases hb : xs (x + 3).toNatClampNeg = 0
  · refine ⟨v1, v2, v3, jn2 ⟨fun _ => K_consent hI hR (fun z σ' L' R' ρ1 h1 => ?_) (fun d1 σ' L' R' O' ρ1 h1 => ?_), fun w => absurd hb w⟩⟩
    · subst h1
      refine ⟨v1, v2, v3, jn2 ⟨fun _ => M_consent hc hI (fun _ τ' c' t' ρ2 h2 => ?_) (fun d1 => absurd d1 z), fun w => absurd hb w⟩⟩
      subst h2
      intro ρ3 h3
      subst h3
      exact tailBn t' ⟨C, hI, c', R'⟩ (by decide)
    · subst h1
      refine ⟨v1, v2, v3, jn2 ⟨fun _ => M_consent hc hI (fun z => absurd d1 z) (fun _ τ' c' t' ρ2 h2 => ?_), fun w => absurd hb w⟩⟩
      subst h2
      intro ρ3 h3
      subst h3
      exact tailB t' ⟨_, Inv_con hI d1 (by simp), c', R'⟩ rfl (fun _ => O')
  · refine ⟨v1, v2, v3, jn2 ⟨fun w => absurd w hb, fun _ => K_consent hI hR (fun z σ' L' R' ρ1 h1 => ?_) (fun d1 σ' L' R' O' ρ1 h1 => ?_)⟩⟩
    · subst h1
      refine ⟨v1, v2, v3, jn2 ⟨fun w => absurd w hb, fun _ => M_consent hc hI (fun _ τ' c' t' ρ2 h2 => ?_) (fun d1 => absurd d1 z)⟩⟩
      subst h2
      intro ρ3 h3
      subst h3
      exact tailBn t' ⟨C, hI, c', R'⟩ (by decide)
    · subst h1
      refine ⟨v1, v2, v3, jn2 ⟨fun w => absurd w hb, fun _ => M_consent hc hI (fun z => absurd d1 z) (fun _ τ' c' t' ρ2 h2 => ?_)⟩⟩
      subst h2
      intro ρ3 h3
      subst h3
      exact tailB t' ⟨_, Inv_con hI d1 (by simp), c', R'⟩ rfl (fun _ => O')
