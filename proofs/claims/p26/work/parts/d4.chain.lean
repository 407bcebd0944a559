/-! PURE: the law's chain of cases; what it asks behind each -/
theorem ps {x : Int32} (h : ¬ x ≤ 0) : 0 < x.toInt := by
  rw [leT, t_0] at h
  omega
theorem c_main {C : Cr} {i : Nat} {x2 x3 x4 x5 x7 x63 x65 x68 : Int32} {y6 : Int64} {J76 : Rh → Int32 → Int32 → Int32 → Int32 → Int64 → Int32 → Prop} (hG : GC C) (hi : i < 28) (hV : VS C x2 x3 x4 x5 y6) (hz : 0 ≤ x63.toInt) (hm : 0 ≤ x68.toInt ∧ x68.toInt ≤ C 200 0) (h2 : (i : Int) ≤ C 200 1 ∨ 3 ≤ C 200 1) (ht : C 200 1 ≤ 5) (hk : ¬ x65 = 0 → 3 ≤ C 200 1) (hn : C 200 0 ≤ 6) (hJ : ∀ ρ a b c d e, MI i (C 200 0) ρ a b c d e 1 → J76 ρ a b c d e 1) {σ64 : Rh} (hR : Rel σ64.2.1 σ64.1 C) (hw : σ64.2.2 ≤ 64 * i) (e7 : x7 = 1) : (∃ J129 : Rh → Prop, (∀ (σ128 : Rh), J129 σ128 → ((2 ≤ x65 → ((¬ x65 = 2 → (∃ J131 : Rh → Prop, (∀ (σ130 : Rh), J131 σ130 → ((6 ≤ x65 → (∃ J133 : Rh → Prop, (∀ (σ132 : Rh), J133 σ132 → (∃ J135 : Rh → Prop, (∀ (σ134 : Rh), J135 σ134 → (∃ J137 : Rh → Prop, (∀ (σ136 : Rh), J137 σ136 → ((¬ x65 = 12 → ((¬ x65 = 13 → ((5 ≤ x5 → J76 σ136 x2 x3 x4 x5 y6 x7) ∧ (¬ (5 ≤ x5) → ∀ x138 : Int32, x138 = 1 + (jr x63 2) → ∀ x139 : Int32, x139 = x5 + x138 → σ136.2.2 + 1 ≤ 3500 ∧ wp_L_pass σ136.2.1 σ136.1 x138 (fun (x140 : Int32) (σ141 : Mm) (L142 : List Nat) => ∀ ρ144 : Rh, ρ144 = (σ141, L142, σ136.2.2 + 1) → (∃ J147 : Rh → Int32 → Prop, (∀ (σ145 : Rh) (x146 : Int32), J147 σ145 x146 → J76 σ145 x2 x3 x4 x139 y6 x146) ∧ ((¬ x140 = x139 → J147 ρ144 0) ∧ (¬ (¬ x140 = x139) → J147 ρ144 1))))))) ∧ (¬ (¬ x65 = 13) → (∃ n : Nat, lpw (S := Rh × Int64 × Int32) (fun (R151 : Rh × Int64 × Int32 → Prop) (s152 : Rh × Int64 × Int32) => match s152 with | (σ148, y149, x150) => ((10 ≤ x150 → σ148.2.2 < 3500 ∧ wp_X6_payDay σ148.2.1 σ148.1 (fun (y153 : Int64) (σ154 : Mm) => ∀ ρ156 : Rh, ρ156 = (σ154, σ148.2.1, σ148.2.2) → (∃ n : Nat, lpw (S := Rh × Int64 × Int32) (fun (R160 : Rh × Int64 × Int32 → Prop) (s161 : Rh × Int64 × Int32) => match s161 with | (σ157, y158, x159) => ((10 ≤ x159 → (∃ J164 : Rh → Int32 → Prop, (∀ (σ162 : Rh) (x163 : Int32), J164 σ162 x163 → J76 σ162 x2 x3 x4 x5 y6 x163) ∧ (∃ J166 : Rh → Prop, (∀ (σ165 : Rh), J166 σ165 → J164 σ165 0) ∧ ((y153 < 0 → J166 σ157) ∧ (¬ (y153 < 0) → ((¬ y158 = (y149 + y153) → J166 σ157) ∧ (¬ (¬ y158 = (y149 + y153)) → σ157.2.2 < 3500 ∧ wp_X6_payDay σ157.2.1 σ157.1 (fun (y167 : Int64) (σ168 : Mm) => ∀ ρ170 : Rh, ρ170 = (σ168, σ157.2.1, σ157.2.2) → ((¬ y167 = 0 → J166 ρ170) ∧ (¬ (¬ y167 = 0) → J164 ρ170 1)))))))))) ∧ (¬ (10 ≤ x159) → σ157.2.2 + 1 ≤ 3500 ∧ wp_L_paid σ157.2.1 σ157.1 x159 (fun (y171 : Int64) (σ172 : Mm) (L173 : List Nat) => ∀ ρ175 : Rh, ρ175 = (σ172, L173, σ157.2.2 + 1) → ∀ y176 : Int64, y176 = y158 + y171 → ∀ x177 : Int32, x177 = x159 + 1 → R160 (ρ175, y176, x177))))) n (ρ156, 0, 0)))) ∧ (¬ (10 ≤ x150) → σ148.2.2 + 1 ≤ 3500 ∧ wp_L_paid σ148.2.1 σ148.1 x150 (fun (y178 : Int64) (σ179 : Mm) (L180 : List Nat) => ∀ ρ182 : Rh, ρ182 = (σ179, L180, σ148.2.2 + 1) → ∀ y183 : Int64, y183 = y149 + y178 → ∀ x184 : Int32, x184 = x150 + 1 → R151 (ρ182, y183, x184))))) n (σ136, 0, 0))))) ∧ (¬ (¬ x65 = 12) → σ136.2.2 + 1 ≤ 3500 ∧ wp_L_tax σ136.2.1 σ136.1 (jr x63 51) x68 (fun (x185 : Int32) (σ186 : Mm) (L187 : List Nat) => ∀ ρ189 : Rh, ρ189 = (σ186, L187, σ136.2.2 + 1) → (∃ J192 : Rh → Int32 → Prop, (∀ (σ190 : Rh) (x191 : Int32), J192 σ190 x191 → J76 σ190 x2 x3 x4 x5 y6 x191) ∧ (∃ J194 : Rh → Prop, (∀ (σ193 : Rh), J194 σ193 → J192 σ193 0) ∧ ((x185 < 0 → J194 ρ189) ∧ (¬ (x185 < 0) → ρ189.2.2 + 1 ≤ 3500 ∧ wp_L_least ρ189.2.1 ρ189.1 (1 + (jr (x63 / 51) 5000)) (fun (x195 : Int32) (σ196 : Mm) (L197 : List Nat) => ∀ ρ199 : Rh, ρ199 = (σ196, L197, ρ189.2.2 + 1) → ((x195 < 1 → J194 ρ199) ∧ (¬ (x195 < 1) → (∃ J202 : Rh → Int32 → Prop, (∀ (σ200 : Rh) (x201 : Int32), J202 σ200 x201 → σ200.2.2 + 1 ≤ 3500 ∧ wp_L_suspend σ200.2.1 σ200.1 (jr (x63 / 3) 10) x201 (fun (x203 : Int32) (σ204 : Mm) (L205 : List Nat) => ∀ ρ207 : Rh, ρ207 = (σ204, L205, σ200.2.2 + 1) → ((x203 < 0 → J194 ρ207) ∧ (¬ (x203 < 0) → J192 ρ207 1)))) ∧ ((¬ (jr x63 2) = 0 → J202 ρ199 0) ∧ (¬ (¬ (jr x63 2) = 0) → J202 ρ199 1)))))))))))))) ∧ ((¬ x65 = 11 → J137 σ134) ∧ (¬ (¬ x65 = 11) → ((x3 ≤ 0 → J137 σ134) ∧ (¬ (x3 ≤ 0) → ¬ x3 = 0 ∧ (∃ J211 : Rh → Int32 → Prop, (∀ (σ209 : Rh) (x210 : Int32), J211 σ209 x210 → σ209.2.2 + 1 ≤ 3500 ∧ wp_L_consent σ209.2.1 σ209.1 (jr x63 x3) (jr (x63 / 3) 10) x210 (fun (x212 : Int32) (σ213 : Mm) (L214 : List Nat) => ∀ ρ216 : Rh, ρ216 = (σ213, L214, σ209.2.2 + 1) → (∃ J219 : Rh → Int32 → Prop, (∀ (σ217 : Rh) (x218 : Int32), J219 σ217 x218 → J76 σ217 x2 x3 x4 x5 y6 x218) ∧ (∃ J221 : Rh → Prop, (∀ (σ220 : Rh), J221 σ220 → J219 σ220 0) ∧ ((x212 < 0 → J221 ρ216) ∧ (¬ (x212 < 0) → ρ216.2.2 + 1 ≤ 3500 ∧ wp_L_penalty ρ216.2.1 ρ216.1 (100 + (jr (x63 / 90) 401)) (fun (x222 : Int32) (σ223 : Mm) (L224 : List Nat) => ∀ ρ226 : Rh, ρ226 = (σ223, L224, ρ216.2.2 + 1) → ((x222 < 100 → J221 ρ226) ∧ (¬ (x222 < 100) → J219 ρ226 1))))))))) ∧ ((¬ (jr (x63 / 30) 3) = 0 → J211 σ134 0) ∧ (¬ (¬ (jr (x63 / 30) 3) = 0) → J211 σ134 1))))))))) ∧ ((11 ≤ x65 → J135 σ132) ∧ (¬ (11 ≤ x65) → ((x4 ≤ 0 → J135 σ132) ∧ (¬ (x4 ≤ 0) → ∀ x227 : Int32, x227 = 1 + (jr (x63 / 6) 200000) → ¬ x4 = 0 ∧ σ132.2.2 + 1 ≤ 3500 ∧ wp_L_cost σ132.2.1 σ132.1 (jr x63 x4) x68 x227 (fun (x229 : Int32) (σ230 : Mm) (L231 : List Nat) => ∀ ρ233 : Rh, ρ233 = (σ230, L231, σ132.2.2 + 1) → (∃ J236 : Rh → Int32 → Prop, (∀ (σ234 : Rh) (x235 : Int32), J236 σ234 x235 → (∃ J239 : Rh → Int64 → Prop, (∀ (σ237 : Rh) (y238 : Int64), J239 σ237 y238 → ∀ y240 : Int64, y240 = y6 + y238 → J76 σ237 x2 x3 x4 x5 y240 x235) ∧ ((x229 ≤ 0 → J239 σ234 0) ∧ (¬ (x229 ≤ 0) → J239 σ234 x227.toInt64)))) ∧ (∃ J242 : Rh → Prop, (∀ (σ241 : Rh), J242 σ241 → J236 σ241 1) ∧ ((x229 = (-103) → J242 ρ233) ∧ (¬ (x229 = (-103)) → ((x229 < x227 → J236 ρ233 0) ∧ (¬ (x229 < x227) → J242 ρ233))))))))))))) ∧ ((9 ≤ x65 → J133 σ130) ∧ (¬ (9 ≤ x65) → ((x4 ≤ 0 → J133 σ130) ∧ (¬ (x4 ≤ 0) → ¬ x4 = 0 ∧ σ130.2.2 + 1 ≤ 3500 ∧ wp_L_oil σ130.2.1 σ130.1 (jr x63 x4) x68 (jr (x63 / 6) 1001) (jr (x63 / 6006) 10001) (fun (x244 : Int32) (σ245 : Mm) (L246 : List Nat) => ∀ ρ248 : Rh, ρ248 = (σ245, L246, σ130.2.2 + 1) → (∃ J251 : Rh → Int32 → Prop, (∀ (σ249 : Rh) (x250 : Int32), J251 σ249 x250 → J76 σ249 x2 x3 x4 x5 y6 x250) ∧ ((x244 = (-101) → J251 ρ248 0) ∧ (¬ (x244 = (-101)) → J251 ρ248 1)))))))))) ∧ (¬ (6 ≤ x65) → ¬ x2 = 0 ∧ σ130.2.2 + 1 ≤ 3500 ∧ wp_L_lease σ130.2.1 σ130.1 (jr x63 x2) (jr (x63 / 5) 10) (jr (x63 / 50) 10) (jr (x63 / 500) 501) (1 + (jr (x63 / 7) 6)) (fun (x253 : Int32) (σ254 : Mm) (L255 : List Nat) => ∀ ρ257 : Rh, ρ257 = (σ254, L255, σ130.2.2 + 1) → (∃ J260 : Rh → Int32 → Prop, (∀ (σ258 : Rh) (x259 : Int32), J260 σ258 x259 → J76 σ258 x2 x3 x4 x5 y6 x259) ∧ ((x253 = (-101) → J260 ρ257 0) ∧ (¬ (x253 = (-101)) → J260 ρ257 1))))))) ∧ ((¬ x65 = 3 → J131 σ128) ∧ (¬ (¬ x65 = 3) → ((x3 ≤ 0 → J131 σ128) ∧ (¬ (x3 ≤ 0) → ((6 ≤ x4 → J131 σ128) ∧ (¬ (6 ≤ x4) → ¬ x3 = 0 ∧ σ128.2.2 + 1 ≤ 3500 ∧ wp_L_well σ128.2.1 σ128.1 (jr x63 x3) (fun (x262 : Int32) (σ263 : Mm) (L264 : List Nat) => ∀ ρ266 : Rh, ρ266 = (σ263, L264, σ128.2.2 + 1) → (∃ J269 : Rh → Int32 → Prop, (∀ (σ267 : Rh) (x268 : Int32), J269 σ267 x268 → ∀ x270 : Int32, x270 = x4 + 1 → J76 σ267 x2 x3 x270 x5 y6 x268) ∧ ((¬ x262 = x4 → J269 ρ266 0) ∧ (¬ (¬ x262 = x4) → J269 ρ266 1)))))))))))) ∧ (¬ (¬ x65 = 2) → σ128.2.2 + 1 ≤ 3500 ∧ wp_L_unit σ128.2.1 σ128.1 (1 + (jr x63 31)) (fun (x271 : Int32) (σ272 : Mm) (L273 : List Nat) => ∀ ρ275 : Rh, ρ275 = (σ272, L273, σ128.2.2 + 1) → (∃ J278 : Rh → Int32 → Prop, (∀ (σ276 : Rh) (x277 : Int32), J278 σ276 x277 → (∃ J281 : Rh → Int32 → Prop, (∀ (σ279 : Rh) (x280 : Int32), J281 σ279 x280 → ∀ x282 : Int32, x282 = x3 + x280 → J76 σ279 x2 x282 x4 x5 y6 x277) ∧ ((¬ x271 = x3 → J281 σ276 0) ∧ (¬ (¬ x271 = x3) → J281 σ276 1)))) ∧ (∃ J284 : Rh → Prop, (∀ (σ283 : Rh), J284 σ283 → J278 σ283 1) ∧ ((x271 = x3 → J284 ρ275) ∧ (¬ (x271 = x3) → ((0 ≤ x271 → J278 ρ275 0) ∧ (¬ (0 ≤ x271) → J284 ρ275)))))))))) ∧ (¬ (2 ≤ x65) → ¬ x2 = 0 ∧ σ128.2.2 + 1 ≤ 3500 ∧ wp_L_deed σ128.2.1 σ128.1 (jr x63 x2) (jr (x63 / 5) 10) (jr (x63 / 50) 10) (1 + (jr (x63 / 500) 9000)) x68 (fun (x286 : Int32) (σ287 : Mm) (L288 : List Nat) => ∀ ρ290 : Rh, ρ290 = (σ287, L288, σ128.2.2 + 1) → (∃ J293 : Rh → Int32 → Prop, (∀ (σ291 : Rh) (x292 : Int32), J293 σ291 x292 → J76 σ291 x2 x3 x4 x5 y6 x292) ∧ ((x286 = (-101) → J293 ρ290 0) ∧ (¬ (x286 = (-101)) → J293 ρ290 1))))))) ∧ ((¬ x65 = 0 → J129 σ64) ∧ (¬ (¬ x65 = 0) → ((5 ≤ x2 → J129 σ64) ∧ (¬ (5 ≤ x2) → σ64.2.2 + 1 ≤ 3500 ∧ wp_L_tract σ64.2.1 σ64.1 (1 + (jr x63 1000)) (jr (x63 / 1000) 10) (fun (x294 : Int32) (σ295 : Mm) (L296 : List Nat) => ∀ ρ298 : Rh, ρ298 = (σ295, L296, σ64.2.2 + 1) → (∃ J301 : Rh → Int32 → Prop, (∀ (σ299 : Rh) (x300 : Int32), J301 σ299 x300 → ∀ x302 : Int32, x302 = x2 + 1 → J76 σ299 x302 x3 x4 x5 y6 x300) ∧ ((¬ x294 = x2 → J301 ρ298 0) ∧ (¬ (¬ x294 = x2) → J301 ρ298 1))))))))) := by
  subst e7
  obtain ⟨v2, v3, v4, v5, v6⟩ := id hV
  refine ⟨fun s => s = σ64 ∧ 3 ≤ C 200 1, fun σ128 h => ?_, fun z => ⟨rfl, hk z⟩, fun z => ⟨fun z2 => ⟨rfl, ?_⟩, fun z2 => c_tract hG hi hV hz h2 z2 hn hJ hR hw⟩⟩
  rotate_left
  · rw [leT, show (5 : Int32).toInt = 5 from rfl] at z2
    omega
  obtain ⟨e, h3⟩ := h
  subst e
  have h3 : 3 ≤ C 200 1 ∧ C 200 1 ≤ 5 := ⟨h3, ht⟩
  have n2 : ¬ x2 = 0 := nz (by omega)
  refine ⟨fun _ => ⟨fun _ => ⟨fun s => s = σ128, fun σ130 h => ?_, fun _ => rfl, fun _ => ⟨fun _ => rfl, fun z3 => ⟨fun _ => rfl, fun z4 => ⟨nz (ps z3), c_well hG hi hV hz hm h3 hn hJ hR hw (ps z3) z4⟩⟩⟩⟩, fun _ => c_unit hG hi hV hz hm h3 hn hJ hR hw⟩, fun _ => ⟨n2, c_deed hG hi hV hz hm h3 hn hJ hR hw⟩⟩
  subst h
  refine ⟨fun _ => ⟨fun s => s = σ130, fun σ132 h => ?_, fun _ => rfl, fun _ => ⟨fun _ => rfl, fun z => ⟨nz (ps z), c_oil hG hi hV hz hm h3 hn hJ hR hw (ps z)⟩⟩⟩, fun _ => ⟨n2, c_lease hG hi hV hz hm h3 hn hJ hR hw⟩⟩
  subst h
  refine ⟨fun s => s = σ132, fun σ134 h => ?_, fun _ => rfl, fun _ => ⟨fun _ => rfl, fun z => c_cost hG hi hV hz hm h3 hn hJ hR hw (ps z)⟩⟩
  subst h
  refine ⟨fun s => s = σ134, fun σ136 h => ?_, fun _ => rfl, fun _ => ⟨fun _ => rfl, fun z => ⟨nz (ps z), c_consent hG hi hV hz hm h3 hn hJ hR hw (ps z)⟩⟩⟩
  subst h
  exact ⟨fun _ => ⟨fun _ => ⟨fun _ => hJ _ _ _ _ _ _ (MI_c hG hR (show σ136.2.2 ≤ _ by omega) hV h3 hn (Int.le_refl _)), fun z => c_pass hG hi hV hz hm h3 hn hJ hR hw z⟩, fun _ => c_pay hG hi hV hz hm h3 hn hJ hR hw⟩, fun _ => c_tax hG hi hV hz hm h3 hn hJ hR hw⟩
def GI (i : Nat) (s : Rh × Int32 × Int32 × Int32 × Int32 × Int64 × Int32 × Int32) : Prop := ∃ C, GC C ∧ Rel s.1.2.1 s.1.1 C ∧ s.1.2.2 ≤ 64 * i ∧ VS C s.2.1 s.2.2.1 s.2.2.2.1 s.2.2.2.2.1 s.2.2.2.2.2.1 ∧ s.2.2.2.2.2.2.1 = 1 ∧ s.2.2.2.2.2.2.2 = iZ (i : Int) ∧ C 200 1 ≤ 5 ∧ ((i : Int) ≤ C 200 1 ∨ 3 ≤ C 200 1) ∧ C 200 0 ≤ 6
theorem c_ask {C : Cr} {i : Nat} {x8 x63 x70 x71 x72 x73 x75 x77 x79 : Int32} {y74 : Int64} {R9 : Rh × Int32 × Int32 × Int32 × Int32 × Int64 × Int32 × Int32 → Prop} (hG : GC C) (hi : i < 28) (hV : VS C x70 x71 x72 x73 y74) (hz : 0 ≤ x63.toInt) (h8 : x8 = iZ (i : Int)) (h77 : dOw x77.toInt) (h79 : x79 = 10000) (e75 : x75 = 1) (ht : C 200 1 ≤ 5) (h2 : (i : Int) + 1 ≤ C 200 1 ∨ 3 ≤ C 200 1) (hn : C 200 0 ≤ 6) (hrec : ∀ s, GI (i + 1) s → R9 s) {σ83 : Rh} (hR : Rel σ83.2.1 σ83.1 C) (hw : σ83.2.2 ≤ 64 * i + 32) : (∃ J87 : Rh → Int32 → Prop, (∀ (σ85 : Rh) (x86 : Int32), J87 σ85 x86 → (∃ J90 : Rh → Int32 → Prop, (∀ (σ88 : Rh) (x89 : Int32), J90 σ88 x89 → ∀ x91 : Int32, x91 = x8 + 1 → R9 (σ88, x70, x71, x72, x73, y74, x89, x91)) ∧ (∃ J93 : Rh → Prop, (∀ (σ92 : Rh), J93 σ92 → J90 σ92 0) ∧ ((x86 = 0 → J93 σ85) ∧ (¬ (x86 = 0) → (∃ J95 : Rh → Prop, (∀ (σ94 : Rh), J95 σ94 → J90 σ94 1) ∧ ((x71 = 0 → J95 σ85) ∧ (¬ (x71 = 0) → ¬ x71 = 0 ∧ σ85.2.2 + 1 ≤ 3500 ∧ wp_L_revenue σ85.2.1 σ85.1 (jr x63 x71) x73 (fun (x97 : Int32) (σ98 : Mm) (L99 : List Nat) => ∀ ρ101 : Rh, ρ101 = (σ98, L99, σ85.2.2 + 1) → ((x97 < 0 → J93 ρ101) ∧ (¬ (x97 < 0) → (∃ J103 : Rh → Prop, (∀ (σ102 : Rh), J103 σ102 → ¬ x71 = 0 ∧ σ102.2.2 + 1 ≤ 3500 ∧ wp_L_due σ102.2.1 σ102.1 (jr x63 x71) x73 x77 (fun (x105 : Int32) (σ106 : Mm) (L107 : List Nat) => ∀ ρ109 : Rh, ρ109 = (σ106, L107, σ102.2.2 + 1) → ((x105 ≤ (-2000000000) → J93 ρ109) ∧ (¬ (x105 ≤ (-2000000000)) → J95 ρ109)))) ∧ (((jr x8 2) = 0 → J103 ρ101) ∧ (¬ ((jr x8 2) = 0) → ¬ x71 = 0 ∧ ρ101.2.2 + 30 ≤ 3500 ∧ wp_L_fits ρ101.2.1 ρ101.1 (jr x63 x71) x73 (fun (x111 : Int32) (σ112 : Mm) (L113 : List Nat) => ∀ ρ115 : Rh, ρ115 = (σ112, L113, ρ101.2.2 + 30) → ((x111 = 0 → J93 ρ115) ∧ (¬ (x111 = 0) → J103 ρ115))))))))))))))))) ∧ (∃ J117 : Rh → Prop, (∀ (σ116 : Rh), J117 σ116 → J87 σ116 0) ∧ ((x75 = 0 → J117 σ83) ∧ (¬ (x75 = 0) → (∃ J119 : Rh → Prop, (∀ (σ118 : Rh), J119 σ118 → J87 σ118 1) ∧ ((x8 < 1 → J119 σ83) ∧ (¬ (x8 < 1) → ((¬ x79 = 10000 → J117 σ83) ∧ (¬ (¬ x79 = 10000) → J119 σ83))))))))) := by
  subst e75
  obtain ⟨v2, v3, v4, v5, v6⟩ := id hV
  have hu3 := hG.1.nu
  have hn6 := hG.1.now
  refine ⟨fun s v => s = σ83 ∧ v = 1, fun σ85 x86 h => ?_, fun _ => False, fun _ z => z.elim, fun z => absurd z (by decide), fun _ => ⟨fun s => s = σ83, fun s h => ⟨h, rfl⟩, fun _ => rfl, fun _ => ⟨fun z => absurd h79 z, fun _ => rfl⟩⟩⟩
  obtain ⟨e, e86⟩ := h
  subst e
  subst e86
  refine ⟨fun s v => Rel s.2.1 s.1 C ∧ s.2.2 ≤ 64 * i + 64 ∧ v = 1, fun s v h x91 h91 => ?_, fun _ => False, fun _ z => z.elim, fun z => absurd z (by decide), fun _ => ⟨fun s => Rel s.2.1 s.1 C ∧ s.2.2 ≤ 64 * i + 64, fun s h => ⟨h.1, h.2, rfl⟩, fun _ => ⟨hR, by omega⟩, fun z71 => ?_⟩⟩
  · obtain ⟨Rs, ws, ev⟩ := h
    subst ev
    refine hrec _ ⟨C, hG, Rs, (show s.2.2 ≤ _ by omega), hV, rfl, ?_, ht, ?_, hn⟩
    · show x91 = _
      rw [h91, h8, iZ_s]
    · omega
  have p71 : 0 < x71.toInt := by
    have : x71.toInt ≠ 0 := fun z => z71 (by rw [eqT, t_0]; exact z)
    omega
  have a := jr_rg hz p71
  have hu : (jr x63 x71).toInt.toNat < nU C := by unfold nU; omega
  have hun := hG.1.un _ hu
  have hU : isUM C (jr x63 x71).toInt x73.toInt := ⟨⟨a.1, by omega⟩, by omega, by omega⟩
  have rg := rv_rg hG.1 (jr x63 x71).toInt (m := x73.toInt.toNat) (by omega)
  obtain ⟨u1, u2, u3, u4⟩ := um_le hG.1 hU
  refine ⟨z71, by omega, K_revenue hG.1 hR (fun z => absurd hU z) (fun _ σ2 L2 x97 R2 e97 ρ1 h1 => ?_)⟩
  subst h1
  have t97 := l_E e97
  refine ⟨fun z => ?_, fun _ => ⟨fun s => Rel s.2.1 s.1 C ∧ s.2.2 ≤ 64 * i + 63, fun s h => ⟨z71, by omega, K_due hG.1 h.1 (fun z => absurd ⟨hU, h77⟩ z) (fun _ σ3 L3 x105 R3 e105 ρ3 h3 => ?_)⟩, fun _ => ⟨R2, (show σ85.2.2 + 1 ≤ _ by omega)⟩, fun _ => ⟨z71, (show σ85.2.2 + 1 + 30 ≤ 3500 by omega), fits_ok hG.1 R2 hU (fun σ4 L4 R4 ρ4 h4 => ?_)⟩⟩⟩
  · rw [t97, ltT, t_0, toInt_iZ (by omega) (by omega)] at z
    omega
  · subst h3
    have hw2 := h.2
    have dr := du_rg hG.1 u1 (m := x73.toInt.toNat) u2 (by omega) (o := x77.toInt.toNat) (by omega)
    have t105 := l_E e105
    refine ⟨fun z => ?_, fun _ => ⟨R3, (show s.2.2 + 1 ≤ _ by omega)⟩⟩
    rw [t105, leT, show (-2000000000 : Int32).toInt = -2000000000 from rfl, toInt_iZ (by omega) (by omega)] at z
    omega
  · subst h4
    exact ⟨fun z => absurd z (by decide), fun _ => ⟨R4, (show σ85.2.2 + 1 + 30 ≤ _ by omega)⟩⟩
theorem c_tail {i : Nat} {n0 : Int} {x8 x63 x68 : Int32} {R9 : Rh × Int32 × Int32 × Int32 × Int32 × Int64 × Int32 × Int32 → Prop} (hi : i < 28) (hz : 0 ≤ x63.toInt) (hm : 0 ≤ x68.toInt ∧ x68.toInt ≤ n0) (h8 : x8 = iZ (i : Int)) (hrec : ∀ s, GI (i + 1) s → R9 s) {σ69 : Rh} {x70 x71 x72 x73 x75 : Int32} {y74 : Int64} (h : MI i n0 σ69 x70 x71 x72 x73 y74 x75) : ∀ x77 : Int32, x77 = jr x63 10 → (∃ n : Nat, lpw (S := Rh × Int32 × Int32) (fun (R81 : Rh × Int32 × Int32 → Prop) (s82 : Rh × Int32 × Int32) => match s82 with | (σ78, x79, x80) => (∃ J84 : Rh → Prop, (∀ (σ83 : Rh), J84 σ83 → (∃ J87 : Rh → Int32 → Prop, (∀ (σ85 : Rh) (x86 : Int32), J87 σ85 x86 → (∃ J90 : Rh → Int32 → Prop, (∀ (σ88 : Rh) (x89 : Int32), J90 σ88 x89 → ∀ x91 : Int32, x91 = x8 + 1 → R9 (σ88, x70, x71, x72, x73, y74, x89, x91)) ∧ (∃ J93 : Rh → Prop, (∀ (σ92 : Rh), J93 σ92 → J90 σ92 0) ∧ ((x86 = 0 → J93 σ85) ∧ (¬ (x86 = 0) → (∃ J95 : Rh → Prop, (∀ (σ94 : Rh), J95 σ94 → J90 σ94 1) ∧ ((x71 = 0 → J95 σ85) ∧ (¬ (x71 = 0) → ¬ x71 = 0 ∧ σ85.2.2 + 1 ≤ 3500 ∧ wp_L_revenue σ85.2.1 σ85.1 (jr x63 x71) x73 (fun (x97 : Int32) (σ98 : Mm) (L99 : List Nat) => ∀ ρ101 : Rh, ρ101 = (σ98, L99, σ85.2.2 + 1) → ((x97 < 0 → J93 ρ101) ∧ (¬ (x97 < 0) → (∃ J103 : Rh → Prop, (∀ (σ102 : Rh), J103 σ102 → ¬ x71 = 0 ∧ σ102.2.2 + 1 ≤ 3500 ∧ wp_L_due σ102.2.1 σ102.1 (jr x63 x71) x73 x77 (fun (x105 : Int32) (σ106 : Mm) (L107 : List Nat) => ∀ ρ109 : Rh, ρ109 = (σ106, L107, σ102.2.2 + 1) → ((x105 ≤ (-2000000000) → J93 ρ109) ∧ (¬ (x105 ≤ (-2000000000)) → J95 ρ109)))) ∧ (((jr x8 2) = 0 → J103 ρ101) ∧ (¬ ((jr x8 2) = 0) → ¬ x71 = 0 ∧ ρ101.2.2 + 30 ≤ 3500 ∧ wp_L_fits ρ101.2.1 ρ101.1 (jr x63 x71) x73 (fun (x111 : Int32) (σ112 : Mm) (L113 : List Nat) => ∀ ρ115 : Rh, ρ115 = (σ112, L113, ρ101.2.2 + 30) → ((x111 = 0 → J93 ρ115) ∧ (¬ (x111 = 0) → J103 ρ115))))))))))))))))) ∧ (∃ J117 : Rh → Prop, (∀ (σ116 : Rh), J117 σ116 → J87 σ116 0) ∧ ((x75 = 0 → J117 σ83) ∧ (¬ (x75 = 0) → (∃ J119 : Rh → Prop, (∀ (σ118 : Rh), J119 σ118 → J87 σ118 1) ∧ ((x8 < 1 → J119 σ83) ∧ (¬ (x8 < 1) → ((¬ x79 = 10000 → J117 σ83) ∧ (¬ (¬ x79 = 10000) → J119 σ83)))))))))) ∧ ((10 ≤ x80 → J84 σ78) ∧ (¬ (10 ≤ x80) → ((x75 = 0 → J84 σ78) ∧ (¬ (x75 = 0) → ¬ x70 = 0 ∧ σ78.2.2 + 1 ≤ 3500 ∧ wp_L_title σ78.2.1 σ78.1 (jr x63 x70) x80 x68 (fun (x121 : Int32) (σ122 : Mm) (L123 : List Nat) => ∀ ρ125 : Rh, ρ125 = (σ122, L123, σ78.2.2 + 1) → ∀ x126 : Int32, x126 = x79 + x121 → ∀ x127 : Int32, x127 = x80 + 1 → R81 (ρ125, x126, x127)))))))) n (σ69, 0, 0)) := by
  obtain ⟨C, hG, hR, hw, hV, e75, ht, h2, hn, h0⟩ := h
  subst e75
  obtain ⟨v2, v3, v4, v5, v6⟩ := id hV
  have h70 : 0 < x70.toInt := by omega
  have a := jr_rg hz h70
  have hT : (jr x63 x70).toInt.toNat < nT C := by unfold nT; omega
  intro x77 h77
  have D7 : dOw x77.toInt := by rw [h77]; exact ow_n hz rfl
  refine lpw_inv (fun k (s : Rh × Int32 × Int32) => Rel s.1.2.1 s.1.1 C ∧ s.1.2.2 ≤ 64 * i + 22 + k ∧ s.2.1 = iZ (sm (fun o => ti C (jr x63 x70).toInt.toNat o x68.toInt) k) ∧ s.2.2 = iZ (k : Int)) 10 ⟨hR, hw, rfl, rfl⟩ ?_
  intro k s rec hk hs hrec2
  obtain ⟨σ78, x79, x80⟩ := s
  obtain ⟨R1, w1, e1, e2⟩ := hs
  dsimp only at R1 w1 e1 e2
  subst e1 e2
  have ti1 : (iZ (k : Int)).toInt = k := n_iZ (by omega)
  refine ⟨fun s => Rel s.2.1 s.1 C ∧ s.2.2 ≤ 64 * i + 32 ∧ k = 10, fun σ83 h => ?_, fun q => ?_, fun q => ⟨fun z => absurd z (by decide), fun _ => ?_⟩⟩
  · obtain ⟨R3, w3, ek⟩ := h
    subst ek
    refine c_ask hG hi hV hz h8 D7 ?_ rfl ht.2 h2 hn hrec R3 w3
    rw [ti_sum hG.1 hT]
    rfl
  · rw [leT, ti1, t_10] at q
    exact ⟨R1, by omega, by omega⟩
  · rw [leT, ti1, t_10] at q
    have hrec2 := hrec2 (by omega)
    have D : dTOM C (jr x63 x70).toInt (iZ (k : Int)).toInt x68.toInt := ⟨⟨a.1, by omega⟩, by rw [ti1]; exact ⟨by omega, by omega⟩, ⟨hm.1, by omega⟩⟩
    refine ⟨nz h70, by omega, K_title hG.1 R1 (fun z => absurd D z) (fun _ σ' L' x9 R' e9 ρ1 h1 x126 h126 x127 h127 => hrec2 _ ⟨?_, ?_, ?_, by rw [h127, iZ_s]⟩)⟩
    · rw [h1]; exact R'
    · rw [h1]
      show σ78.2.2 + 1 ≤ _
      omega
    · show x126 = _
      have t9 := l_E e9
      rw [ti1] at t9
      rw [h126, t9, iZ_add, sm_s]
