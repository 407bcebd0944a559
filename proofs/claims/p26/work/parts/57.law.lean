/-! THE LAW: its body behind the making of the object -/
def law_body (ρ : Rh) : Prop := (∃ n : Nat, lpw (S := Rh × Int32 × Int32 × Int32 × Int32 × Int64 × Int32 × Int32) (fun (R9 : Rh × Int32 × Int32 × Int32 × Int32 × Int64 × Int32 × Int32 → Prop) (s10 : Rh × Int32 × Int32 × Int32 × Int32 × Int64 × Int32 × Int32) => match s10 with | (σ1, x2, x3, x4, x5, y6, x7, x8) => (∃ J12 : Rh → Prop, (∀ (σ11 : Rh), J12 σ11 → (∃ n : Nat, lpw (S := Rh × Int64 × Int32) (fun (R16 : Rh × Int64 × Int32 → Prop) (s17 : Rh × Int64 × Int32) => match s17 with | (σ13, y14, x15) => (∃ J19 : Rh → Prop, (∀ (σ18 : Rh), J19 σ18 → (∃ n : Nat, lpw (S := Rh × Int64 × Int32) (fun (R23 : Rh × Int64 × Int32 → Prop) (s24 : Rh × Int64 × Int32) => match s24 with | (σ20, y21, x22) => (∃ J26 : Rh → Prop, (∀ (σ25 : Rh), J26 σ25 → (∃ J29 : Rh → Int32 → Prop, (∀ (σ27 : Rh) (x28 : Int32), J29 σ27 x28 → σ27.2.2 ≤ 3500 ∧ x28 = 1) ∧ (∃ J31 : Rh → Prop, (∀ (σ30 : Rh), J31 σ30 → J29 σ30 0) ∧ ((x7 = 0 → J31 σ25) ∧ (¬ (x7 = 0) → ((¬ y14 = (y21 - y6) → J31 σ25) ∧ (¬ (¬ y14 = (y21 - y6)) → J29 σ25 1))))))) ∧ ((x3 ≤ x22 → J26 σ20) ∧ (¬ (x3 ≤ x22) → ((x7 = 0 → J26 σ20) ∧ (¬ (x7 = 0) → (∃ n : Nat, lpw (S := Rh × Int64 × Int32) (fun (R35 : Rh × Int64 × Int32 → Prop) (s36 : Rh × Int64 × Int32) => match s36 with | (σ32, y33, x34) => ((x5 < x34 → ∀ x37 : Int32, x37 = x22 + 1 → R23 (σ32, y33, x37)) ∧ (¬ (x5 < x34) → σ32.2.2 + 1 ≤ 3500 ∧ wp_L_revenue σ32.2.1 σ32.1 x22 x34 (fun (x38 : Int32) (σ39 : Mm) (L40 : List Nat) => ∀ ρ42 : Rh, ρ42 = (σ39, L40, σ32.2.2 + 1) → (∃ J45 : Rh → Int64 → Prop, (∀ (σ43 : Rh) (y44 : Int64), J45 σ43 y44 → ∀ y46 : Int64, y46 = y33 + y44 → ∀ x47 : Int32, x47 = x34 + 1 → R35 (σ43, y46, x47)) ∧ ((0 ≤ x38 → J45 ρ42 x38.toInt64) ∧ (¬ (0 ≤ x38) → J45 ρ42 0))))))) n (σ20, y21, 0)))))))) n (σ18, 0, 0))) ∧ ((10 ≤ x15 → J19 σ13) ∧ (¬ (10 ≤ x15) → ((x7 = 0 → J19 σ13) ∧ (¬ (x7 = 0) → σ13.2.2 + 1 ≤ 3500 ∧ wp_L_owed σ13.2.1 σ13.1 x15 (fun (y48 : Int64) (σ49 : Mm) (L50 : List Nat) => ∀ ρ52 : Rh, ρ52 = (σ49, L50, σ13.2.2 + 1) → ρ52.2.2 + 1 ≤ 3500 ∧ wp_L_paid ρ52.2.1 ρ52.1 x15 (fun (y53 : Int64) (σ54 : Mm) (L55 : List Nat) => ∀ ρ57 : Rh, ρ57 = (σ54, L55, ρ52.2.2 + 1) → ∀ y58 : Int64, y58 = y14 + (y48 + y53) → ∀ x59 : Int32, x59 = x15 + 1 → R16 (ρ57, y58, x59))))))))) n (σ11, 0, 0))) ∧ ((28 ≤ x8 → J12 σ1) ∧ (¬ (28 ≤ x8) → ((x7 = 0 → J12 σ1) ∧ (¬ (x7 = 0) → σ1.2.2 < 3500 ∧ 0 ≤ x8.toInt ∧ ∀ x61 : Int32, 0 ≤ x61.toInt → ∀ x63 : Int32, x63 = x61 / 16 → (∃ J66 : Rh → Int32 → Prop, (∀ (σ64 : Rh) (x65 : Int32), J66 σ64 x65 → ¬ (x5 + 1) = 0 ∧ ∀ x68 : Int32, x68 = jr x63 (x5 + 1) → (∃ J76 : Rh → Int32 → Int32 → Int32 → Int32 → Int64 → Int32 → Prop, (∀ (σ69 : Rh) (x70 : Int32) (x71 : Int32) (x72 : Int32) (x73 : Int32) (y74 : Int64) (x75 : Int32), J76 σ69 x70 x71 x72 x73 y74 x75 → ∀ x77 : Int32, x77 = jr x63 10 → (∃ n : Nat, lpw (S := Rh × Int32 × Int32) (fun (R81 : Rh × Int32 × Int32 → Prop) (s82 : Rh × Int32 × Int32) => match s82 with | (σ78, x79, x80) => (∃ J84 : Rh → Prop, (∀ (σ83 : Rh), J84 σ83 → (∃ J87 : Rh → Int32 → Prop, (∀ (σ85 : Rh) (x86 : Int32), J87 σ85 x86 → (∃ J90 : Rh → Int32 → Prop, (∀ (σ88 : Rh) (x89 : Int32), J90 σ88 x89 → ∀ x91 : Int32, x91 = x8 + 1 → R9 (σ88, x70, x71, x72, x73, y74, x89, x91)) ∧ (∃ J93 : Rh → Prop, (∀ (σ92 : Rh), J93 σ92 → J90 σ92 0) ∧ ((x86 = 0 → J93 σ85) ∧ (¬ (x86 = 0) → (∃ J95 : Rh → Prop, (∀ (σ94 : Rh), J95 σ94 → J90 σ94 1) ∧ ((x71 = 0 → J95 σ85) ∧ (¬ (x71 = 0) → ¬ x71 = 0 ∧ σ85.2.2 + 1 ≤ 3500 ∧ wp_L_revenue σ85.2.1 σ85.1 (jr x63 x71) x73 (fun (x97 : Int32) (σ98 : Mm) (L99 : List Nat) => ∀ ρ101 : Rh, ρ101 = (σ98, L99, σ85.2.2 + 1) → ((x97 < 0 → J93 ρ101) ∧ (¬ (x97 < 0) → (∃ J103 : Rh → Prop, (∀ (σ102 : Rh), J103 σ102 → ¬ x71 = 0 ∧ σ102.2.2 + 1 ≤ 3500 ∧ wp_L_due σ102.2.1 σ102.1 (jr x63 x71) x73 x77 (fun (x105 : Int32) (σ106 : Mm) (L107 : List Nat) => ∀ ρ109 : Rh, ρ109 = (σ106, L107, σ102.2.2 + 1) → ((x105 ≤ (-2000000000) → J93 ρ109) ∧ (¬ (x105 ≤ (-2000000000)) → J95 ρ109)))) ∧ (((jr x8 2) = 0 → J103 ρ101) ∧ (¬ ((jr x8 2) = 0) → ¬ x71 = 0 ∧ ρ101.2.2 + 30 ≤ 3500 ∧ wp_L_fits ρ101.2.1 ρ101.1 (jr x63 x71) x73 (fun (x111 : Int32) (σ112 : Mm) (L113 : List Nat) => ∀ ρ115 : Rh, ρ115 = (σ112, L113, ρ101.2.2 + 30) → ((x111 = 0 → J93 ρ115) ∧ (¬ (x111 = 0) → J103 ρ115))))))))))))))))) ∧ (∃ J117 : Rh → Prop, (∀ (σ116 : Rh), J117 σ116 → J87 σ116 0) ∧ ((x75 = 0 → J117 σ83) ∧ (¬ (x75 = 0) → (∃ J119 : Rh → Prop, (∀ (σ118 : Rh), J119 σ118 → J87 σ118 1) ∧ ((x8 < 1 → J119 σ83) ∧ (¬ (x8 < 1) → ((¬ x79 = 10000 → J117 σ83) ∧ (¬ (¬ x79 = 10000) → J119 σ83)))))))))) ∧ ((10 ≤ x80 → J84 σ78) ∧ (¬ (10 ≤ x80) → ((x75 = 0 → J84 σ78) ∧ (¬ (x75 = 0) → ¬ x70 = 0 ∧ σ78.2.2 + 1 ≤ 3500 ∧ wp_L_title σ78.2.1 σ78.1 (jr x63 x70) x80 x68 (fun (x121 : Int32) (σ122 : Mm) (L123 : List Nat) => ∀ ρ125 : Rh, ρ125 = (σ122, L123, σ78.2.2 + 1) → ∀ x126 : Int32, x126 = x79 + x121 → ∀ x127 : Int32, x127 = x80 + 1 → R81 (ρ125, x126, x127)))))))) n (σ69, 0, 0))) ∧ (∃ J129 : Rh → Prop, (∀ (σ128 : Rh), J129 σ128 → ((2 ≤ x65 → ((¬ x65 = 2 → (∃ J131 : Rh → Prop, (∀ (σ130 : Rh), J131 σ130 → ((6 ≤ x65 → (∃ J133 : Rh → Prop, (∀ (σ132 : Rh), J133 σ132 → (∃ J135 : Rh → Prop, (∀ (σ134 : Rh), J135 σ134 → (∃ J137 : Rh → Prop, (∀ (σ136 : Rh), J137 σ136 → ((¬ x65 = 12 → ((¬ x65 = 13 → ((5 ≤ x5 → J76 σ136 x2 x3 x4 x5 y6 x7) ∧ (¬ (5 ≤ x5) → ∀ x138 : Int32, x138 = 1 + (jr x63 2) → ∀ x139 : Int32, x139 = x5 + x138 → σ136.2.2 + 1 ≤ 3500 ∧ wp_L_pass σ136.2.1 σ136.1 x138 (fun (x140 : Int32) (σ141 : Mm) (L142 : List Nat) => ∀ ρ144 : Rh, ρ144 = (σ141, L142, σ136.2.2 + 1) → (∃ J147 : Rh → Int32 → Prop, (∀ (σ145 : Rh) (x146 : Int32), J147 σ145 x146 → J76 σ145 x2 x3 x4 x139 y6 x146) ∧ ((¬ x140 = x139 → J147 ρ144 0) ∧ (¬ (¬ x140 = x139) → J147 ρ144 1))))))) ∧ (¬ (¬ x65 = 13) → (∃ n : Nat, lpw (S := Rh × Int64 × Int32) (fun (R151 : Rh × Int64 × Int32 → Prop) (s152 : Rh × Int64 × Int32) => match s152 with | (σ148, y149, x150) => ((10 ≤ x150 → σ148.2.2 < 3500 ∧ wp_X6_payDay σ148.2.1 σ148.1 (fun (y153 : Int64) (σ154 : Mm) => ∀ ρ156 : Rh, ρ156 = (σ154, σ148.2.1, σ148.2.2) → (∃ n : Nat, lpw (S := Rh × Int64 × Int32) (fun (R160 : Rh × Int64 × Int32 → Prop) (s161 : Rh × Int64 × Int32) => match s161 with | (σ157, y158, x159) => ((10 ≤ x159 → (∃ J164 : Rh → Int32 → Prop, (∀ (σ162 : Rh) (x163 : Int32), J164 σ162 x163 → J76 σ162 x2 x3 x4 x5 y6 x163) ∧ (∃ J166 : Rh → Prop, (∀ (σ165 : Rh), J166 σ165 → J164 σ165 0) ∧ ((y153 < 0 → J166 σ157) ∧ (¬ (y153 < 0) → ((¬ y158 = (y149 + y153) → J166 σ157) ∧ (¬ (¬ y158 = (y149 + y153)) → σ157.2.2 < 3500 ∧ wp_X6_payDay σ157.2.1 σ157.1 (fun (y167 : Int64) (σ168 : Mm) => ∀ ρ170 : Rh, ρ170 = (σ168, σ157.2.1, σ157.2.2) → ((¬ y167 = 0 → J166 ρ170) ∧ (¬ (¬ y167 = 0) → J164 ρ170 1)))))))))) ∧ (¬ (10 ≤ x159) → σ157.2.2 + 1 ≤ 3500 ∧ wp_L_paid σ157.2.1 σ157.1 x159 (fun (y171 : Int64) (σ172 : Mm) (L173 : List Nat) => ∀ ρ175 : Rh, ρ175 = (σ172, L173, σ157.2.2 + 1) → ∀ y176 : Int64, y176 = y158 + y171 → ∀ x177 : Int32, x177 = x159 + 1 → R160 (ρ175, y176, x177))))) n (ρ156, 0, 0)))) ∧ (¬ (10 ≤ x150) → σ148.2.2 + 1 ≤ 3500 ∧ wp_L_paid σ148.2.1 σ148.1 x150 (fun (y178 : Int64) (σ179 : Mm) (L180 : List Nat) => ∀ ρ182 : Rh, ρ182 = (σ179, L180, σ148.2.2 + 1) → ∀ y183 : Int64, y183 = y149 + y178 → ∀ x184 : Int32, x184 = x150 + 1 → R151 (ρ182, y183, x184))))) n (σ136, 0, 0))))) ∧ (¬ (¬ x65 = 12) → σ136.2.2 + 1 ≤ 3500 ∧ wp_L_tax σ136.2.1 σ136.1 (jr x63 51) x68 (fun (x185 : Int32) (σ186 : Mm) (L187 : List Nat) => ∀ ρ189 : Rh, ρ189 = (σ186, L187, σ136.2.2 + 1) → (∃ J192 : Rh → Int32 → Prop, (∀ (σ190 : Rh) (x191 : Int32), J192 σ190 x191 → J76 σ190 x2 x3 x4 x5 y6 x191) ∧ (∃ J194 : Rh → Prop, (∀ (σ193 : Rh), J194 σ193 → J192 σ193 0) ∧ ((x185 < 0 → J194 ρ189) ∧ (¬ (x185 < 0) → ρ189.2.2 + 1 ≤ 3500 ∧ wp_L_least ρ189.2.1 ρ189.1 (1 + (jr (x63 / 51) 5000)) (fun (x195 : Int32) (σ196 : Mm) (L197 : List Nat) => ∀ ρ199 : Rh, ρ199 = (σ196, L197, ρ189.2.2 + 1) → ((x195 < 1 → J194 ρ199) ∧ (¬ (x195 < 1) → (∃ J202 : Rh → Int32 → Prop, (∀ (σ200 : Rh) (x201 : Int32), J202 σ200 x201 → σ200.2.2 + 1 ≤ 3500 ∧ wp_L_suspend σ200.2.1 σ200.1 (jr (x63 / 3) 10) x201 (fun (x203 : Int32) (σ204 : Mm) (L205 : List Nat) => ∀ ρ207 : Rh, ρ207 = (σ204, L205, σ200.2.2 + 1) → ((x203 < 0 → J194 ρ207) ∧ (¬ (x203 < 0) → J192 ρ207 1)))) ∧ ((¬ (jr x63 2) = 0 → J202 ρ199 0) ∧ (¬ (¬ (jr x63 2) = 0) → J202 ρ199 1)))))))))))))) ∧ ((¬ x65 = 11 → J137 σ134) ∧ (¬ (¬ x65 = 11) → ((x3 ≤ 0 → J137 σ134) ∧ (¬ (x3 ≤ 0) → ¬ x3 = 0 ∧ (∃ J211 : Rh → Int32 → Prop, (∀ (σ209 : Rh) (x210 : Int32), J211 σ209 x210 → σ209.2.2 + 1 ≤ 3500 ∧ wp_L_consent σ209.2.1 σ209.1 (jr x63 x3) (jr (x63 / 3) 10) x210 (fun (x212 : Int32) (σ213 : Mm) (L214 : List Nat) => ∀ ρ216 : Rh, ρ216 = (σ213, L214, σ209.2.2 + 1) → (∃ J219 : Rh → Int32 → Prop, (∀ (σ217 : Rh) (x218 : Int32), J219 σ217 x218 → J76 σ217 x2 x3 x4 x5 y6 x218) ∧ (∃ J221 : Rh → Prop, (∀ (σ220 : Rh), J221 σ220 → J219 σ220 0) ∧ ((x212 < 0 → J221 ρ216) ∧ (¬ (x212 < 0) → ρ216.2.2 + 1 ≤ 3500 ∧ wp_L_penalty ρ216.2.1 ρ216.1 (100 + (jr (x63 / 90) 401)) (fun (x222 : Int32) (σ223 : Mm) (L224 : List Nat) => ∀ ρ226 : Rh, ρ226 = (σ223, L224, ρ216.2.2 + 1) → ((x222 < 100 → J221 ρ226) ∧ (¬ (x222 < 100) → J219 ρ226 1))))))))) ∧ ((¬ (jr (x63 / 30) 3) = 0 → J211 σ134 0) ∧ (¬ (¬ (jr (x63 / 30) 3) = 0) → J211 σ134 1))))))))) ∧ ((11 ≤ x65 → J135 σ132) ∧ (¬ (11 ≤ x65) → ((x4 ≤ 0 → J135 σ132) ∧ (¬ (x4 ≤ 0) → ∀ x227 : Int32, x227 = 1 + (jr (x63 / 6) 200000) → ¬ x4 = 0 ∧ σ132.2.2 + 1 ≤ 3500 ∧ wp_L_cost σ132.2.1 σ132.1 (jr x63 x4) x68 x227 (fun (x229 : Int32) (σ230 : Mm) (L231 : List Nat) => ∀ ρ233 : Rh, ρ233 = (σ230, L231, σ132.2.2 + 1) → (∃ J236 : Rh → Int32 → Prop, (∀ (σ234 : Rh) (x235 : Int32), J236 σ234 x235 → (∃ J239 : Rh → Int64 → Prop, (∀ (σ237 : Rh) (y238 : Int64), J239 σ237 y238 → ∀ y240 : Int64, y240 = y6 + y238 → J76 σ237 x2 x3 x4 x5 y240 x235) ∧ ((x229 ≤ 0 → J239 σ234 0) ∧ (¬ (x229 ≤ 0) → J239 σ234 x227.toInt64)))) ∧ (∃ J242 : Rh → Prop, (∀ (σ241 : Rh), J242 σ241 → J236 σ241 1) ∧ ((x229 = (-103) → J242 ρ233) ∧ (¬ (x229 = (-103)) → ((x229 < x227 → J236 ρ233 0) ∧ (¬ (x229 < x227) → J242 ρ233))))))))))))) ∧ ((9 ≤ x65 → J133 σ130) ∧ (¬ (9 ≤ x65) → ((x4 ≤ 0 → J133 σ130) ∧ (¬ (x4 ≤ 0) → ¬ x4 = 0 ∧ σ130.2.2 + 1 ≤ 3500 ∧ wp_L_oil σ130.2.1 σ130.1 (jr x63 x4) x68 (jr (x63 / 6) 1001) (jr (x63 / 6006) 10001) (fun (x244 : Int32) (σ245 : Mm) (L246 : List Nat) => ∀ ρ248 : Rh, ρ248 = (σ245, L246, σ130.2.2 + 1) → (∃ J251 : Rh → Int32 → Prop, (∀ (σ249 : Rh) (x250 : Int32), J251 σ249 x250 → J76 σ249 x2 x3 x4 x5 y6 x250) ∧ ((x244 = (-101) → J251 ρ248 0) ∧ (¬ (x244 = (-101)) → J251 ρ248 1)))))))))) ∧ (¬ (6 ≤ x65) → ¬ x2 = 0 ∧ σ130.2.2 + 1 ≤ 3500 ∧ wp_L_lease σ130.2.1 σ130.1 (jr x63 x2) (jr (x63 / 5) 10) (jr (x63 / 50) 10) (jr (x63 / 500) 501) (1 + (jr (x63 / 7) 6)) (fun (x253 : Int32) (σ254 : Mm) (L255 : List Nat) => ∀ ρ257 : Rh, ρ257 = (σ254, L255, σ130.2.2 + 1) → (∃ J260 : Rh → Int32 → Prop, (∀ (σ258 : Rh) (x259 : Int32), J260 σ258 x259 → J76 σ258 x2 x3 x4 x5 y6 x259) ∧ ((x253 = (-101) → J260 ρ257 0) ∧ (¬ (x253 = (-101)) → J260 ρ257 1))))))) ∧ ((¬ x65 = 3 → J131 σ128) ∧ (¬ (¬ x65 = 3) → ((x3 ≤ 0 → J131 σ128) ∧ (¬ (x3 ≤ 0) → ((6 ≤ x4 → J131 σ128) ∧ (¬ (6 ≤ x4) → ¬ x3 = 0 ∧ σ128.2.2 + 1 ≤ 3500 ∧ wp_L_well σ128.2.1 σ128.1 (jr x63 x3) (fun (x262 : Int32) (σ263 : Mm) (L264 : List Nat) => ∀ ρ266 : Rh, ρ266 = (σ263, L264, σ128.2.2 + 1) → (∃ J269 : Rh → Int32 → Prop, (∀ (σ267 : Rh) (x268 : Int32), J269 σ267 x268 → ∀ x270 : Int32, x270 = x4 + 1 → J76 σ267 x2 x3 x270 x5 y6 x268) ∧ ((¬ x262 = x4 → J269 ρ266 0) ∧ (¬ (¬ x262 = x4) → J269 ρ266 1)))))))))))) ∧ (¬ (¬ x65 = 2) → σ128.2.2 + 1 ≤ 3500 ∧ wp_L_unit σ128.2.1 σ128.1 (1 + (jr x63 31)) (fun (x271 : Int32) (σ272 : Mm) (L273 : List Nat) => ∀ ρ275 : Rh, ρ275 = (σ272, L273, σ128.2.2 + 1) → (∃ J278 : Rh → Int32 → Prop, (∀ (σ276 : Rh) (x277 : Int32), J278 σ276 x277 → (∃ J281 : Rh → Int32 → Prop, (∀ (σ279 : Rh) (x280 : Int32), J281 σ279 x280 → ∀ x282 : Int32, x282 = x3 + x280 → J76 σ279 x2 x282 x4 x5 y6 x277) ∧ ((¬ x271 = x3 → J281 σ276 0) ∧ (¬ (¬ x271 = x3) → J281 σ276 1)))) ∧ (∃ J284 : Rh → Prop, (∀ (σ283 : Rh), J284 σ283 → J278 σ283 1) ∧ ((x271 = x3 → J284 ρ275) ∧ (¬ (x271 = x3) → ((0 ≤ x271 → J278 ρ275 0) ∧ (¬ (0 ≤ x271) → J284 ρ275)))))))))) ∧ (¬ (2 ≤ x65) → ¬ x2 = 0 ∧ σ128.2.2 + 1 ≤ 3500 ∧ wp_L_deed σ128.2.1 σ128.1 (jr x63 x2) (jr (x63 / 5) 10) (jr (x63 / 50) 10) (1 + (jr (x63 / 500) 9000)) x68 (fun (x286 : Int32) (σ287 : Mm) (L288 : List Nat) => ∀ ρ290 : Rh, ρ290 = (σ287, L288, σ128.2.2 + 1) → (∃ J293 : Rh → Int32 → Prop, (∀ (σ291 : Rh) (x292 : Int32), J293 σ291 x292 → J76 σ291 x2 x3 x4 x5 y6 x292) ∧ ((x286 = (-101) → J293 ρ290 0) ∧ (¬ (x286 = (-101)) → J293 ρ290 1))))))) ∧ ((¬ x65 = 0 → J129 σ64) ∧ (¬ (¬ x65 = 0) → ((5 ≤ x2 → J129 σ64) ∧ (¬ (5 ≤ x2) → σ64.2.2 + 1 ≤ 3500 ∧ wp_L_tract σ64.2.1 σ64.1 (1 + (jr x63 1000)) (jr (x63 / 1000) 10) (fun (x294 : Int32) (σ295 : Mm) (L296 : List Nat) => ∀ ρ298 : Rh, ρ298 = (σ295, L296, σ64.2.2 + 1) → (∃ J301 : Rh → Int32 → Prop, (∀ (σ299 : Rh) (x300 : Int32), J301 σ299 x300 → ∀ x302 : Int32, x302 = x2 + 1 → J76 σ299 x302 x3 x4 x5 y6 x300) ∧ ((¬ x294 = x2 → J301 ρ298 0) ∧ (¬ (¬ x294 = x2) → J301 ρ298 1))))))))))) ∧ ((3 ≤ x8 → ((¬ x8 = 3 → ((¬ x8 = 4 → J66 σ1 (jr x61 16)) ∧ (¬ (¬ x8 = 4) → J66 σ1 3))) ∧ (¬ (¬ x8 = 3) → J66 σ1 2))) ∧ (¬ (3 ≤ x8) → J66 σ1 0))))))))) n (ρ, 0, 0, 0, 0, 0, 1, 0))
theorem kL_law_0 : (Cond.constant RL 163 (-2000000000)) ∈ wsL_law := by decide +kernel
theorem kL_law_1 : (Cond.constant RL 130 (200000)) ∈ wsL_law := by decide +kernel
section LEND
variable {p : Program} {l : Launch} {e : Env} {R : Room} {s : State} {m : MethodId} {args : Array Value} {below : List Frame} {meth : Method} {c : Code} {c0 s0 : Nat} {Q : State → Prop} {dC : Nat → ClassId} {dI : Nat → Nat → Nat} {dA : Nat → ClassId} {A : Nat → Prop} {xa nL : Nat} {cc : ByteArray} {own : String} {Ts : List Cond} {Wd : Rh → Heap → List Loc → Prop} {ρ : Rh} {pc : Nat} {lv lv' : List (Nat × Value)} {st : List Value}
theorem l_end {b0 : Nat} (hC : mC p s m #[Value.ref b0] c code own nL Ts dC dI dA A) (hr : meth.sig.returnType = ret) (hlk : meth.locks = false) (hAs : ∀ q, A q → s.heap.size ≤ q) (hQ : Q = lw_Z below #[Value.ref b0] s) {x : Int32} (hw : ρ.2.2 ≤ 3500) (hx : x = 1) (d : decode code pc = .ok (.ireturn, 1)) : GL p l e room_1 s m #[Value.ref b0] below meth c 64 8000 Q (LW s dC dI dA A xa) nL ρ pc lv [.int x] := by
  subst hQ
  subst hx
  intro H locs ls hW hl
  obtain ⟨α, h0, hP, hD, hS⟩ := hW
  refine va_forget (fun q hq => hAs _ (hS.2.2 q hq)) ?_
  refine W.widen (k := 600086) (n := 7301442) (by omega) (by omega) ?_
  exact lw_ret hC.1 hC.2.1 hr hlk d
end LEND
set_option maxHeartbeats 40000000 in
set_option maxRecDepth 100000 in
theorem law_goes {p : Program} {l : Launch} {e : Env} {s : State} {m : MethodId} {below : List Frame} {meth : Method} {c : Code} {Q : State → Prop} {dC : Nat → ClassId} {dI : Nat → Nat → Nat} {dA : Nat → ClassId} {A : Nat → Prop} {xa b N : Nat} {xs : Nat → Int32} (hlf : l.stackTraces = false) (hC : mC p s m #[Value.ref b] c code RL 21 wsL_law dC dI dA A) (hX : xX A s) (hXs : va_X b N xs s s.heap) (hbl : b < s.heap.size) (hbA : ¬ A b) (hr : meth.sig.returnType = ret) (hlk : meth.locks = false) (hAs : ∀ q, A q → s.heap.size ≤ q) (hQ : Q = lw_Z below #[Value.ref b] s) (hN : N < 2147483648) (ρ : Rh) (h : law_body ρ) : GL p l e room_1 s m #[Value.ref b] below meth c 64 8000 Q (LW s dC dI dA A xa) 21 ρ 8 [(1, .ref xa), (0, .ref b)] [] := by
  unfold law_body at h
  refine l_iconst (v := 0) hC dL_law_8 (by decide) ?_
  refine l_istore_n (lv' := [(2, .int 0), (1, .ref xa), (0, .ref b)]) hC dL_law_9 rfl (by decide) rfl ?_
  refine l_iconst (v := 0) hC dL_law_10 (by decide) ?_
  refine l_istore_n (lv' := [(3, .int 0), (2, .int 0), (1, .ref xa), (0, .ref b)]) hC dL_law_11 rfl (by decide) rfl ?_
  refine l_iconst (v := 0) hC dL_law_12 (by decide) ?_
  refine l_istore (lv' := [(4, .int 0), (3, .int 0), (2, .int 0), (1, .ref xa), (0, .ref b)]) hC dL_law_13 (by decide) rfl ?_
  refine l_iconst (v := 0) hC dL_law_15 (by decide) ?_
  refine l_istore (lv' := [(5, .int 0), (4, .int 0), (3, .int 0), (2, .int 0), (1, .ref xa), (0, .ref b)]) hC dL_law_16 (by decide) rfl ?_
  refine l_lconst (v := 0) hC dL_law_18 (by decide) ?_
  refine l_lstore (lv' := [(6, .long 0), (5, .int 0), (4, .int 0), (3, .int 0), (2, .int 0), (1, .ref xa), (0, .ref b)]) hC dL_law_19 (by decide) rfl ?_
  refine l_iconst (v := 1) hC dL_law_21 (by decide) ?_
  refine l_istore (lv' := [(8, .int 1), (6, .long 0), (5, .int 0), (4, .int 0), (3, .int 0), (2, .int 0), (1, .ref xa), (0, .ref b)]) hC dL_law_22 (by decide) rfl ?_
  refine l_iconst (v := 0) hC dL_law_24 (by decide) ?_
  refine l_istore (lv' := [(9, .int 0), (8, .int 1), (6, .long 0), (5, .int 0), (4, .int 0), (3, .int 0), (2, .int 0), (1, .ref xa), (0, .ref b)]) hC dL_law_25 (by decide) rfl ?_
  refine l_lvs [8, 7, 6, 5, 4, 3, 2, 1, 0] rfl ?_
  obtain ⟨n, h⟩ := h
  refine lpw_ind (S := Rh × Int32 × Int32 × Int32 × Int32 × Int64 × Int32 × Int32) (fun s10 => GL p l e room_1 s m #[Value.ref b] below meth c 64 8000 Q (LW s dC dI dA A xa) 21 s10.1 27 [(0, .ref b), (1, .ref xa), (2, .int s10.2.1), (3, .int s10.2.2.1), (4, .int s10.2.2.2.1), (5, .int s10.2.2.2.2.1), (6, .long s10.2.2.2.2.2.1), (8, .int s10.2.2.2.2.2.2.1), (9, .int s10.2.2.2.2.2.2.2)] []) ?_ n (ρ, 0, 0, 0, 0, 0, 1, 0) h
  clear h
  intro R9 hR9 s10 h
  obtain ⟨σ1, x2, x3, x4, x5, y6, x7, x8⟩ := s10
  refine l_iload hC dL_law_27 8 rfl ?_
  refine l_bipush (v := 28) hC dL_law_29 (by decide) ?_
  obtain ⟨J12, hJ12, h⟩ := h
  have KJ12 : ∀ (σ11 : Rh), J12 σ11 → GL p l e room_1 s m #[Value.ref b] below meth c 64 8000 Q (LW s dC dI dA A xa) 21 σ11 955 [(1, .ref xa), (3, .int x3), (5, .int x5), (6, .long y6), (8, .int x7)] [] := by
    clear h
    intro σ11 h
    replace h := hJ12 σ11 h
    refine l_lconst (v := 0) hC dL_law_955 (by decide) ?_
    refine l_lstore (lv' := [(9, .long 0), (1, .ref xa), (3, .int x3), (5, .int x5), (6, .long y6), (8, .int x7)]) hC dL_law_956 (by decide) rfl ?_
    refine l_iconst (v := 0) hC dL_law_958 (by decide) ?_
    refine l_istore (lv' := [(11, .int 0), (9, .long 0), (1, .ref xa), (3, .int x3), (5, .int x5), (6, .long y6), (8, .int x7)]) hC dL_law_959 (by decide) rfl ?_
    refine l_lvs [2, 3, 4, 5, 6, 1, 0] rfl ?_
    obtain ⟨n, h⟩ := h
    refine lpw_ind (S := Rh × Int64 × Int32) (fun s17 => GL p l e room_1 s m #[Value.ref b] below meth c 64 8000 Q (LW s dC dI dA A xa) 21 s17.1 961 [(1, .ref xa), (3, .int x3), (5, .int x5), (6, .long y6), (8, .int x7), (9, .long s17.2.1), (11, .int s17.2.2)] []) ?_ n (σ11, 0, 0) h
    clear h
    intro R16 hR16 s17 h
    obtain ⟨σ13, y14, x15⟩ := s17
    refine l_iload hC dL_law_961 6 rfl ?_
    refine l_bipush (v := 10) hC dL_law_963 (by decide) ?_
    obtain ⟨J19, hJ19, h⟩ := h
    have KJ19 : ∀ (σ18 : Rh), J19 σ18 → GL p l e room_1 s m #[Value.ref b] below meth c 64 8000 Q (LW s dC dI dA A xa) 21 σ18 997 [(1, .ref xa), (3, .int x3), (5, .int x5), (6, .long y6), (8, .int x7), (9, .long y14)] [] := by
      clear h
      intro σ18 h
      replace h := hJ19 σ18 h
      refine l_lconst (v := 0) hC dL_law_997 (by decide) ?_
      refine l_lstore (lv' := [(11, .long 0), (1, .ref xa), (3, .int x3), (5, .int x5), (6, .long y6), (8, .int x7), (9, .long y14)]) hC dL_law_998 (by decide) rfl ?_
      refine l_iconst (v := 0) hC dL_law_1000 (by decide) ?_
      refine l_istore (lv' := [(13, .int 0), (11, .long 0), (1, .ref xa), (3, .int x3), (5, .int x5), (6, .long y6), (8, .int x7), (9, .long y14)]) hC dL_law_1001 (by decide) rfl ?_
      refine l_lvs [2, 3, 4, 5, 6, 7, 1, 0] rfl ?_
      obtain ⟨n, h⟩ := h
      refine lpw_ind (S := Rh × Int64 × Int32) (fun s24 => GL p l e room_1 s m #[Value.ref b] below meth c 64 8000 Q (LW s dC dI dA A xa) 21 s24.1 1003 [(1, .ref xa), (3, .int x3), (5, .int x5), (6, .long y6), (8, .int x7), (9, .long y14), (11, .long s24.2.1), (13, .int s24.2.2)] []) ?_ n (σ18, 0, 0) h
      clear h
      intro R23 hR23 s24 h
      obtain ⟨σ20, y21, x22⟩ := s24
      refine l_iload hC dL_law_1003 7 rfl ?_
      refine l_iload_n hC dL_law_1005 rfl 1 rfl ?_
      obtain ⟨J26, hJ26, h⟩ := h
      have KJ26 : ∀ (σ25 : Rh), J26 σ25 → GL p l e room_1 s m #[Value.ref b] below meth c 64 8000 Q (LW s dC dI dA A xa) 21 σ25 1063 [(6, .long y6), (8, .int x7), (9, .long y14), (11, .long y21)] [] := by
        clear h
        intro σ25 h
        replace h := hJ26 σ25 h
        refine l_iload hC dL_law_1063 1 rfl ?_
        obtain ⟨J29, hJ29, h⟩ := h
        have KJ29 : ∀ (σ27 : Rh) (x28 : Int32), J29 σ27 x28 → GL p l e room_1 s m #[Value.ref b] below meth c 64 8000 Q (LW s dC dI dA A xa) 21 σ27 1084 [] [.int x28] := by
          clear h
          intro σ27 x28 h
          replace h := hJ29 σ27 x28 h
          exact l_end hC hr hlk hAs hQ h.1 h.2 dL_law_1084
        obtain ⟨J31, hJ31, h⟩ := h
        have KJ31 : ∀ (σ30 : Rh), J31 σ30 → GL p l e room_1 s m #[Value.ref b] below meth c 64 8000 Q (LW s dC dI dA A xa) 21 σ30 1083 [] [] := by
          clear h
          intro σ30 h
          replace h := hJ31 σ30 h
          refine l_iconst (v := 0) hC dL_law_1083 (by decide) ?_
          exact KJ29 σ30 0 h
        refine l_if_eq (tgt := 1083) hC dL_law_1065 (by decide) (fun q => ?_) (fun q => ?_)
        · replace h := h.1 q
          refine l_lvs [] rfl ?_
          exact KJ31 σ25 h
        · replace h := h.2 q
          refine l_lload hC dL_law_1068 2 rfl ?_
          refine l_lload hC dL_law_1070 3 rfl ?_
          refine l_lload hC dL_law_1072 0 rfl ?_
          refine l_lsub hC dL_law_1074 ?_
          refine l_lcmp_ne (tgt := 1083) hC dL_law_1075 dL_law_1076 (by decide) (fun q => ?_) (fun q => ?_)
          · replace h := h.1 q
            refine l_lvs [] rfl ?_
            exact KJ31 σ25 h
          · replace h := h.2 q
            refine l_iconst (v := 1) hC dL_law_1079 (by decide) ?_
            refine l_goto (tgt := 1084) hC dL_law_1080 (by decide) ?_
            refine l_lvs [] rfl ?_
            exact KJ29 σ25 1 h
      refine l_icmp_ge (tgt := 1063) hC dL_law_1006 (by decide) (fun q => ?_) (fun q => ?_)
      · replace h := h.1 q
        refine l_lvs [3, 4, 5, 6] rfl ?_
        exact KJ26 σ20 h
      · replace h := h.2 q
        refine l_iload hC dL_law_1009 4 rfl ?_
        refine l_if_eq (tgt := 1063) hC dL_law_1011 (by decide) (fun q => ?_) (fun q => ?_)
        · replace h := h.1 q
          refine l_lvs [3, 4, 5, 6] rfl ?_
          exact KJ26 σ20 h
        · replace h := h.2 q
          refine l_iconst (v := 0) hC dL_law_1014 (by decide) ?_
          refine l_istore (lv' := [(14, .int 0), (1, .ref xa), (3, .int x3), (5, .int x5), (6, .long y6), (8, .int x7), (9, .long y14), (11, .long y21), (13, .int x22)]) hC dL_law_1015 (by decide) rfl ?_
          refine l_lvs [1, 2, 3, 4, 5, 6, 7, 8, 0] rfl ?_
          obtain ⟨n, h⟩ := h
          refine lpw_ind (S := Rh × Int64 × Int32) (fun s36 => GL p l e room_1 s m #[Value.ref b] below meth c 64 8000 Q (LW s dC dI dA A xa) 21 s36.1 1017 [(1, .ref xa), (3, .int x3), (5, .int x5), (6, .long y6), (8, .int x7), (9, .long y14), (11, .long s36.2.1), (13, .int x22), (14, .int s36.2.2)] []) ?_ n (σ20, y21, 0) h
          clear h
          intro R35 hR35 s36 h
          obtain ⟨σ32, y33, x34⟩ := s36
          refine l_iload hC dL_law_1017 8 rfl ?_
          refine l_iload hC dL_law_1019 2 rfl ?_
          refine l_icmp_gt (tgt := 1057) hC dL_law_1021 (by decide) (fun q => ?_) (fun q => ?_)
          · replace h := h.1 q
            obtain ⟨x37, qx37⟩ : ∃ z : Int32, z = x22 + 1 := ⟨_, rfl⟩
            replace h := h x37 qx37
            refine l_iinc (v := x37) (lv' := [(13, .int x37), (1, .ref xa), (3, .int x3), (5, .int x5), (6, .long y6), (8, .int x7), (9, .long y14), (11, .long y33), (14, .int x34)]) hC dL_law_1057 (k := 7) rfl (by rw [qx37]; rfl) (by decide) rfl ?_
            refine l_goto (tgt := 1003) hC dL_law_1060 (by decide) ?_
            refine l_lvs [1, 2, 3, 4, 5, 6, 7, 0] rfl ?_
            exact hR23 _ h
          · replace h := h.2 q
            refine l_aload_n hC dL_law_1024 rfl 0 rfl ?_
            refine l_iload hC dL_law_1025 7 rfl ?_
            refine l_iload hC dL_law_1027 8 rfl ?_
            obtain ⟨w41, h⟩ := h
            refine l_wcalli (n := 3) hC hX [.ref xa, .int x22, .int x34] [] (fun α sz => cm_L_revenue l hlf dC dI dA _ α _ x22 x34 _ h sz) (fun α h0 => by rw [← h0]; rfl) gL_law_L_revenue rfl ⟨rfl, rfl⟩ (by decide +kernel) ⟨Nat.le_of_ble_eq_true rfl, Nat.le_of_ble_eq_true rfl⟩ rfl rfl (Nat.le_of_ble_eq_true rfl) ⟨by show 64 + 16 * σ32.2.2 + 16 ≤ 600086; omega, by show 8000 + 2000 * σ32.2.2 + 2000 ≤ 7301442; omega⟩ dL_law_1029 (fun x38 σ39 L40 hn => ?_)
            clear h
            revert hn
            intro h
            refine l_topm (fun ρ42 qρ42 => ?_)
            replace h := h ρ42 qρ42
            refine l_istore (lv' := [(15, .int x38), (1, .ref xa), (3, .int x3), (5, .int x5), (6, .long y6), (8, .int x7), (9, .long y14), (11, .long y33), (13, .int x22), (14, .int x34)]) hC dL_law_1032 (by decide) rfl ?_
            refine l_lload hC dL_law_1034 7 rfl ?_
            refine l_iload hC dL_law_1036 0 rfl ?_
            obtain ⟨J45, hJ45, h⟩ := h
            have KJ45 : ∀ (σ43 : Rh) (y44 : Int64), J45 σ43 y44 → GL p l e room_1 s m #[Value.ref b] below meth c 64 8000 Q (LW s dC dI dA A xa) 21 σ43 1048 [(1, .ref xa), (3, .int x3), (5, .int x5), (6, .long y6), (8, .int x7), (9, .long y14), (13, .int x22), (14, .int x34)] [.long y44, .long y33] := by
              clear h
              intro σ43 y44 h
              replace h := hJ45 σ43 y44 h
              refine l_ladd hC dL_law_1048 ?_
              refine l_topl (fun y46 qy46 => ?_)
              replace h := h y46 qy46
              refine l_lstore (lv' := [(11, .long y46), (1, .ref xa), (3, .int x3), (5, .int x5), (6, .long y6), (8, .int x7), (9, .long y14), (13, .int x22), (14, .int x34)]) hC dL_law_1049 (by decide) rfl ?_
              obtain ⟨x47, qx47⟩ : ∃ z : Int32, z = x34 + 1 := ⟨_, rfl⟩
              replace h := h x47 qx47
              refine l_iinc (v := x47) (lv' := [(14, .int x47), (11, .long y46), (1, .ref xa), (3, .int x3), (5, .int x5), (6, .long y6), (8, .int x7), (9, .long y14), (13, .int x22)]) hC dL_law_1051 (k := 8) rfl (by rw [qx47]; rfl) (by decide) rfl ?_
              refine l_goto (tgt := 1017) hC dL_law_1054 (by decide) ?_
              refine l_lvs [2, 3, 4, 5, 6, 7, 1, 8, 0] rfl ?_
              exact hR35 _ h
            refine l_if_ge (tgt := 1045) hC dL_law_1038 (by decide) (fun q => ?_) (fun q => ?_)
            · replace h := h.1 q
              refine l_iload hC dL_law_1045 0 rfl ?_
              refine l_i2l hC dL_law_1047 ?_
              refine l_lvs [1, 2, 3, 4, 5, 6, 8, 9] rfl ?_
              exact KJ45 ρ42 x38.toInt64 h
            · replace h := h.2 q
              refine l_lconst (v := 0) hC dL_law_1041 (by decide) ?_
              refine l_goto (tgt := 1048) hC dL_law_1042 (by decide) ?_
              refine l_lvs [1, 2, 3, 4, 5, 6, 8, 9] rfl ?_
              exact KJ45 ρ42 0 h
    refine l_icmp_ge (tgt := 997) hC dL_law_965 (by decide) (fun q => ?_) (fun q => ?_)
    · replace h := h.1 q
      refine l_lvs [0, 1, 2, 3, 4, 5] rfl ?_
      exact KJ19 σ13 h
    · replace h := h.2 q
      refine l_iload hC dL_law_968 4 rfl ?_
      refine l_if_eq (tgt := 997) hC dL_law_970 (by decide) (fun q => ?_) (fun q => ?_)
      · replace h := h.1 q
        refine l_lvs [0, 1, 2, 3, 4, 5] rfl ?_
        exact KJ19 σ13 h
      · replace h := h.2 q
        refine l_lload hC dL_law_973 5 rfl ?_
        refine l_aload_n hC dL_law_975 rfl 0 rfl ?_
        refine l_iload hC dL_law_976 6 rfl ?_
        obtain ⟨w51, h⟩ := h
        refine l_wcalll (n := 2) hC hX [.ref xa, .int x15] [.long y14] (fun α sz => cm_L_owed l hlf dC dI dA _ α _ x15 _ h sz) (fun α h0 => by rw [← h0]; rfl) gL_law_L_owed rfl ⟨rfl, rfl⟩ (by decide +kernel) ⟨Nat.le_of_ble_eq_true rfl, Nat.le_of_ble_eq_true rfl⟩ rfl rfl (Nat.le_of_ble_eq_true rfl) ⟨by show 64 + 16 * σ13.2.2 + 16 ≤ 600086; omega, by show 8000 + 2000 * σ13.2.2 + 2000 ≤ 7301442; omega⟩ dL_law_978 (fun y48 σ49 L50 hn => ?_)
        clear h
        revert hn
        intro h
        refine l_topm (fun ρ52 qρ52 => ?_)
        replace h := h ρ52 qρ52
        refine l_aload_n hC dL_law_981 rfl 0 rfl ?_
        refine l_iload hC dL_law_982 6 rfl ?_
        obtain ⟨w56, h⟩ := h
        refine l_wcalll (n := 2) hC hX [.ref xa, .int x15] [.long y48, .long y14] (fun α sz => cm_L_paid l hlf dC dI dA _ α _ x15 _ h sz) (fun α h0 => by rw [← h0]; rfl) gL_law_L_paid rfl ⟨rfl, rfl⟩ (by decide +kernel) ⟨Nat.le_of_ble_eq_true rfl, Nat.le_of_ble_eq_true rfl⟩ rfl rfl (Nat.le_of_ble_eq_true rfl) ⟨by show 64 + 16 * ρ52.2.2 + 16 ≤ 600086; omega, by show 8000 + 2000 * ρ52.2.2 + 2000 ≤ 7301442; omega⟩ dL_law_984 (fun y53 σ54 L55 hn => ?_)
        clear h
        revert hn
        intro h
        refine l_topm (fun ρ57 qρ57 => ?_)
        replace h := h ρ57 qρ57
        refine l_ladd hC dL_law_987 ?_
        refine l_ladd hC dL_law_988 ?_
        refine l_topl (fun y58 qy58 => ?_)
        replace h := h y58 qy58
        refine l_lstore (lv' := [(9, .long y58), (1, .ref xa), (3, .int x3), (5, .int x5), (6, .long y6), (8, .int x7), (11, .int x15)]) hC dL_law_989 (by decide) rfl ?_
        obtain ⟨x59, qx59⟩ : ∃ z : Int32, z = x15 + 1 := ⟨_, rfl⟩
        replace h := h x59 qx59
        refine l_iinc (v := x59) (lv' := [(11, .int x59), (9, .long y58), (1, .ref xa), (3, .int x3), (5, .int x5), (6, .long y6), (8, .int x7)]) hC dL_law_991 (k := 6) rfl (by rw [qx59]; rfl) (by decide) rfl ?_
        refine l_goto (tgt := 961) hC dL_law_994 (by decide) ?_
        refine l_lvs [2, 3, 4, 5, 6, 1, 0] rfl ?_
        exact hR16 _ h
  refine l_icmp_ge (tgt := 955) hC dL_law_31 (by decide) (fun q => ?_) (fun q => ?_)
  · replace h := h.1 q
    refine l_lvs [1, 3, 5, 6, 7] rfl ?_
    exact KJ12 σ1 h
  · replace h := h.2 q
    refine l_iload hC dL_law_34 7 rfl ?_
    refine l_if_eq (tgt := 955) hC dL_law_36 (by decide) (fun q => ?_) (fun q => ?_)
    · replace h := h.1 q
      refine l_lvs [1, 3, 5, 6, 7] rfl ?_
      exact KJ12 σ1 h
    · replace h := h.2 q
      refine l_aload_n hC dL_law_39 rfl 0 rfl ?_
      refine l_iload hC dL_law_40 8 rfl ?_
      obtain ⟨w62, c60, h⟩ := h
      refine l_drawn hC hXs hbl hbA [] (fun sz => cm_L_drawn l hN c60 sz) gL_law_L_drawn rfl ⟨rfl, rfl⟩ (by decide +kernel) ⟨Nat.le_of_ble_eq_true rfl, Nat.le_of_ble_eq_true rfl⟩ (Nat.le_of_ble_eq_true rfl) ⟨by show 64 + 16 * σ1.2.2 + 0 ≤ 600086; omega, by show 8000 + 2000 * σ1.2.2 + 0 ≤ 7301442; omega⟩ dL_law_42 (fun x61 qx61 => ?_)
      replace h := h x61 qx61
      refine l_istore (lv' := [(10, .int x61), (0, .ref b), (1, .ref xa), (2, .int x2), (3, .int x3), (4, .int x4), (5, .int x5), (6, .long y6), (8, .int x7), (9, .int x8)]) hC dL_law_45 (by decide) rfl ?_
      refine l_iload hC dL_law_47 0 rfl ?_
      refine l_bipush (v := 16) hC dL_law_49 (by decide) ?_
      refine l_idiv hC (by decide) dL_law_51 ?_
      refine l_topi (fun x63 qx63 => ?_)
      replace h := h x63 qx63
      refine l_istore (lv' := [(11, .int x63), (10, .int x61), (0, .ref b), (1, .ref xa), (2, .int x2), (3, .int x3), (4, .int x4), (5, .int x5), (6, .long y6), (8, .int x7), (9, .int x8)]) hC dL_law_52 (by decide) rfl ?_
      refine l_iload hC dL_law_54 10 rfl ?_
      refine l_iconst (v := 3) hC dL_law_56 (by decide) ?_
      obtain ⟨J66, hJ66, h⟩ := h
      have KJ66 : ∀ (σ64 : Rh) (x65 : Int32), J66 σ64 x65 → GL p l e room_1 s m #[Value.ref b] below meth c 64 8000 Q (LW s dC dI dA A xa) 21 σ64 89 [(0, .ref b), (1, .ref xa), (2, .int x2), (3, .int x3), (4, .int x4), (5, .int x5), (6, .long y6), (8, .int x7), (9, .int x8), (11, .int x63)] [.int x65] := by
        clear h
        intro σ64 x65 h
        replace h := hJ66 σ64 x65 h
        refine l_istore (lv' := [(12, .int x65), (0, .ref b), (1, .ref xa), (2, .int x2), (3, .int x3), (4, .int x4), (5, .int x5), (6, .long y6), (8, .int x7), (9, .int x8), (11, .int x63)]) hC dL_law_89 (by decide) rfl ?_
        refine l_iload hC dL_law_91 10 rfl ?_
        refine l_iload hC dL_law_93 6 rfl ?_
        refine l_iconst (v := 1) hC dL_law_95 (by decide) ?_
        refine l_iadd hC dL_law_96 ?_
        obtain ⟨c67, h⟩ := h
        refine l_irem hC c67 dL_law_97 ?_
        refine l_topi (fun x68 qx68 => ?_)
        replace h := h x68 qx68
        refine l_istore (lv' := [(13, .int x68), (12, .int x65), (0, .ref b), (1, .ref xa), (2, .int x2), (3, .int x3), (4, .int x4), (5, .int x5), (6, .long y6), (8, .int x7), (9, .int x8), (11, .int x63)]) hC dL_law_98 (by decide) rfl ?_
        refine l_iload hC dL_law_100 1 rfl ?_
        obtain ⟨J76, hJ76, h⟩ := h
        have KJ76 : ∀ (σ69 : Rh) (x70 : Int32) (x71 : Int32) (x72 : Int32) (x73 : Int32) (y74 : Int64) (x75 : Int32), J76 σ69 x70 x71 x72 x73 y74 x75 → GL p l e room_1 s m #[Value.ref b] below meth c 64 8000 Q (LW s dC dI dA A xa) 21 σ69 809 [(0, .ref b), (1, .ref xa), (2, .int x70), (3, .int x71), (4, .int x72), (5, .int x73), (6, .long y74), (8, .int x75), (9, .int x8), (11, .int x63), (13, .int x68)] [] := by
          clear h
          intro σ69 x70 x71 x72 x73 y74 x75 h
          replace h := hJ76 σ69 x70 x71 x72 x73 y74 x75 h
          refine l_iload hC dL_law_809 9 rfl ?_
          refine l_bipush (v := 10) hC dL_law_811 (by decide) ?_
          refine l_irem hC (by decide) dL_law_813 ?_
          refine l_topi (fun x77 qx77 => ?_)
          replace h := h x77 qx77
          refine l_istore (lv' := [(14, .int x77), (0, .ref b), (1, .ref xa), (2, .int x70), (3, .int x71), (4, .int x72), (5, .int x73), (6, .long y74), (8, .int x75), (9, .int x8), (11, .int x63), (13, .int x68)]) hC dL_law_814 (by decide) rfl ?_
          refine l_iconst (v := 0) hC dL_law_816 (by decide) ?_
          refine l_istore (lv' := [(15, .int 0), (14, .int x77), (0, .ref b), (1, .ref xa), (2, .int x70), (3, .int x71), (4, .int x72), (5, .int x73), (6, .long y74), (8, .int x75), (9, .int x8), (11, .int x63), (13, .int x68)]) hC dL_law_817 (by decide) rfl ?_
          refine l_iconst (v := 0) hC dL_law_819 (by decide) ?_
          refine l_istore (lv' := [(16, .int 0), (15, .int 0), (14, .int x77), (0, .ref b), (1, .ref xa), (2, .int x70), (3, .int x71), (4, .int x72), (5, .int x73), (6, .long y74), (8, .int x75), (9, .int x8), (11, .int x63), (13, .int x68)]) hC dL_law_820 (by decide) rfl ?_
          refine l_lvs [3, 4, 5, 6, 7, 8, 9, 10, 11, 12, 13, 2, 1, 0] rfl ?_
          obtain ⟨n, h⟩ := h
          refine lpw_ind (S := Rh × Int32 × Int32) (fun s82 => GL p l e room_1 s m #[Value.ref b] below meth c 64 8000 Q (LW s dC dI dA A xa) 21 s82.1 822 [(0, .ref b), (1, .ref xa), (2, .int x70), (3, .int x71), (4, .int x72), (5, .int x73), (6, .long y74), (8, .int x75), (9, .int x8), (11, .int x63), (13, .int x68), (14, .int x77), (15, .int s82.2.1), (16, .int s82.2.2)] []) ?_ n (σ69, 0, 0) h
          clear h
          intro R81 hR81 s82 h
          obtain ⟨σ78, x79, x80⟩ := s82
          refine l_iload hC dL_law_822 13 rfl ?_
          refine l_bipush (v := 10) hC dL_law_824 (by decide) ?_
          obtain ⟨J84, hJ84, h⟩ := h
          have KJ84 : ∀ (σ83 : Rh), J84 σ83 → GL p l e room_1 s m #[Value.ref b] below meth c 64 8000 Q (LW s dC dI dA A xa) 21 σ83 857 [(0, .ref b), (1, .ref xa), (2, .int x70), (3, .int x71), (4, .int x72), (5, .int x73), (6, .long y74), (8, .int x75), (9, .int x8), (11, .int x63), (14, .int x77), (15, .int x79)] [] := by
            clear h
            intro σ83 h
            replace h := hJ84 σ83 h
            refine l_iload hC dL_law_857 7 rfl ?_
            obtain ⟨J87, hJ87, h⟩ := h
            have KJ87 : ∀ (σ85 : Rh) (x86 : Int32), J87 σ85 x86 → GL p l e room_1 s m #[Value.ref b] below meth c 64 8000 Q (LW s dC dI dA A xa) 21 σ85 881 [(0, .ref b), (1, .ref xa), (2, .int x70), (3, .int x71), (4, .int x72), (5, .int x73), (6, .long y74), (9, .int x8), (11, .int x63), (14, .int x77)] [.int x86] := by
              clear h
              intro σ85 x86 h
              replace h := hJ87 σ85 x86 h
              refine l_istore (lv' := [(8, .int x86), (0, .ref b), (1, .ref xa), (2, .int x70), (3, .int x71), (4, .int x72), (5, .int x73), (6, .long y74), (9, .int x8), (11, .int x63), (14, .int x77)]) hC dL_law_881 (by decide) rfl ?_
              refine l_iload hC dL_law_883 0 rfl ?_
              obtain ⟨J90, hJ90, h⟩ := h
              have KJ90 : ∀ (σ88 : Rh) (x89 : Int32), J90 σ88 x89 → GL p l e room_1 s m #[Value.ref b] below meth c 64 8000 Q (LW s dC dI dA A xa) 21 σ88 947 [(0, .ref b), (1, .ref xa), (2, .int x70), (3, .int x71), (4, .int x72), (5, .int x73), (6, .long y74), (9, .int x8)] [.int x89] := by
                clear h
                intro σ88 x89 h
                replace h := hJ90 σ88 x89 h
                refine l_istore (lv' := [(8, .int x89), (0, .ref b), (1, .ref xa), (2, .int x70), (3, .int x71), (4, .int x72), (5, .int x73), (6, .long y74), (9, .int x8)]) hC dL_law_947 (by decide) rfl ?_
                obtain ⟨x91, qx91⟩ : ∃ z : Int32, z = x8 + 1 := ⟨_, rfl⟩
                replace h := h x91 qx91
                refine l_iinc (v := x91) (lv' := [(9, .int x91), (8, .int x89), (0, .ref b), (1, .ref xa), (2, .int x70), (3, .int x71), (4, .int x72), (5, .int x73), (6, .long y74)]) hC dL_law_949 (k := 8) rfl (by rw [qx91]; rfl) (by decide) rfl ?_
                refine l_goto (tgt := 27) hC dL_law_952 (by decide) ?_
                refine l_lvs [2, 3, 4, 5, 6, 7, 8, 1, 0] rfl ?_
                exact hR9 _ h
              obtain ⟨J93, hJ93, h⟩ := h
              have KJ93 : ∀ (σ92 : Rh), J93 σ92 → GL p l e room_1 s m #[Value.ref b] below meth c 64 8000 Q (LW s dC dI dA A xa) 21 σ92 946 [(0, .ref b), (1, .ref xa), (2, .int x70), (3, .int x71), (4, .int x72), (5, .int x73), (6, .long y74), (9, .int x8)] [] := by
                clear h
                intro σ92 h
                replace h := hJ93 σ92 h
                refine l_iconst (v := 0) hC dL_law_946 (by decide) ?_
                exact KJ90 σ92 0 h
              refine l_if_eq (tgt := 946) hC dL_law_885 (by decide) (fun q => ?_) (fun q => ?_)
              · replace h := h.1 q
                refine l_lvs [1, 2, 3, 4, 5, 6, 7, 8] rfl ?_
                exact KJ93 σ85 h
              · replace h := h.2 q
                refine l_iload_n hC dL_law_888 rfl 4 rfl ?_
                obtain ⟨J95, hJ95, h⟩ := h
                have KJ95 : ∀ (σ94 : Rh), J95 σ94 → GL p l e room_1 s m #[Value.ref b] below meth c 64 8000 Q (LW s dC dI dA A xa) 21 σ94 942 [(0, .ref b), (1, .ref xa), (2, .int x70), (3, .int x71), (4, .int x72), (5, .int x73), (6, .long y74), (9, .int x8)] [] := by
                  clear h
                  intro σ94 h
                  replace h := hJ95 σ94 h
                  refine l_iconst (v := 1) hC dL_law_942 (by decide) ?_
                  refine l_goto (tgt := 947) hC dL_law_943 (by decide) ?_
                  exact KJ90 σ94 1 h
                refine l_if_eq (tgt := 942) hC dL_law_889 (by decide) (fun q => ?_) (fun q => ?_)
                · replace h := h.1 q
                  refine l_lvs [1, 2, 3, 4, 5, 6, 7, 8] rfl ?_
                  exact KJ95 σ85 h
                · replace h := h.2 q
                  refine l_aload_n hC dL_law_892 rfl 2 rfl ?_
                  refine l_iload hC dL_law_893 9 rfl ?_
                  refine l_iload_n hC dL_law_895 rfl 4 rfl ?_
                  obtain ⟨c96, h⟩ := h
                  refine l_irem hC c96 dL_law_896 ?_
                  refine l_iload hC dL_law_897 6 rfl ?_
                  obtain ⟨w100, h⟩ := h
                  refine l_wcalli (n := 3) hC hX [.ref xa, .int (jr x63 x71), .int x73] [] (fun α sz => cm_L_revenue l hlf dC dI dA _ α _ (jr x63 x71) x73 _ h sz) (fun α h0 => by rw [← h0]; rfl) gL_law_L_revenue rfl ⟨rfl, rfl⟩ (by decide +kernel) ⟨Nat.le_of_ble_eq_true rfl, Nat.le_of_ble_eq_true rfl⟩ rfl rfl (Nat.le_of_ble_eq_true rfl) ⟨by show 64 + 16 * σ85.2.2 + 16 ≤ 600086; omega, by show 8000 + 2000 * σ85.2.2 + 2000 ≤ 7301442; omega⟩ dL_law_899 (fun x97 σ98 L99 hn => ?_)
                  clear h
                  revert hn
                  intro h
                  refine l_topm (fun ρ101 qρ101 => ?_)
                  replace h := h ρ101 qρ101
                  refine l_if_lt (tgt := 946) hC dL_law_902 (by decide) (fun q => ?_) (fun q => ?_)
                  · replace h := h.1 q
                    refine l_lvs [1, 2, 3, 4, 5, 6, 7, 8] rfl ?_
                    exact KJ93 ρ101 h
                  · replace h := h.2 q
                    refine l_iload hC dL_law_905 8 rfl ?_
                    refine l_iconst (v := 2) hC dL_law_907 (by decide) ?_
                    refine l_irem hC (by decide) dL_law_908 ?_
                    obtain ⟨J103, hJ103, h⟩ := h
                    have KJ103 : ∀ (σ102 : Rh), J103 σ102 → GL p l e room_1 s m #[Value.ref b] below meth c 64 8000 Q (LW s dC dI dA A xa) 21 σ102 925 [(0, .ref b), (1, .ref xa), (2, .int x70), (3, .int x71), (4, .int x72), (5, .int x73), (6, .long y74), (9, .int x8), (11, .int x63), (14, .int x77)] [] := by
                      clear h
                      intro σ102 h
                      replace h := hJ103 σ102 h
                      refine l_aload_n hC dL_law_925 rfl 1 rfl ?_
                      refine l_iload hC dL_law_926 8 rfl ?_
                      refine l_iload_n hC dL_law_928 rfl 3 rfl ?_
                      obtain ⟨c104, h⟩ := h
                      refine l_irem hC c104 dL_law_929 ?_
                      refine l_iload hC dL_law_930 5 rfl ?_
                      refine l_iload hC dL_law_932 9 rfl ?_
                      obtain ⟨w108, h⟩ := h
                      refine l_wcalli (n := 4) hC hX [.ref xa, .int (jr x63 x71), .int x73, .int x77] [] (fun α sz => cm_L_due l hlf dC dI dA _ α _ (jr x63 x71) x73 x77 _ h sz) (fun α h0 => by rw [← h0]; rfl) gL_law_L_due rfl ⟨rfl, rfl⟩ (by decide +kernel) ⟨Nat.le_of_ble_eq_true rfl, Nat.le_of_ble_eq_true rfl⟩ rfl rfl (Nat.le_of_ble_eq_true rfl) ⟨by show 64 + 16 * σ102.2.2 + 16 ≤ 600086; omega, by show 8000 + 2000 * σ102.2.2 + 2000 ≤ 7301442; omega⟩ dL_law_934 (fun x105 σ106 L107 hn => ?_)
                      clear h
                      revert hn
                      intro h
                      refine l_topm (fun ρ109 qρ109 => ?_)
                      replace h := h ρ109 qρ109
                      refine l_ldc (v := (-2000000000)) hC kL_law_0 dL_law_937 ?_
                      refine l_icmp_le (tgt := 946) hC dL_law_939 (by decide) (fun q => ?_) (fun q => ?_)
                      · replace h := h.1 q
                        refine l_lvs [0, 1, 2, 3, 4, 5, 6, 7] rfl ?_
                        exact KJ93 ρ109 h
                      · replace h := h.2 q
                        refine l_lvs [0, 1, 2, 3, 4, 5, 6, 7] rfl ?_
                        exact KJ95 ρ109 h
                    refine l_if_eq (tgt := 925) hC dL_law_909 (by decide) (fun q => ?_) (fun q => ?_)
                    · replace h := h.1 q
                      refine l_lvs [1, 2, 3, 4, 5, 6, 7, 8, 9, 10] rfl ?_
                      exact KJ103 ρ101 h
                    · replace h := h.2 q
                      refine l_aload_n hC dL_law_912 rfl 2 rfl ?_
                      refine l_iload hC dL_law_913 9 rfl ?_
                      refine l_iload_n hC dL_law_915 rfl 4 rfl ?_
                      obtain ⟨c110, h⟩ := h
                      refine l_irem hC c110 dL_law_916 ?_
                      refine l_iload hC dL_law_917 6 rfl ?_
                      obtain ⟨w114, h⟩ := h
                      refine l_fcall (n := 3) hC hX [.ref xa, .int (jr x63 x71), .int x73] [] (fun α sz => cm_L_fits l hlf dC dI dA _ α _ (jr x63 x71) x73 _ h sz) (fun α h0 => by rw [← h0]; rfl) gL_law_L_fits rfl ⟨rfl, rfl⟩ (by decide +kernel) ⟨Nat.le_of_ble_eq_true rfl, Nat.le_of_ble_eq_true rfl⟩ rfl rfl (Nat.le_of_ble_eq_true rfl) ⟨by show 64 + 16 * ρ101.2.2 + 480 ≤ 600086; omega, by show 8000 + 2000 * ρ101.2.2 + 60000 ≤ 7301442; omega⟩ dL_law_919 (fun x111 σ112 L113 hn => ?_)
                      clear h
                      revert hn
                      intro h
                      refine l_topm (fun ρ115 qρ115 => ?_)
                      replace h := h ρ115 qρ115
                      refine l_if_eq (tgt := 946) hC dL_law_922 (by decide) (fun q => ?_) (fun q => ?_)
                      · replace h := h.1 q
                        refine l_lvs [1, 2, 3, 4, 5, 6, 7, 8] rfl ?_
                        exact KJ93 ρ115 h
                      · replace h := h.2 q
                        refine l_lvs [1, 2, 3, 4, 5, 6, 7, 8, 9, 10] rfl ?_
                        exact KJ103 ρ115 h
            obtain ⟨J117, hJ117, h⟩ := h
            have KJ117 : ∀ (σ116 : Rh), J117 σ116 → GL p l e room_1 s m #[Value.ref b] below meth c 64 8000 Q (LW s dC dI dA A xa) 21 σ116 880 [(0, .ref b), (1, .ref xa), (2, .int x70), (3, .int x71), (4, .int x72), (5, .int x73), (6, .long y74), (9, .int x8), (11, .int x63), (14, .int x77)] [] := by
              clear h
              intro σ116 h
              replace h := hJ117 σ116 h
              refine l_iconst (v := 0) hC dL_law_880 (by decide) ?_
              exact KJ87 σ116 0 h
            refine l_if_eq (tgt := 880) hC dL_law_859 (by decide) (fun q => ?_) (fun q => ?_)
            · replace h := h.1 q
              refine l_lvs [0, 1, 2, 3, 4, 5, 6, 8, 9, 10] rfl ?_
              exact KJ117 σ83 h
            · replace h := h.2 q
              refine l_iload hC dL_law_862 8 rfl ?_
              refine l_iconst (v := 1) hC dL_law_864 (by decide) ?_
              obtain ⟨J119, hJ119, h⟩ := h
              have KJ119 : ∀ (σ118 : Rh), J119 σ118 → GL p l e room_1 s m #[Value.ref b] below meth c 64 8000 Q (LW s dC dI dA A xa) 21 σ118 876 [(0, .ref b), (1, .ref xa), (2, .int x70), (3, .int x71), (4, .int x72), (5, .int x73), (6, .long y74), (9, .int x8), (11, .int x63), (14, .int x77)] [] := by
                clear h
                intro σ118 h
                replace h := hJ119 σ118 h
                refine l_iconst (v := 1) hC dL_law_876 (by decide) ?_
                refine l_goto (tgt := 881) hC dL_law_877 (by decide) ?_
                exact KJ87 σ118 1 h
              refine l_icmp_lt (tgt := 876) hC dL_law_865 (by decide) (fun q => ?_) (fun q => ?_)
              · replace h := h.1 q
                refine l_lvs [0, 1, 2, 3, 4, 5, 6, 8, 9, 10] rfl ?_
                exact KJ119 σ83 h
              · replace h := h.2 q
                refine l_iload hC dL_law_868 11 rfl ?_
                refine l_sipush (v := 10000) hC dL_law_870 (by decide) ?_
                refine l_icmp_ne (tgt := 880) hC dL_law_873 (by decide) (fun q => ?_) (fun q => ?_)
                · replace h := h.1 q
                  refine l_lvs [0, 1, 2, 3, 4, 5, 6, 8, 9, 10] rfl ?_
                  exact KJ117 σ83 h
                · replace h := h.2 q
                  refine l_lvs [0, 1, 2, 3, 4, 5, 6, 8, 9, 10] rfl ?_
                  exact KJ119 σ83 h
          refine l_icmp_ge (tgt := 857) hC dL_law_826 (by decide) (fun q => ?_) (fun q => ?_)
          · replace h := h.1 q
            refine l_lvs [0, 1, 2, 3, 4, 5, 6, 7, 8, 9, 11, 12] rfl ?_
            exact KJ84 σ78 h
          · replace h := h.2 q
            refine l_iload hC dL_law_829 7 rfl ?_
            refine l_if_eq (tgt := 857) hC dL_law_831 (by decide) (fun q => ?_) (fun q => ?_)
            · replace h := h.1 q
              refine l_lvs [0, 1, 2, 3, 4, 5, 6, 7, 8, 9, 11, 12] rfl ?_
              exact KJ84 σ78 h
            · replace h := h.2 q
              refine l_iload hC dL_law_834 12 rfl ?_
              refine l_aload_n hC dL_law_836 rfl 1 rfl ?_
              refine l_iload hC dL_law_837 9 rfl ?_
              refine l_iload_n hC dL_law_839 rfl 2 rfl ?_
              obtain ⟨c120, h⟩ := h
              refine l_irem hC c120 dL_law_840 ?_
              refine l_iload hC dL_law_841 13 rfl ?_
              refine l_iload hC dL_law_843 10 rfl ?_
              obtain ⟨w124, h⟩ := h
              refine l_wcalli (n := 4) hC hX [.ref xa, .int (jr x63 x70), .int x80, .int x68] [.int x79] (fun α sz => cm_L_title l hlf dC dI dA _ α _ (jr x63 x70) x80 x68 _ h sz) (fun α h0 => by rw [← h0]; rfl) gL_law_L_title rfl ⟨rfl, rfl⟩ (by decide +kernel) ⟨Nat.le_of_ble_eq_true rfl, Nat.le_of_ble_eq_true rfl⟩ rfl rfl (Nat.le_of_ble_eq_true rfl) ⟨by show 64 + 16 * σ78.2.2 + 16 ≤ 600086; omega, by show 8000 + 2000 * σ78.2.2 + 2000 ≤ 7301442; omega⟩ dL_law_845 (fun x121 σ122 L123 hn => ?_)
              clear h
              revert hn
              intro h
              refine l_topm (fun ρ125 qρ125 => ?_)
              replace h := h ρ125 qρ125
              refine l_iadd hC dL_law_848 ?_
              refine l_topi (fun x126 qx126 => ?_)
              replace h := h x126 qx126
              refine l_istore (lv' := [(15, .int x126), (0, .ref b), (1, .ref xa), (2, .int x70), (3, .int x71), (4, .int x72), (5, .int x73), (6, .long y74), (8, .int x75), (9, .int x8), (11, .int x63), (13, .int x68), (14, .int x77), (16, .int x80)]) hC dL_law_849 (by decide) rfl ?_
              obtain ⟨x127, qx127⟩ : ∃ z : Int32, z = x80 + 1 := ⟨_, rfl⟩
              replace h := h x127 qx127
              refine l_iinc (v := x127) (lv' := [(16, .int x127), (15, .int x126), (0, .ref b), (1, .ref xa), (2, .int x70), (3, .int x71), (4, .int x72), (5, .int x73), (6, .long y74), (8, .int x75), (9, .int x8), (11, .int x63), (13, .int x68), (14, .int x77)]) hC dL_law_851 (k := 13) rfl (by rw [qx127]; rfl) (by decide) rfl ?_
              refine l_goto (tgt := 822) hC dL_law_854 (by decide) ?_
              refine l_lvs [2, 3, 4, 5, 6, 7, 8, 9, 10, 11, 12, 13, 1, 0] rfl ?_
              exact hR81 _ h
        obtain ⟨J129, hJ129, h⟩ := h
        have KJ129 : ∀ (σ128 : Rh), J129 σ128 → GL p l e room_1 s m #[Value.ref b] below meth c 64 8000 Q (LW s dC dI dA A xa) 21 σ128 148 [(0, .ref b), (1, .ref xa), (2, .int x2), (3, .int x3), (4, .int x4), (5, .int x5), (6, .long y6), (8, .int x7), (9, .int x8), (11, .int x63), (12, .int x65), (13, .int x68)] [] := by
          clear h
          intro σ128 h
          replace h := hJ129 σ128 h
          refine l_iload hC dL_law_148 10 rfl ?_
          refine l_iconst (v := 2) hC dL_law_150 (by decide) ?_
          refine l_icmp_ge (tgt := 210) hC dL_law_151 (by decide) (fun q => ?_) (fun q => ?_)
          · replace h := h.1 q
            refine l_iload hC dL_law_210 10 rfl ?_
            refine l_iconst (v := 2) hC dL_law_212 (by decide) ?_
            refine l_icmp_ne (tgt := 264) hC dL_law_213 (by decide) (fun q => ?_) (fun q => ?_)
            · replace h := h.1 q
              refine l_iload hC dL_law_264 10 rfl ?_
              refine l_iconst (v := 3) hC dL_law_266 (by decide) ?_
              obtain ⟨J131, hJ131, h⟩ := h
              have KJ131 : ∀ (σ130 : Rh), J131 σ130 → GL p l e room_1 s m #[Value.ref b] below meth c 64 8000 Q (LW s dC dI dA A xa) 21 σ130 307 [(0, .ref b), (1, .ref xa), (2, .int x2), (3, .int x3), (4, .int x4), (5, .int x5), (6, .long y6), (8, .int x7), (9, .int x8), (11, .int x63), (12, .int x65), (13, .int x68)] [] := by
                clear h
                intro σ130 h
                replace h := hJ131 σ130 h
                refine l_iload hC dL_law_307 10 rfl ?_
                refine l_bipush (v := 6) hC dL_law_309 (by decide) ?_
                refine l_icmp_ge (tgt := 372) hC dL_law_311 (by decide) (fun q => ?_) (fun q => ?_)
                · replace h := h.1 q
                  refine l_iload hC dL_law_372 10 rfl ?_
                  refine l_bipush (v := 9) hC dL_law_374 (by decide) ?_
                  obtain ⟨J133, hJ133, h⟩ := h
                  have KJ133 : ∀ (σ132 : Rh), J133 σ132 → GL p l e room_1 s m #[Value.ref b] below meth c 64 8000 Q (LW s dC dI dA A xa) 21 σ132 429 [(0, .ref b), (1, .ref xa), (2, .int x2), (3, .int x3), (4, .int x4), (5, .int x5), (6, .long y6), (8, .int x7), (9, .int x8), (11, .int x63), (12, .int x65), (13, .int x68)] [] := by
                    clear h
                    intro σ132 h
                    replace h := hJ133 σ132 h
                    refine l_iload hC dL_law_429 10 rfl ?_
                    refine l_bipush (v := 11) hC dL_law_431 (by decide) ?_
                    obtain ⟨J135, hJ135, h⟩ := h
                    have KJ135 : ∀ (σ134 : Rh), J135 σ134 → GL p l e room_1 s m #[Value.ref b] below meth c 64 8000 Q (LW s dC dI dA A xa) 21 σ134 509 [(0, .ref b), (1, .ref xa), (2, .int x2), (3, .int x3), (4, .int x4), (5, .int x5), (6, .long y6), (8, .int x7), (9, .int x8), (11, .int x63), (12, .int x65), (13, .int x68)] [] := by
                      clear h
                      intro σ134 h
                      replace h := hJ135 σ134 h
                      refine l_iload hC dL_law_509 10 rfl ?_
                      refine l_bipush (v := 11) hC dL_law_511 (by decide) ?_
                      obtain ⟨J137, hJ137, h⟩ := h
                      have KJ137 : ∀ (σ136 : Rh), J137 σ136 → GL p l e room_1 s m #[Value.ref b] below meth c 64 8000 Q (LW s dC dI dA A xa) 21 σ136 584 [(0, .ref b), (1, .ref xa), (2, .int x2), (3, .int x3), (4, .int x4), (5, .int x5), (6, .long y6), (8, .int x7), (9, .int x8), (11, .int x63), (12, .int x65), (13, .int x68)] [] := by
                        clear h
                        intro σ136 h
                        replace h := hJ137 σ136 h
                        refine l_iload hC dL_law_584 10 rfl ?_
                        refine l_bipush (v := 12) hC dL_law_586 (by decide) ?_
                        refine l_icmp_ne (tgt := 660) hC dL_law_588 (by decide) (fun q => ?_) (fun q => ?_)
                        · replace h := h.1 q
                          refine l_iload hC dL_law_660 10 rfl ?_
                          refine l_bipush (v := 13) hC dL_law_662 (by decide) ?_
                          refine l_icmp_ne (tgt := 770) hC dL_law_664 (by decide) (fun q => ?_) (fun q => ?_)
                          · replace h := h.1 q
                            refine l_iload hC dL_law_770 5 rfl ?_
                            refine l_iconst (v := 5) hC dL_law_772 (by decide) ?_
                            refine l_icmp_ge (tgt := 809) hC dL_law_773 (by decide) (fun q => ?_) (fun q => ?_)
                            · replace h := h.1 q
                              refine l_lvs [0, 1, 2, 3, 4, 5, 6, 7, 8, 9, 11] rfl ?_
                              exact KJ76 σ136 x2 x3 x4 x5 y6 x7 h
                            · replace h := h.2 q
                              refine l_iconst (v := 1) hC dL_law_776 (by decide) ?_
                              refine l_iload hC dL_law_777 9 rfl ?_
                              refine l_iconst (v := 2) hC dL_law_779 (by decide) ?_
                              refine l_irem hC (by decide) dL_law_780 ?_
                              refine l_iadd hC dL_law_781 ?_
                              refine l_topi (fun x138 qx138 => ?_)
                              replace h := h x138 qx138
                              refine l_istore (lv' := [(14, .int x138), (0, .ref b), (1, .ref xa), (2, .int x2), (3, .int x3), (4, .int x4), (5, .int x5), (6, .long y6), (8, .int x7), (9, .int x8), (11, .int x63), (12, .int x65), (13, .int x68)]) hC dL_law_782 (by decide) rfl ?_
                              refine l_iload hC dL_law_784 6 rfl ?_
                              refine l_iload hC dL_law_786 0 rfl ?_
                              refine l_iadd hC dL_law_788 ?_
                              refine l_topi (fun x139 qx139 => ?_)
                              replace h := h x139 qx139
                              refine l_istore (lv' := [(5, .int x139), (14, .int x138), (0, .ref b), (1, .ref xa), (2, .int x2), (3, .int x3), (4, .int x4), (6, .long y6), (8, .int x7), (9, .int x8), (11, .int x63), (12, .int x65), (13, .int x68)]) hC dL_law_789 (by decide) rfl ?_
                              refine l_aload_n hC dL_law_791 rfl 3 rfl ?_
                              refine l_iload hC dL_law_792 1 rfl ?_
                              obtain ⟨w143, h⟩ := h
                              refine l_wcalli (n := 2) hC hX [.ref xa, .int x138] [] (fun α sz => cm_L_pass l hlf dC dI dA _ α _ x138 _ h sz) (fun α h0 => by rw [← h0]; rfl) gL_law_L_pass rfl ⟨rfl, rfl⟩ (by decide +kernel) ⟨Nat.le_of_ble_eq_true rfl, Nat.le_of_ble_eq_true rfl⟩ rfl rfl (Nat.le_of_ble_eq_true rfl) ⟨by show 64 + 16 * σ136.2.2 + 16 ≤ 600086; omega, by show 8000 + 2000 * σ136.2.2 + 2000 ≤ 7301442; omega⟩ dL_law_794 (fun x140 σ141 L142 hn => ?_)
                              clear h
                              revert hn
                              intro h
                              refine l_topm (fun ρ144 qρ144 => ?_)
                              replace h := h ρ144 qρ144
                              refine l_iload hC dL_law_797 0 rfl ?_
                              obtain ⟨J147, hJ147, h⟩ := h
                              have KJ147 : ∀ (σ145 : Rh) (x146 : Int32), J147 σ145 x146 → GL p l e room_1 s m #[Value.ref b] below meth c 64 8000 Q (LW s dC dI dA A xa) 21 σ145 807 [(0, .ref b), (1, .ref xa), (2, .int x2), (3, .int x3), (4, .int x4), (5, .int x139), (6, .long y6), (9, .int x8), (11, .int x63), (13, .int x68)] [.int x146] := by
                                clear h
                                intro σ145 x146 h
                                replace h := hJ147 σ145 x146 h
                                refine l_istore (lv' := [(8, .int x146), (0, .ref b), (1, .ref xa), (2, .int x2), (3, .int x3), (4, .int x4), (5, .int x139), (6, .long y6), (9, .int x8), (11, .int x63), (13, .int x68)]) hC dL_law_807 (by decide) rfl ?_
                                refine l_lvs [1, 2, 3, 4, 5, 6, 7, 0, 8, 9, 10] rfl ?_
                                exact KJ76 σ145 x2 x3 x4 x139 y6 x146 h
                              refine l_icmp_ne (tgt := 806) hC dL_law_799 (by decide) (fun q => ?_) (fun q => ?_)
                              · replace h := h.1 q
                                refine l_iconst (v := 0) hC dL_law_806 (by decide) ?_
                                refine l_lvs [2, 3, 4, 5, 6, 0, 7, 9, 10, 12] rfl ?_
                                exact KJ147 ρ144 0 h
                              · replace h := h.2 q
                                refine l_iconst (v := 1) hC dL_law_802 (by decide) ?_
                                refine l_goto (tgt := 807) hC dL_law_803 (by decide) ?_
                                refine l_lvs [2, 3, 4, 5, 6, 0, 7, 9, 10, 12] rfl ?_
                                exact KJ147 ρ144 1 h
                          · replace h := h.2 q
                            refine l_lconst (v := 0) hC dL_law_667 (by decide) ?_
                            refine l_lstore (lv' := [(14, .long 0), (0, .ref b), (1, .ref xa), (2, .int x2), (3, .int x3), (4, .int x4), (5, .int x5), (6, .long y6), (8, .int x7), (9, .int x8), (11, .int x63), (12, .int x65), (13, .int x68)]) hC dL_law_668 (by decide) rfl ?_
                            refine l_lconst (v := 0) hC dL_law_670 (by decide) ?_
                            refine l_lstore (lv' := [(16, .long 0), (14, .long 0), (0, .ref b), (1, .ref xa), (2, .int x2), (3, .int x3), (4, .int x4), (5, .int x5), (6, .long y6), (8, .int x7), (9, .int x8), (11, .int x63), (12, .int x65), (13, .int x68)]) hC dL_law_671 (by decide) rfl ?_
                            refine l_iconst (v := 0) hC dL_law_673 (by decide) ?_
                            refine l_istore (lv' := [(18, .int 0), (16, .long 0), (14, .long 0), (0, .ref b), (1, .ref xa), (2, .int x2), (3, .int x3), (4, .int x4), (5, .int x5), (6, .long y6), (8, .int x7), (9, .int x8), (11, .int x63), (12, .int x65), (13, .int x68)]) hC dL_law_674 (by decide) rfl ?_
                            refine l_lvs [3, 4, 5, 6, 7, 8, 9, 11, 12, 14, 2, 1, 0] rfl ?_
                            obtain ⟨n, h⟩ := h
                            refine lpw_ind (S := Rh × Int64 × Int32) (fun s152 => GL p l e room_1 s m #[Value.ref b] below meth c 64 8000 Q (LW s dC dI dA A xa) 21 s152.1 676 [(0, .ref b), (1, .ref xa), (2, .int x2), (3, .int x3), (4, .int x4), (5, .int x5), (6, .long y6), (9, .int x8), (11, .int x63), (13, .int x68), (14, .long s152.2.1), (16, .long 0), (18, .int s152.2.2)] []) ?_ n (σ136, 0, 0) h
                            clear h
                            intro R151 hR151 s152 h
                            obtain ⟨σ148, y149, x150⟩ := s152
                            refine l_iload hC dL_law_676 12 rfl ?_
                            refine l_bipush (v := 10) hC dL_law_678 (by decide) ?_
                            refine l_icmp_ge (tgt := 700) hC dL_law_680 (by decide) (fun q => ?_) (fun q => ?_)
                            · replace h := h.1 q
                              refine l_aload_n hC dL_law_700 rfl 1 rfl ?_
                              obtain ⟨w155, h⟩ := h
                              refine l_pcall hC [] (fun α sz => cm_X6_payDay l dC dI dA _ α _ _ h sz) gL_law_X6_payDay rfl ⟨rfl, rfl⟩ (by decide +kernel) ⟨Nat.le_of_ble_eq_true rfl, Nat.le_of_ble_eq_true rfl⟩ (Nat.le_of_ble_eq_true rfl) ⟨by show 64 + 16 * σ148.2.2 + 0 ≤ 600086; omega, by show 8000 + 2000 * σ148.2.2 + 0 ≤ 7301442; omega⟩ dL_law_701 (fun y153 σ154 hn => ?_)
                              clear h
                              revert hn
                              intro h
                              refine l_topm (fun ρ156 qρ156 => ?_)
                              replace h := h ρ156 qρ156
                              refine l_lstore (lv' := [(18, .long y153), (0, .ref b), (1, .ref xa), (2, .int x2), (3, .int x3), (4, .int x4), (5, .int x5), (6, .long y6), (9, .int x8), (11, .int x63), (13, .int x68), (14, .long y149), (16, .long 0)]) hC dL_law_704 (by decide) rfl ?_
                              refine l_iconst (v := 0) hC dL_law_706 (by decide) ?_
                              refine l_istore (lv' := [(20, .int 0), (18, .long y153), (0, .ref b), (1, .ref xa), (2, .int x2), (3, .int x3), (4, .int x4), (5, .int x5), (6, .long y6), (9, .int x8), (11, .int x63), (13, .int x68), (14, .long y149), (16, .long 0)]) hC dL_law_707 (by decide) rfl ?_
                              refine l_lvs [2, 3, 4, 5, 6, 7, 8, 9, 10, 11, 12, 13, 1, 0] rfl ?_
                              obtain ⟨n, h⟩ := h
                              refine lpw_ind (S := Rh × Int64 × Int32) (fun s161 => GL p l e room_1 s m #[Value.ref b] below meth c 64 8000 Q (LW s dC dI dA A xa) 21 s161.1 709 [(0, .ref b), (1, .ref xa), (2, .int x2), (3, .int x3), (4, .int x4), (5, .int x5), (6, .long y6), (9, .int x8), (11, .int x63), (13, .int x68), (14, .long y149), (16, .long s161.2.1), (18, .long y153), (20, .int s161.2.2)] []) ?_ n (ρ156, 0, 0) h
                              clear h
                              intro R160 hR160 s161 h
                              obtain ⟨σ157, y158, x159⟩ := s161
                              refine l_iload hC dL_law_709 13 rfl ?_
                              refine l_bipush (v := 10) hC dL_law_711 (by decide) ?_
                              refine l_icmp_ge (tgt := 733) hC dL_law_713 (by decide) (fun q => ?_) (fun q => ?_)
                              · replace h := h.1 q
                                refine l_lload hC dL_law_733 12 rfl ?_
                                refine l_lconst (v := 0) hC dL_law_735 (by decide) ?_
                                obtain ⟨J164, hJ164, h⟩ := h
                                have KJ164 : ∀ (σ162 : Rh) (x163 : Int32), J164 σ162 x163 → GL p l e room_1 s m #[Value.ref b] below meth c 64 8000 Q (LW s dC dI dA A xa) 21 σ162 765 [(0, .ref b), (1, .ref xa), (2, .int x2), (3, .int x3), (4, .int x4), (5, .int x5), (6, .long y6), (9, .int x8), (11, .int x63), (13, .int x68)] [.int x163] := by
                                  clear h
                                  intro σ162 x163 h
                                  replace h := hJ164 σ162 x163 h
                                  refine l_istore (lv' := [(8, .int x163), (0, .ref b), (1, .ref xa), (2, .int x2), (3, .int x3), (4, .int x4), (5, .int x5), (6, .long y6), (9, .int x8), (11, .int x63), (13, .int x68)]) hC dL_law_765 (by decide) rfl ?_
                                  refine l_goto (tgt := 809) hC dL_law_767 (by decide) ?_
                                  refine l_lvs [1, 2, 3, 4, 5, 6, 7, 0, 8, 9, 10] rfl ?_
                                  exact KJ76 σ162 x2 x3 x4 x5 y6 x163 h
                                obtain ⟨J166, hJ166, h⟩ := h
                                have KJ166 : ∀ (σ165 : Rh), J166 σ165 → GL p l e room_1 s m #[Value.ref b] below meth c 64 8000 Q (LW s dC dI dA A xa) 21 σ165 764 [(0, .ref b), (1, .ref xa), (2, .int x2), (3, .int x3), (4, .int x4), (5, .int x5), (6, .long y6), (9, .int x8), (11, .int x63), (13, .int x68)] [] := by
                                  clear h
                                  intro σ165 h
                                  replace h := hJ166 σ165 h
                                  refine l_iconst (v := 0) hC dL_law_764 (by decide) ?_
                                  exact KJ164 σ165 0 h
                                refine l_lcmp_lt (tgt := 764) hC dL_law_736 dL_law_737 (by decide) (fun q => ?_) (fun q => ?_)
                                · replace h := h.1 q
                                  refine l_lvs [0, 1, 2, 3, 4, 5, 6, 7, 8, 9] rfl ?_
                                  exact KJ166 σ157 h
                                · replace h := h.2 q
                                  refine l_lload hC dL_law_740 11 rfl ?_
                                  refine l_lload hC dL_law_742 10 rfl ?_
                                  refine l_lload hC dL_law_744 12 rfl ?_
                                  refine l_ladd hC dL_law_746 ?_
                                  refine l_lcmp_ne (tgt := 764) hC dL_law_747 dL_law_748 (by decide) (fun q => ?_) (fun q => ?_)
                                  · replace h := h.1 q
                                    refine l_lvs [0, 1, 2, 3, 4, 5, 6, 7, 8, 9] rfl ?_
                                    exact KJ166 σ157 h
                                  · replace h := h.2 q
                                    refine l_aload_n hC dL_law_751 rfl 1 rfl ?_
                                    obtain ⟨w169, h⟩ := h
                                    refine l_pcall hC [] (fun α sz => cm_X6_payDay l dC dI dA _ α _ _ h sz) gL_law_X6_payDay rfl ⟨rfl, rfl⟩ (by decide +kernel) ⟨Nat.le_of_ble_eq_true rfl, Nat.le_of_ble_eq_true rfl⟩ (Nat.le_of_ble_eq_true rfl) ⟨by show 64 + 16 * σ157.2.2 + 0 ≤ 600086; omega, by show 8000 + 2000 * σ157.2.2 + 0 ≤ 7301442; omega⟩ dL_law_752 (fun y167 σ168 hn => ?_)
                                    clear h
                                    revert hn
                                    intro h
                                    refine l_topm (fun ρ170 qρ170 => ?_)
                                    replace h := h ρ170 qρ170
                                    refine l_lconst (v := 0) hC dL_law_755 (by decide) ?_
                                    refine l_lcmp_ne (tgt := 764) hC dL_law_756 dL_law_757 (by decide) (fun q => ?_) (fun q => ?_)
                                    · replace h := h.1 q
                                      refine l_lvs [0, 1, 2, 3, 4, 5, 6, 7, 8, 9] rfl ?_
                                      exact KJ166 ρ170 h
                                    · replace h := h.2 q
                                      refine l_iconst (v := 1) hC dL_law_760 (by decide) ?_
                                      refine l_goto (tgt := 765) hC dL_law_761 (by decide) ?_
                                      refine l_lvs [0, 1, 2, 3, 4, 5, 6, 7, 8, 9] rfl ?_
                                      exact KJ164 ρ170 1 h
                              · replace h := h.2 q
                                refine l_lload hC dL_law_716 11 rfl ?_
                                refine l_aload_n hC dL_law_718 rfl 1 rfl ?_
                                refine l_iload hC dL_law_719 13 rfl ?_
                                obtain ⟨w174, h⟩ := h
                                refine l_wcalll (n := 2) hC hX [.ref xa, .int x159] [.long y158] (fun α sz => cm_L_paid l hlf dC dI dA _ α _ x159 _ h sz) (fun α h0 => by rw [← h0]; rfl) gL_law_L_paid rfl ⟨rfl, rfl⟩ (by decide +kernel) ⟨Nat.le_of_ble_eq_true rfl, Nat.le_of_ble_eq_true rfl⟩ rfl rfl (Nat.le_of_ble_eq_true rfl) ⟨by show 64 + 16 * σ157.2.2 + 16 ≤ 600086; omega, by show 8000 + 2000 * σ157.2.2 + 2000 ≤ 7301442; omega⟩ dL_law_721 (fun y171 σ172 L173 hn => ?_)
                                clear h
                                revert hn
                                intro h
                                refine l_topm (fun ρ175 qρ175 => ?_)
                                replace h := h ρ175 qρ175
                                refine l_ladd hC dL_law_724 ?_
                                refine l_topl (fun y176 qy176 => ?_)
                                replace h := h y176 qy176
                                refine l_lstore (lv' := [(16, .long y176), (0, .ref b), (1, .ref xa), (2, .int x2), (3, .int x3), (4, .int x4), (5, .int x5), (6, .long y6), (9, .int x8), (11, .int x63), (13, .int x68), (14, .long y149), (18, .long y153), (20, .int x159)]) hC dL_law_725 (by decide) rfl ?_
                                obtain ⟨x177, qx177⟩ : ∃ z : Int32, z = x159 + 1 := ⟨_, rfl⟩
                                replace h := h x177 qx177
                                refine l_iinc (v := x177) (lv' := [(20, .int x177), (16, .long y176), (0, .ref b), (1, .ref xa), (2, .int x2), (3, .int x3), (4, .int x4), (5, .int x5), (6, .long y6), (9, .int x8), (11, .int x63), (13, .int x68), (14, .long y149), (18, .long y153)]) hC dL_law_727 (k := 13) rfl (by rw [qx177]; rfl) (by decide) rfl ?_
                                refine l_goto (tgt := 709) hC dL_law_730 (by decide) ?_
                                refine l_lvs [2, 3, 4, 5, 6, 7, 8, 9, 10, 11, 12, 1, 13, 0] rfl ?_
                                exact hR160 _ h
                            · replace h := h.2 q
                              refine l_lload hC dL_law_683 10 rfl ?_
                              refine l_aload_n hC dL_law_685 rfl 1 rfl ?_
                              refine l_iload hC dL_law_686 12 rfl ?_
                              obtain ⟨w181, h⟩ := h
                              refine l_wcalll (n := 2) hC hX [.ref xa, .int x150] [.long y149] (fun α sz => cm_L_paid l hlf dC dI dA _ α _ x150 _ h sz) (fun α h0 => by rw [← h0]; rfl) gL_law_L_paid rfl ⟨rfl, rfl⟩ (by decide +kernel) ⟨Nat.le_of_ble_eq_true rfl, Nat.le_of_ble_eq_true rfl⟩ rfl rfl (Nat.le_of_ble_eq_true rfl) ⟨by show 64 + 16 * σ148.2.2 + 16 ≤ 600086; omega, by show 8000 + 2000 * σ148.2.2 + 2000 ≤ 7301442; omega⟩ dL_law_688 (fun y178 σ179 L180 hn => ?_)
                              clear h
                              revert hn
                              intro h
                              refine l_topm (fun ρ182 qρ182 => ?_)
                              replace h := h ρ182 qρ182
                              refine l_ladd hC dL_law_691 ?_
                              refine l_topl (fun y183 qy183 => ?_)
                              replace h := h y183 qy183
                              refine l_lstore (lv' := [(14, .long y183), (0, .ref b), (1, .ref xa), (2, .int x2), (3, .int x3), (4, .int x4), (5, .int x5), (6, .long y6), (9, .int x8), (11, .int x63), (13, .int x68), (16, .long 0), (18, .int x150)]) hC dL_law_692 (by decide) rfl ?_
                              obtain ⟨x184, qx184⟩ : ∃ z : Int32, z = x150 + 1 := ⟨_, rfl⟩
                              replace h := h x184 qx184
                              refine l_iinc (v := x184) (lv' := [(18, .int x184), (14, .long y183), (0, .ref b), (1, .ref xa), (2, .int x2), (3, .int x3), (4, .int x4), (5, .int x5), (6, .long y6), (9, .int x8), (11, .int x63), (13, .int x68), (16, .long 0)]) hC dL_law_694 (k := 12) rfl (by rw [qx184]; rfl) (by decide) rfl ?_
                              refine l_goto (tgt := 676) hC dL_law_697 (by decide) ?_
                              refine l_lvs [2, 3, 4, 5, 6, 7, 8, 9, 10, 11, 1, 12, 0] rfl ?_
                              exact hR151 _ h
                        · replace h := h.2 q
                          refine l_aload_n hC dL_law_591 rfl 1 rfl ?_
                          refine l_iload hC dL_law_592 9 rfl ?_
                          refine l_bipush (v := 51) hC dL_law_594 (by decide) ?_
                          refine l_irem hC (by decide) dL_law_596 ?_
                          refine l_iload hC dL_law_597 11 rfl ?_
                          obtain ⟨w188, h⟩ := h
                          refine l_wcalli (n := 3) hC hX [.ref xa, .int (jr x63 51), .int x68] [] (fun α sz => cm_L_tax l hlf dC dI dA _ α _ (jr x63 51) x68 _ h sz) (fun α h0 => by rw [← h0]; rfl) gL_law_L_tax rfl ⟨rfl, rfl⟩ (by decide +kernel) ⟨Nat.le_of_ble_eq_true rfl, Nat.le_of_ble_eq_true rfl⟩ rfl rfl (Nat.le_of_ble_eq_true rfl) ⟨by show 64 + 16 * σ136.2.2 + 16 ≤ 600086; omega, by show 8000 + 2000 * σ136.2.2 + 2000 ≤ 7301442; omega⟩ dL_law_599 (fun x185 σ186 L187 hn => ?_)
                          clear h
                          revert hn
                          intro h
                          refine l_topm (fun ρ189 qρ189 => ?_)
                          replace h := h ρ189 qρ189
                          obtain ⟨J192, hJ192, h⟩ := h
                          have KJ192 : ∀ (σ190 : Rh) (x191 : Int32), J192 σ190 x191 → GL p l e room_1 s m #[Value.ref b] below meth c 64 8000 Q (LW s dC dI dA A xa) 21 σ190 655 [(0, .ref b), (1, .ref xa), (2, .int x2), (3, .int x3), (4, .int x4), (5, .int x5), (6, .long y6), (9, .int x8), (11, .int x63), (13, .int x68)] [.int x191] := by
                            clear h
                            intro σ190 x191 h
                            replace h := hJ192 σ190 x191 h
                            refine l_istore (lv' := [(8, .int x191), (0, .ref b), (1, .ref xa), (2, .int x2), (3, .int x3), (4, .int x4), (5, .int x5), (6, .long y6), (9, .int x8), (11, .int x63), (13, .int x68)]) hC dL_law_655 (by decide) rfl ?_
                            refine l_goto (tgt := 809) hC dL_law_657 (by decide) ?_
                            refine l_lvs [1, 2, 3, 4, 5, 6, 7, 0, 8, 9, 10] rfl ?_
                            exact KJ76 σ190 x2 x3 x4 x5 y6 x191 h
                          obtain ⟨J194, hJ194, h⟩ := h
                          have KJ194 : ∀ (σ193 : Rh), J194 σ193 → GL p l e room_1 s m #[Value.ref b] below meth c 64 8000 Q (LW s dC dI dA A xa) 21 σ193 654 [(0, .ref b), (1, .ref xa), (2, .int x2), (3, .int x3), (4, .int x4), (5, .int x5), (6, .long y6), (9, .int x8), (11, .int x63), (13, .int x68)] [] := by
                            clear h
                            intro σ193 h
                            replace h := hJ194 σ193 h
                            refine l_iconst (v := 0) hC dL_law_654 (by decide) ?_
                            exact KJ192 σ193 0 h
                          refine l_if_lt (tgt := 654) hC dL_law_602 (by decide) (fun q => ?_) (fun q => ?_)
                          · replace h := h.1 q
                            refine l_lvs [0, 1, 2, 3, 4, 5, 6, 8, 9, 11] rfl ?_
                            exact KJ194 ρ189 h
                          · replace h := h.2 q
                            refine l_aload_n hC dL_law_605 rfl 1 rfl ?_
                            refine l_iconst (v := 1) hC dL_law_606 (by decide) ?_
                            refine l_iload hC dL_law_607 9 rfl ?_
                            refine l_bipush (v := 51) hC dL_law_609 (by decide) ?_
                            refine l_idiv hC (by decide) dL_law_611 ?_
                            refine l_sipush (v := 5000) hC dL_law_612 (by decide) ?_
                            refine l_irem hC (by decide) dL_law_615 ?_
                            refine l_iadd hC dL_law_616 ?_
                            obtain ⟨w198, h⟩ := h
                            refine l_wcalli (n := 2) hC hX [.ref xa, .int (1 + (jr (x63 / 51) 5000))] [] (fun α sz => cm_L_least l hlf dC dI dA _ α _ (1 + (jr (x63 / 51) 5000)) _ h sz) (fun α h0 => by rw [← h0]; rfl) gL_law_L_least rfl ⟨rfl, rfl⟩ (by decide +kernel) ⟨Nat.le_of_ble_eq_true rfl, Nat.le_of_ble_eq_true rfl⟩ rfl rfl (Nat.le_of_ble_eq_true rfl) ⟨by show 64 + 16 * ρ189.2.2 + 16 ≤ 600086; omega, by show 8000 + 2000 * ρ189.2.2 + 2000 ≤ 7301442; omega⟩ dL_law_617 (fun x195 σ196 L197 hn => ?_)
                            clear h
                            revert hn
                            intro h
                            refine l_topm (fun ρ199 qρ199 => ?_)
                            replace h := h ρ199 qρ199
                            refine l_iconst (v := 1) hC dL_law_620 (by decide) ?_
                            refine l_icmp_lt (tgt := 654) hC dL_law_621 (by decide) (fun q => ?_) (fun q => ?_)
                            · replace h := h.1 q
                              refine l_lvs [0, 1, 2, 3, 4, 5, 6, 8, 9, 11] rfl ?_
                              exact KJ194 ρ199 h
                            · replace h := h.2 q
                              refine l_aload_n hC dL_law_624 rfl 1 rfl ?_
                              refine l_iload hC dL_law_625 9 rfl ?_
                              refine l_iconst (v := 3) hC dL_law_627 (by decide) ?_
                              refine l_idiv hC (by decide) dL_law_628 ?_
                              refine l_bipush (v := 10) hC dL_law_629 (by decide) ?_
                              refine l_irem hC (by decide) dL_law_631 ?_
                              refine l_iload hC dL_law_632 9 rfl ?_
                              refine l_iconst (v := 2) hC dL_law_634 (by decide) ?_
                              refine l_irem hC (by decide) dL_law_635 ?_
                              obtain ⟨J202, hJ202, h⟩ := h
                              have KJ202 : ∀ (σ200 : Rh) (x201 : Int32), J202 σ200 x201 → GL p l e room_1 s m #[Value.ref b] below meth c 64 8000 Q (LW s dC dI dA A xa) 21 σ200 644 [(0, .ref b), (1, .ref xa), (2, .int x2), (3, .int x3), (4, .int x4), (5, .int x5), (6, .long y6), (9, .int x8), (11, .int x63), (13, .int x68)] [.int x201, .int (jr (x63 / 3) 10), .ref xa] := by
                                clear h
                                intro σ200 x201 h
                                replace h := hJ202 σ200 x201 h
                                obtain ⟨w206, h⟩ := h
                                refine l_wcalli (n := 3) hC hX [.ref xa, .int (jr (x63 / 3) 10), .int x201] [] (fun α sz => cm_L_suspend l hlf dC dI dA _ α _ (jr (x63 / 3) 10) x201 _ h sz) (fun α h0 => by rw [← h0]; rfl) gL_law_L_suspend rfl ⟨rfl, rfl⟩ (by decide +kernel) ⟨Nat.le_of_ble_eq_true rfl, Nat.le_of_ble_eq_true rfl⟩ rfl rfl (Nat.le_of_ble_eq_true rfl) ⟨by show 64 + 16 * σ200.2.2 + 16 ≤ 600086; omega, by show 8000 + 2000 * σ200.2.2 + 2000 ≤ 7301442; omega⟩ dL_law_644 (fun x203 σ204 L205 hn => ?_)
                                clear h
                                revert hn
                                intro h
                                refine l_topm (fun ρ207 qρ207 => ?_)
                                replace h := h ρ207 qρ207
                                refine l_if_lt (tgt := 654) hC dL_law_647 (by decide) (fun q => ?_) (fun q => ?_)
                                · replace h := h.1 q
                                  exact KJ194 ρ207 h
                                · replace h := h.2 q
                                  refine l_iconst (v := 1) hC dL_law_650 (by decide) ?_
                                  refine l_goto (tgt := 655) hC dL_law_651 (by decide) ?_
                                  exact KJ192 ρ207 1 h
                              refine l_if_ne (tgt := 643) hC dL_law_636 (by decide) (fun q => ?_) (fun q => ?_)
                              · replace h := h.1 q
                                refine l_iconst (v := 0) hC dL_law_643 (by decide) ?_
                                refine l_lvs [0, 1, 2, 3, 4, 5, 6, 8, 9, 11] rfl ?_
                                exact KJ202 ρ199 0 h
                              · replace h := h.2 q
                                refine l_iconst (v := 1) hC dL_law_639 (by decide) ?_
                                refine l_goto (tgt := 644) hC dL_law_640 (by decide) ?_
                                refine l_lvs [0, 1, 2, 3, 4, 5, 6, 8, 9, 11] rfl ?_
                                exact KJ202 ρ199 1 h
                      refine l_icmp_ne (tgt := 584) hC dL_law_513 (by decide) (fun q => ?_) (fun q => ?_)
                      · replace h := h.1 q
                        exact KJ137 σ134 h
                      · replace h := h.2 q
                        refine l_iload_n hC dL_law_516 rfl 3 rfl ?_
                        refine l_if_le (tgt := 584) hC dL_law_517 (by decide) (fun q => ?_) (fun q => ?_)
                        · replace h := h.1 q
                          exact KJ137 σ134 h
                        · replace h := h.2 q
                          refine l_aload_n hC dL_law_520 rfl 1 rfl ?_
                          refine l_iload hC dL_law_521 9 rfl ?_
                          refine l_iload_n hC dL_law_523 rfl 3 rfl ?_
                          obtain ⟨c208, h⟩ := h
                          refine l_irem hC c208 dL_law_524 ?_
                          refine l_iload hC dL_law_525 9 rfl ?_
                          refine l_iconst (v := 3) hC dL_law_527 (by decide) ?_
                          refine l_idiv hC (by decide) dL_law_528 ?_
                          refine l_bipush (v := 10) hC dL_law_529 (by decide) ?_
                          refine l_irem hC (by decide) dL_law_531 ?_
                          refine l_iload hC dL_law_532 9 rfl ?_
                          refine l_bipush (v := 30) hC dL_law_534 (by decide) ?_
                          refine l_idiv hC (by decide) dL_law_536 ?_
                          refine l_iconst (v := 3) hC dL_law_537 (by decide) ?_
                          refine l_irem hC (by decide) dL_law_538 ?_
                          obtain ⟨J211, hJ211, h⟩ := h
                          have KJ211 : ∀ (σ209 : Rh) (x210 : Int32), J211 σ209 x210 → GL p l e room_1 s m #[Value.ref b] below meth c 64 8000 Q (LW s dC dI dA A xa) 21 σ209 547 [(0, .ref b), (1, .ref xa), (2, .int x2), (3, .int x3), (4, .int x4), (5, .int x5), (6, .long y6), (9, .int x8), (11, .int x63), (13, .int x68)] [.int x210, .int (jr (x63 / 3) 10), .int (jr x63 x3), .ref xa] := by
                            clear h
                            intro σ209 x210 h
                            replace h := hJ211 σ209 x210 h
                            obtain ⟨w215, h⟩ := h
                            refine l_wcalli (n := 4) hC hX [.ref xa, .int (jr x63 x3), .int (jr (x63 / 3) 10), .int x210] [] (fun α sz => cm_L_consent l hlf dC dI dA _ α _ (jr x63 x3) (jr (x63 / 3) 10) x210 _ h sz) (fun α h0 => by rw [← h0]; rfl) gL_law_L_consent rfl ⟨rfl, rfl⟩ (by decide +kernel) ⟨Nat.le_of_ble_eq_true rfl, Nat.le_of_ble_eq_true rfl⟩ rfl rfl (Nat.le_of_ble_eq_true rfl) ⟨by show 64 + 16 * σ209.2.2 + 16 ≤ 600086; omega, by show 8000 + 2000 * σ209.2.2 + 2000 ≤ 7301442; omega⟩ dL_law_547 (fun x212 σ213 L214 hn => ?_)
                            clear h
                            revert hn
                            intro h
                            refine l_topm (fun ρ216 qρ216 => ?_)
                            replace h := h ρ216 qρ216
                            obtain ⟨J219, hJ219, h⟩ := h
                            have KJ219 : ∀ (σ217 : Rh) (x218 : Int32), J219 σ217 x218 → GL p l e room_1 s m #[Value.ref b] below meth c 64 8000 Q (LW s dC dI dA A xa) 21 σ217 579 [(0, .ref b), (1, .ref xa), (2, .int x2), (3, .int x3), (4, .int x4), (5, .int x5), (6, .long y6), (9, .int x8), (11, .int x63), (13, .int x68)] [.int x218] := by
                              clear h
                              intro σ217 x218 h
                              replace h := hJ219 σ217 x218 h
                              refine l_istore (lv' := [(8, .int x218), (0, .ref b), (1, .ref xa), (2, .int x2), (3, .int x3), (4, .int x4), (5, .int x5), (6, .long y6), (9, .int x8), (11, .int x63), (13, .int x68)]) hC dL_law_579 (by decide) rfl ?_
                              refine l_goto (tgt := 809) hC dL_law_581 (by decide) ?_
                              refine l_lvs [1, 2, 3, 4, 5, 6, 7, 0, 8, 9, 10] rfl ?_
                              exact KJ76 σ217 x2 x3 x4 x5 y6 x218 h
                            obtain ⟨J221, hJ221, h⟩ := h
                            have KJ221 : ∀ (σ220 : Rh), J221 σ220 → GL p l e room_1 s m #[Value.ref b] below meth c 64 8000 Q (LW s dC dI dA A xa) 21 σ220 578 [(0, .ref b), (1, .ref xa), (2, .int x2), (3, .int x3), (4, .int x4), (5, .int x5), (6, .long y6), (9, .int x8), (11, .int x63), (13, .int x68)] [] := by
                              clear h
                              intro σ220 h
                              replace h := hJ221 σ220 h
                              refine l_iconst (v := 0) hC dL_law_578 (by decide) ?_
                              exact KJ219 σ220 0 h
                            refine l_if_lt (tgt := 578) hC dL_law_550 (by decide) (fun q => ?_) (fun q => ?_)
                            · replace h := h.1 q
                              exact KJ221 ρ216 h
                            · replace h := h.2 q
                              refine l_aload_n hC dL_law_553 rfl 1 rfl ?_
                              refine l_bipush (v := 100) hC dL_law_554 (by decide) ?_
                              refine l_iload hC dL_law_556 8 rfl ?_
                              refine l_bipush (v := 90) hC dL_law_558 (by decide) ?_
                              refine l_idiv hC (by decide) dL_law_560 ?_
                              refine l_sipush (v := 401) hC dL_law_561 (by decide) ?_
                              refine l_irem hC (by decide) dL_law_564 ?_
                              refine l_iadd hC dL_law_565 ?_
                              obtain ⟨w225, h⟩ := h
                              refine l_wcalli (n := 2) hC hX [.ref xa, .int (100 + (jr (x63 / 90) 401))] [] (fun α sz => cm_L_penalty l hlf dC dI dA _ α _ (100 + (jr (x63 / 90) 401)) _ h sz) (fun α h0 => by rw [← h0]; rfl) gL_law_L_penalty rfl ⟨rfl, rfl⟩ (by decide +kernel) ⟨Nat.le_of_ble_eq_true rfl, Nat.le_of_ble_eq_true rfl⟩ rfl rfl (Nat.le_of_ble_eq_true rfl) ⟨by show 64 + 16 * ρ216.2.2 + 16 ≤ 600086; omega, by show 8000 + 2000 * ρ216.2.2 + 2000 ≤ 7301442; omega⟩ dL_law_566 (fun x222 σ223 L224 hn => ?_)
                              clear h
                              revert hn
                              intro h
                              refine l_topm (fun ρ226 qρ226 => ?_)
                              replace h := h ρ226 qρ226
                              refine l_bipush (v := 100) hC dL_law_569 (by decide) ?_
                              refine l_icmp_lt (tgt := 578) hC dL_law_571 (by decide) (fun q => ?_) (fun q => ?_)
                              · replace h := h.1 q
                                exact KJ221 ρ226 h
                              · replace h := h.2 q
                                refine l_iconst (v := 1) hC dL_law_574 (by decide) ?_
                                refine l_goto (tgt := 579) hC dL_law_575 (by decide) ?_
                                exact KJ219 ρ226 1 h
                          refine l_if_ne (tgt := 546) hC dL_law_539 (by decide) (fun q => ?_) (fun q => ?_)
                          · replace h := h.1 q
                            refine l_iconst (v := 0) hC dL_law_546 (by decide) ?_
                            refine l_lvs [0, 1, 2, 3, 4, 5, 6, 8, 9, 11] rfl ?_
                            exact KJ211 σ134 0 h
                          · replace h := h.2 q
                            refine l_iconst (v := 1) hC dL_law_542 (by decide) ?_
                            refine l_goto (tgt := 547) hC dL_law_543 (by decide) ?_
                            refine l_lvs [0, 1, 2, 3, 4, 5, 6, 8, 9, 11] rfl ?_
                            exact KJ211 σ134 1 h
                    refine l_icmp_ge (tgt := 509) hC dL_law_433 (by decide) (fun q => ?_) (fun q => ?_)
                    · replace h := h.1 q
                      exact KJ135 σ132 h
                    · replace h := h.2 q
                      refine l_iload hC dL_law_436 4 rfl ?_
                      refine l_if_le (tgt := 509) hC dL_law_438 (by decide) (fun q => ?_) (fun q => ?_)
                      · replace h := h.1 q
                        exact KJ135 σ132 h
                      · replace h := h.2 q
                        refine l_iconst (v := 1) hC dL_law_441 (by decide) ?_
                        refine l_iload hC dL_law_442 9 rfl ?_
                        refine l_bipush (v := 6) hC dL_law_444 (by decide) ?_
                        refine l_idiv hC (by decide) dL_law_446 ?_
                        refine l_ldc (v := 200000) hC kL_law_1 dL_law_447 ?_
                        refine l_irem hC (by decide) dL_law_449 ?_
                        refine l_iadd hC dL_law_450 ?_
                        refine l_topi (fun x227 qx227 => ?_)
                        replace h := h x227 qx227
                        refine l_istore (lv' := [(14, .int x227), (0, .ref b), (1, .ref xa), (2, .int x2), (3, .int x3), (4, .int x4), (5, .int x5), (6, .long y6), (8, .int x7), (9, .int x8), (11, .int x63), (12, .int x65), (13, .int x68)]) hC dL_law_451 (by decide) rfl ?_
                        refine l_aload_n hC dL_law_453 rfl 2 rfl ?_
                        refine l_iload hC dL_law_454 10 rfl ?_
                        refine l_iload hC dL_law_456 5 rfl ?_
                        obtain ⟨c228, h⟩ := h
                        refine l_irem hC c228 dL_law_458 ?_
                        refine l_iload hC dL_law_459 12 rfl ?_
                        refine l_iload hC dL_law_461 0 rfl ?_
                        obtain ⟨w232, h⟩ := h
                        refine l_wcalli (n := 4) hC hX [.ref xa, .int (jr x63 x4), .int x68, .int x227] [] (fun α sz => cm_L_cost l hlf dC dI dA _ α _ (jr x63 x4) x68 x227 _ h sz) (fun α h0 => by rw [← h0]; rfl) gL_law_L_cost rfl ⟨rfl, rfl⟩ (by decide +kernel) ⟨Nat.le_of_ble_eq_true rfl, Nat.le_of_ble_eq_true rfl⟩ rfl rfl (Nat.le_of_ble_eq_true rfl) ⟨by show 64 + 16 * σ132.2.2 + 16 ≤ 600086; omega, by show 8000 + 2000 * σ132.2.2 + 2000 ≤ 7301442; omega⟩ dL_law_463 (fun x229 σ230 L231 hn => ?_)
                        clear h
                        revert hn
                        intro h
                        refine l_topm (fun ρ233 qρ233 => ?_)
                        replace h := h ρ233 qρ233
                        refine l_istore (lv' := [(15, .int x229), (14, .int x227), (0, .ref b), (1, .ref xa), (2, .int x2), (3, .int x3), (4, .int x4), (5, .int x5), (6, .long y6), (8, .int x7), (9, .int x8), (11, .int x63), (12, .int x65), (13, .int x68)]) hC dL_law_466 (by decide) rfl ?_
                        refine l_iload hC dL_law_468 0 rfl ?_
                        refine l_bipush (v := (-103)) hC dL_law_470 (by decide) ?_
                        obtain ⟨J236, hJ236, h⟩ := h
                        have KJ236 : ∀ (σ234 : Rh) (x235 : Int32), J236 σ234 x235 → GL p l e room_1 s m #[Value.ref b] below meth c 64 8000 Q (LW s dC dI dA A xa) 21 σ234 487 [(0, .ref b), (1, .ref xa), (2, .int x2), (3, .int x3), (4, .int x4), (5, .int x5), (6, .long y6), (9, .int x8), (11, .int x63), (13, .int x68), (14, .int x227), (15, .int x229)] [.int x235] := by
                          clear h
                          intro σ234 x235 h
                          replace h := hJ236 σ234 x235 h
                          refine l_istore (lv' := [(8, .int x235), (0, .ref b), (1, .ref xa), (2, .int x2), (3, .int x3), (4, .int x4), (5, .int x5), (6, .long y6), (9, .int x8), (11, .int x63), (13, .int x68), (14, .int x227), (15, .int x229)]) hC dL_law_487 (by decide) rfl ?_
                          refine l_lload hC dL_law_489 7 rfl ?_
                          refine l_iload hC dL_law_491 12 rfl ?_
                          obtain ⟨J239, hJ239, h⟩ := h
                          have KJ239 : ∀ (σ237 : Rh) (y238 : Int64), J239 σ237 y238 → GL p l e room_1 s m #[Value.ref b] below meth c 64 8000 Q (LW s dC dI dA A xa) 21 σ237 503 [(0, .ref b), (1, .ref xa), (2, .int x2), (3, .int x3), (4, .int x4), (5, .int x5), (8, .int x235), (9, .int x8), (11, .int x63), (13, .int x68)] [.long y238, .long y6] := by
                            clear h
                            intro σ237 y238 h
                            replace h := hJ239 σ237 y238 h
                            refine l_ladd hC dL_law_503 ?_
                            refine l_topl (fun y240 qy240 => ?_)
                            replace h := h y240 qy240
                            refine l_lstore (lv' := [(6, .long y240), (0, .ref b), (1, .ref xa), (2, .int x2), (3, .int x3), (4, .int x4), (5, .int x5), (8, .int x235), (9, .int x8), (11, .int x63), (13, .int x68)]) hC dL_law_504 (by decide) rfl ?_
                            refine l_goto (tgt := 809) hC dL_law_506 (by decide) ?_
                            refine l_lvs [1, 2, 3, 4, 5, 6, 0, 7, 8, 9, 10] rfl ?_
                            exact KJ76 σ237 x2 x3 x4 x5 y240 x235 h
                          refine l_if_le (tgt := 502) hC dL_law_493 (by decide) (fun q => ?_) (fun q => ?_)
                          · replace h := h.1 q
                            refine l_lconst (v := 0) hC dL_law_502 (by decide) ?_
                            refine l_lvs [1, 2, 3, 4, 5, 6, 0, 8, 9, 10] rfl ?_
                            exact KJ239 σ234 0 h
                          · replace h := h.2 q
                            refine l_iload hC dL_law_496 11 rfl ?_
                            refine l_i2l hC dL_law_498 ?_
                            refine l_goto (tgt := 503) hC dL_law_499 (by decide) ?_
                            refine l_lvs [1, 2, 3, 4, 5, 6, 0, 8, 9, 10] rfl ?_
                            exact KJ239 σ234 x227.toInt64 h
                        obtain ⟨J242, hJ242, h⟩ := h
                        have KJ242 : ∀ (σ241 : Rh), J242 σ241 → GL p l e room_1 s m #[Value.ref b] below meth c 64 8000 Q (LW s dC dI dA A xa) 21 σ241 482 [(0, .ref b), (1, .ref xa), (2, .int x2), (3, .int x3), (4, .int x4), (5, .int x5), (6, .long y6), (9, .int x8), (11, .int x63), (13, .int x68), (14, .int x227), (15, .int x229)] [] := by
                          clear h
                          intro σ241 h
                          replace h := hJ242 σ241 h
                          refine l_iconst (v := 1) hC dL_law_482 (by decide) ?_
                          refine l_goto (tgt := 487) hC dL_law_483 (by decide) ?_
                          exact KJ236 σ241 1 h
                        refine l_icmp_eq (tgt := 482) hC dL_law_472 (by decide) (fun q => ?_) (fun q => ?_)
                        · replace h := h.1 q
                          refine l_lvs [2, 3, 4, 5, 6, 7, 8, 10, 11, 13, 1, 0] rfl ?_
                          exact KJ242 ρ233 h
                        · replace h := h.2 q
                          refine l_iload hC dL_law_475 0 rfl ?_
                          refine l_iload hC dL_law_477 1 rfl ?_
                          refine l_icmp_lt (tgt := 486) hC dL_law_479 (by decide) (fun q => ?_) (fun q => ?_)
                          · replace h := h.1 q
                            refine l_iconst (v := 0) hC dL_law_486 (by decide) ?_
                            refine l_lvs [2, 3, 4, 5, 6, 7, 8, 10, 11, 13, 1, 0] rfl ?_
                            exact KJ236 ρ233 0 h
                          · replace h := h.2 q
                            refine l_lvs [2, 3, 4, 5, 6, 7, 8, 10, 11, 13, 1, 0] rfl ?_
                            exact KJ242 ρ233 h
                  refine l_icmp_ge (tgt := 429) hC dL_law_376 (by decide) (fun q => ?_) (fun q => ?_)
                  · replace h := h.1 q
                    exact KJ133 σ130 h
                  · replace h := h.2 q
                    refine l_iload hC dL_law_379 4 rfl ?_
                    refine l_if_le (tgt := 429) hC dL_law_381 (by decide) (fun q => ?_) (fun q => ?_)
                    · replace h := h.1 q
                      exact KJ133 σ130 h
                    · replace h := h.2 q
                      refine l_aload_n hC dL_law_384 rfl 1 rfl ?_
                      refine l_iload hC dL_law_385 9 rfl ?_
                      refine l_iload hC dL_law_387 4 rfl ?_
                      obtain ⟨c243, h⟩ := h
                      refine l_irem hC c243 dL_law_389 ?_
                      refine l_iload hC dL_law_390 11 rfl ?_
                      refine l_iload hC dL_law_392 9 rfl ?_
                      refine l_bipush (v := 6) hC dL_law_394 (by decide) ?_
                      refine l_idiv hC (by decide) dL_law_396 ?_
                      refine l_sipush (v := 1001) hC dL_law_397 (by decide) ?_
                      refine l_irem hC (by decide) dL_law_400 ?_
                      refine l_iload hC dL_law_401 9 rfl ?_
                      refine l_sipush (v := 6006) hC dL_law_403 (by decide) ?_
                      refine l_idiv hC (by decide) dL_law_406 ?_
                      refine l_sipush (v := 10001) hC dL_law_407 (by decide) ?_
                      refine l_irem hC (by decide) dL_law_410 ?_
                      obtain ⟨w247, h⟩ := h
                      refine l_wcalli (n := 5) hC hX [.ref xa, .int (jr x63 x4), .int x68, .int (jr (x63 / 6) 1001), .int (jr (x63 / 6006) 10001)] [] (fun α sz => cm_L_oil l hlf dC dI dA _ α _ (jr x63 x4) x68 (jr (x63 / 6) 1001) (jr (x63 / 6006) 10001) _ h sz) (fun α h0 => by rw [← h0]; rfl) gL_law_L_oil rfl ⟨rfl, rfl⟩ (by decide +kernel) ⟨Nat.le_of_ble_eq_true rfl, Nat.le_of_ble_eq_true rfl⟩ rfl rfl (Nat.le_of_ble_eq_true rfl) ⟨by show 64 + 16 * σ130.2.2 + 16 ≤ 600086; omega, by show 8000 + 2000 * σ130.2.2 + 2000 ≤ 7301442; omega⟩ dL_law_411 (fun x244 σ245 L246 hn => ?_)
                      clear h
                      revert hn
                      intro h
                      refine l_topm (fun ρ248 qρ248 => ?_)
                      replace h := h ρ248 qρ248
                      refine l_bipush (v := (-101)) hC dL_law_414 (by decide) ?_
                      obtain ⟨J251, hJ251, h⟩ := h
                      have KJ251 : ∀ (σ249 : Rh) (x250 : Int32), J251 σ249 x250 → GL p l e room_1 s m #[Value.ref b] below meth c 64 8000 Q (LW s dC dI dA A xa) 21 σ249 424 [(0, .ref b), (1, .ref xa), (2, .int x2), (3, .int x3), (4, .int x4), (5, .int x5), (6, .long y6), (9, .int x8), (11, .int x63), (13, .int x68)] [.int x250] := by
                        clear h
                        intro σ249 x250 h
                        replace h := hJ251 σ249 x250 h
                        refine l_istore (lv' := [(8, .int x250), (0, .ref b), (1, .ref xa), (2, .int x2), (3, .int x3), (4, .int x4), (5, .int x5), (6, .long y6), (9, .int x8), (11, .int x63), (13, .int x68)]) hC dL_law_424 (by decide) rfl ?_
                        refine l_goto (tgt := 809) hC dL_law_426 (by decide) ?_
                        refine l_lvs [1, 2, 3, 4, 5, 6, 7, 0, 8, 9, 10] rfl ?_
                        exact KJ76 σ249 x2 x3 x4 x5 y6 x250 h
                      refine l_icmp_eq (tgt := 423) hC dL_law_416 (by decide) (fun q => ?_) (fun q => ?_)
                      · replace h := h.1 q
                        refine l_iconst (v := 0) hC dL_law_423 (by decide) ?_
                        refine l_lvs [0, 1, 2, 3, 4, 5, 6, 8, 9, 11] rfl ?_
                        exact KJ251 ρ248 0 h
                      · replace h := h.2 q
                        refine l_iconst (v := 1) hC dL_law_419 (by decide) ?_
                        refine l_goto (tgt := 424) hC dL_law_420 (by decide) ?_
                        refine l_lvs [0, 1, 2, 3, 4, 5, 6, 8, 9, 11] rfl ?_
                        exact KJ251 ρ248 1 h
                · replace h := h.2 q
                  refine l_aload_n hC dL_law_314 rfl 1 rfl ?_
                  refine l_iload hC dL_law_315 9 rfl ?_
                  refine l_iload_n hC dL_law_317 rfl 2 rfl ?_
                  obtain ⟨c252, h⟩ := h
                  refine l_irem hC c252 dL_law_318 ?_
                  refine l_iload hC dL_law_319 9 rfl ?_
                  refine l_iconst (v := 5) hC dL_law_321 (by decide) ?_
                  refine l_idiv hC (by decide) dL_law_322 ?_
                  refine l_bipush (v := 10) hC dL_law_323 (by decide) ?_
                  refine l_irem hC (by decide) dL_law_325 ?_
                  refine l_iload hC dL_law_326 9 rfl ?_
                  refine l_bipush (v := 50) hC dL_law_328 (by decide) ?_
                  refine l_idiv hC (by decide) dL_law_330 ?_
                  refine l_bipush (v := 10) hC dL_law_331 (by decide) ?_
                  refine l_irem hC (by decide) dL_law_333 ?_
                  refine l_iload hC dL_law_334 9 rfl ?_
                  refine l_sipush (v := 500) hC dL_law_336 (by decide) ?_
                  refine l_idiv hC (by decide) dL_law_339 ?_
                  refine l_sipush (v := 501) hC dL_law_340 (by decide) ?_
                  refine l_irem hC (by decide) dL_law_343 ?_
                  refine l_iconst (v := 1) hC dL_law_344 (by decide) ?_
                  refine l_iload hC dL_law_345 9 rfl ?_
                  refine l_bipush (v := 7) hC dL_law_347 (by decide) ?_
                  refine l_idiv hC (by decide) dL_law_349 ?_
                  refine l_bipush (v := 6) hC dL_law_350 (by decide) ?_
                  refine l_irem hC (by decide) dL_law_352 ?_
                  refine l_iadd hC dL_law_353 ?_
                  obtain ⟨w256, h⟩ := h
                  refine l_wcalli (n := 6) hC hX [.ref xa, .int (jr x63 x2), .int (jr (x63 / 5) 10), .int (jr (x63 / 50) 10), .int (jr (x63 / 500) 501), .int (1 + (jr (x63 / 7) 6))] [] (fun α sz => cm_L_lease l hlf dC dI dA _ α _ (jr x63 x2) (jr (x63 / 5) 10) (jr (x63 / 50) 10) (jr (x63 / 500) 501) (1 + (jr (x63 / 7) 6)) _ h sz) (fun α h0 => by rw [← h0]; rfl) gL_law_L_lease rfl ⟨rfl, rfl⟩ (by decide +kernel) ⟨Nat.le_of_ble_eq_true rfl, Nat.le_of_ble_eq_true rfl⟩ rfl rfl (Nat.le_of_ble_eq_true rfl) ⟨by show 64 + 16 * σ130.2.2 + 16 ≤ 600086; omega, by show 8000 + 2000 * σ130.2.2 + 2000 ≤ 7301442; omega⟩ dL_law_354 (fun x253 σ254 L255 hn => ?_)
                  clear h
                  revert hn
                  intro h
                  refine l_topm (fun ρ257 qρ257 => ?_)
                  replace h := h ρ257 qρ257
                  refine l_bipush (v := (-101)) hC dL_law_357 (by decide) ?_
                  obtain ⟨J260, hJ260, h⟩ := h
                  have KJ260 : ∀ (σ258 : Rh) (x259 : Int32), J260 σ258 x259 → GL p l e room_1 s m #[Value.ref b] below meth c 64 8000 Q (LW s dC dI dA A xa) 21 σ258 367 [(0, .ref b), (1, .ref xa), (2, .int x2), (3, .int x3), (4, .int x4), (5, .int x5), (6, .long y6), (9, .int x8), (11, .int x63), (13, .int x68)] [.int x259] := by
                    clear h
                    intro σ258 x259 h
                    replace h := hJ260 σ258 x259 h
                    refine l_istore (lv' := [(8, .int x259), (0, .ref b), (1, .ref xa), (2, .int x2), (3, .int x3), (4, .int x4), (5, .int x5), (6, .long y6), (9, .int x8), (11, .int x63), (13, .int x68)]) hC dL_law_367 (by decide) rfl ?_
                    refine l_goto (tgt := 809) hC dL_law_369 (by decide) ?_
                    refine l_lvs [1, 2, 3, 4, 5, 6, 7, 0, 8, 9, 10] rfl ?_
                    exact KJ76 σ258 x2 x3 x4 x5 y6 x259 h
                  refine l_icmp_eq (tgt := 366) hC dL_law_359 (by decide) (fun q => ?_) (fun q => ?_)
                  · replace h := h.1 q
                    refine l_iconst (v := 0) hC dL_law_366 (by decide) ?_
                    refine l_lvs [0, 1, 2, 3, 4, 5, 6, 8, 9, 11] rfl ?_
                    exact KJ260 ρ257 0 h
                  · replace h := h.2 q
                    refine l_iconst (v := 1) hC dL_law_362 (by decide) ?_
                    refine l_goto (tgt := 367) hC dL_law_363 (by decide) ?_
                    refine l_lvs [0, 1, 2, 3, 4, 5, 6, 8, 9, 11] rfl ?_
                    exact KJ260 ρ257 1 h
              refine l_icmp_ne (tgt := 307) hC dL_law_267 (by decide) (fun q => ?_) (fun q => ?_)
              · replace h := h.1 q
                exact KJ131 σ128 h
              · replace h := h.2 q
                refine l_iload_n hC dL_law_270 rfl 3 rfl ?_
                refine l_if_le (tgt := 307) hC dL_law_271 (by decide) (fun q => ?_) (fun q => ?_)
                · replace h := h.1 q
                  exact KJ131 σ128 h
                · replace h := h.2 q
                  refine l_iload hC dL_law_274 4 rfl ?_
                  refine l_bipush (v := 6) hC dL_law_276 (by decide) ?_
                  refine l_icmp_ge (tgt := 307) hC dL_law_278 (by decide) (fun q => ?_) (fun q => ?_)
                  · replace h := h.1 q
                    exact KJ131 σ128 h
                  · replace h := h.2 q
                    refine l_aload_n hC dL_law_281 rfl 1 rfl ?_
                    refine l_iload hC dL_law_282 9 rfl ?_
                    refine l_iload_n hC dL_law_284 rfl 3 rfl ?_
                    obtain ⟨c261, h⟩ := h
                    refine l_irem hC c261 dL_law_285 ?_
                    obtain ⟨w265, h⟩ := h
                    refine l_wcalli (n := 2) hC hX [.ref xa, .int (jr x63 x3)] [] (fun α sz => cm_L_well l hlf dC dI dA _ α _ (jr x63 x3) _ h sz) (fun α h0 => by rw [← h0]; rfl) gL_law_L_well rfl ⟨rfl, rfl⟩ (by decide +kernel) ⟨Nat.le_of_ble_eq_true rfl, Nat.le_of_ble_eq_true rfl⟩ rfl rfl (Nat.le_of_ble_eq_true rfl) ⟨by show 64 + 16 * σ128.2.2 + 16 ≤ 600086; omega, by show 8000 + 2000 * σ128.2.2 + 2000 ≤ 7301442; omega⟩ dL_law_286 (fun x262 σ263 L264 hn => ?_)
                    clear h
                    revert hn
                    intro h
                    refine l_topm (fun ρ266 qρ266 => ?_)
                    replace h := h ρ266 qρ266
                    refine l_iload hC dL_law_289 4 rfl ?_
                    obtain ⟨J269, hJ269, h⟩ := h
                    have KJ269 : ∀ (σ267 : Rh) (x268 : Int32), J269 σ267 x268 → GL p l e room_1 s m #[Value.ref b] below meth c 64 8000 Q (LW s dC dI dA A xa) 21 σ267 299 [(0, .ref b), (1, .ref xa), (2, .int x2), (3, .int x3), (4, .int x4), (5, .int x5), (6, .long y6), (9, .int x8), (11, .int x63), (13, .int x68)] [.int x268] := by
                      clear h
                      intro σ267 x268 h
                      replace h := hJ269 σ267 x268 h
                      refine l_istore (lv' := [(8, .int x268), (0, .ref b), (1, .ref xa), (2, .int x2), (3, .int x3), (4, .int x4), (5, .int x5), (6, .long y6), (9, .int x8), (11, .int x63), (13, .int x68)]) hC dL_law_299 (by decide) rfl ?_
                      obtain ⟨x270, qx270⟩ : ∃ z : Int32, z = x4 + 1 := ⟨_, rfl⟩
                      replace h := h x270 qx270
                      refine l_iinc (v := x270) (lv' := [(4, .int x270), (8, .int x268), (0, .ref b), (1, .ref xa), (2, .int x2), (3, .int x3), (5, .int x5), (6, .long y6), (9, .int x8), (11, .int x63), (13, .int x68)]) hC dL_law_301 (k := 5) rfl (by rw [qx270]; rfl) (by decide) rfl ?_
                      refine l_goto (tgt := 809) hC dL_law_304 (by decide) ?_
                      refine l_lvs [2, 3, 4, 5, 0, 6, 7, 1, 8, 9, 10] rfl ?_
                      exact KJ76 σ267 x2 x3 x270 x5 y6 x268 h
                    refine l_icmp_ne (tgt := 298) hC dL_law_291 (by decide) (fun q => ?_) (fun q => ?_)
                    · replace h := h.1 q
                      refine l_iconst (v := 0) hC dL_law_298 (by decide) ?_
                      refine l_lvs [0, 1, 2, 3, 4, 5, 6, 8, 9, 11] rfl ?_
                      exact KJ269 ρ266 0 h
                    · replace h := h.2 q
                      refine l_iconst (v := 1) hC dL_law_294 (by decide) ?_
                      refine l_goto (tgt := 299) hC dL_law_295 (by decide) ?_
                      refine l_lvs [0, 1, 2, 3, 4, 5, 6, 8, 9, 11] rfl ?_
                      exact KJ269 ρ266 1 h
            · replace h := h.2 q
              refine l_aload_n hC dL_law_216 rfl 1 rfl ?_
              refine l_iconst (v := 1) hC dL_law_217 (by decide) ?_
              refine l_iload hC dL_law_218 9 rfl ?_
              refine l_bipush (v := 31) hC dL_law_220 (by decide) ?_
              refine l_irem hC (by decide) dL_law_222 ?_
              refine l_iadd hC dL_law_223 ?_
              obtain ⟨w274, h⟩ := h
              refine l_wcalli (n := 2) hC hX [.ref xa, .int (1 + (jr x63 31))] [] (fun α sz => cm_L_unit l hlf dC dI dA _ α _ (1 + (jr x63 31)) _ h sz) (fun α h0 => by rw [← h0]; rfl) gL_law_L_unit rfl ⟨rfl, rfl⟩ (by decide +kernel) ⟨Nat.le_of_ble_eq_true rfl, Nat.le_of_ble_eq_true rfl⟩ rfl rfl (Nat.le_of_ble_eq_true rfl) ⟨by show 64 + 16 * σ128.2.2 + 16 ≤ 600086; omega, by show 8000 + 2000 * σ128.2.2 + 2000 ≤ 7301442; omega⟩ dL_law_224 (fun x271 σ272 L273 hn => ?_)
              clear h
              revert hn
              intro h
              refine l_topm (fun ρ275 qρ275 => ?_)
              replace h := h ρ275 qρ275
              refine l_istore (lv' := [(14, .int x271), (0, .ref b), (1, .ref xa), (2, .int x2), (3, .int x3), (4, .int x4), (5, .int x5), (6, .long y6), (8, .int x7), (9, .int x8), (11, .int x63), (12, .int x65), (13, .int x68)]) hC dL_law_227 (by decide) rfl ?_
              refine l_iload hC dL_law_229 0 rfl ?_
              refine l_iload_n hC dL_law_231 rfl 4 rfl ?_
              obtain ⟨J278, hJ278, h⟩ := h
              have KJ278 : ∀ (σ276 : Rh) (x277 : Int32), J278 σ276 x277 → GL p l e room_1 s m #[Value.ref b] below meth c 64 8000 Q (LW s dC dI dA A xa) 21 σ276 245 [(0, .ref b), (1, .ref xa), (2, .int x2), (3, .int x3), (4, .int x4), (5, .int x5), (6, .long y6), (9, .int x8), (11, .int x63), (13, .int x68), (14, .int x271)] [.int x277] := by
                clear h
                intro σ276 x277 h
                replace h := hJ278 σ276 x277 h
                refine l_istore (lv' := [(8, .int x277), (0, .ref b), (1, .ref xa), (2, .int x2), (3, .int x3), (4, .int x4), (5, .int x5), (6, .long y6), (9, .int x8), (11, .int x63), (13, .int x68), (14, .int x271)]) hC dL_law_245 (by decide) rfl ?_
                refine l_iload_n hC dL_law_247 rfl 4 rfl ?_
                refine l_iload hC dL_law_248 11 rfl ?_
                refine l_iload_n hC dL_law_250 rfl 4 rfl ?_
                obtain ⟨J281, hJ281, h⟩ := h
                have KJ281 : ∀ (σ279 : Rh) (x280 : Int32), J281 σ279 x280 → GL p l e room_1 s m #[Value.ref b] below meth c 64 8000 Q (LW s dC dI dA A xa) 21 σ279 259 [(0, .ref b), (1, .ref xa), (2, .int x2), (4, .int x4), (5, .int x5), (6, .long y6), (8, .int x277), (9, .int x8), (11, .int x63), (13, .int x68)] [.int x280, .int x3] := by
                  clear h
                  intro σ279 x280 h
                  replace h := hJ281 σ279 x280 h
                  refine l_iadd hC dL_law_259 ?_
                  refine l_topi (fun x282 qx282 => ?_)
                  replace h := h x282 qx282
                  refine l_istore_n (lv' := [(3, .int x282), (0, .ref b), (1, .ref xa), (2, .int x2), (4, .int x4), (5, .int x5), (6, .long y6), (8, .int x277), (9, .int x8), (11, .int x63), (13, .int x68)]) hC dL_law_260 rfl (by decide) rfl ?_
                  refine l_goto (tgt := 809) hC dL_law_261 (by decide) ?_
                  refine l_lvs [1, 2, 3, 0, 4, 5, 6, 7, 8, 9, 10] rfl ?_
                  exact KJ76 σ279 x2 x282 x4 x5 y6 x277 h
                refine l_icmp_ne (tgt := 258) hC dL_law_251 (by decide) (fun q => ?_) (fun q => ?_)
                · replace h := h.1 q
                  refine l_iconst (v := 0) hC dL_law_258 (by decide) ?_
                  refine l_lvs [1, 2, 3, 5, 6, 7, 0, 8, 9, 10] rfl ?_
                  exact KJ281 σ276 0 h
                · replace h := h.2 q
                  refine l_iconst (v := 1) hC dL_law_254 (by decide) ?_
                  refine l_goto (tgt := 259) hC dL_law_255 (by decide) ?_
                  refine l_lvs [1, 2, 3, 5, 6, 7, 0, 8, 9, 10] rfl ?_
                  exact KJ281 σ276 1 h
              obtain ⟨J284, hJ284, h⟩ := h
              have KJ284 : ∀ (σ283 : Rh), J284 σ283 → GL p l e room_1 s m #[Value.ref b] below meth c 64 8000 Q (LW s dC dI dA A xa) 21 σ283 240 [(0, .ref b), (1, .ref xa), (2, .int x2), (3, .int x3), (4, .int x4), (5, .int x5), (6, .long y6), (9, .int x8), (11, .int x63), (13, .int x68), (14, .int x271)] [] := by
                clear h
                intro σ283 h
                replace h := hJ284 σ283 h
                refine l_iconst (v := 1) hC dL_law_240 (by decide) ?_
                refine l_goto (tgt := 245) hC dL_law_241 (by decide) ?_
                exact KJ278 σ283 1 h
              refine l_icmp_eq (tgt := 240) hC dL_law_232 (by decide) (fun q => ?_) (fun q => ?_)
              · replace h := h.1 q
                refine l_lvs [1, 2, 3, 4, 5, 6, 7, 9, 10, 12, 0] rfl ?_
                exact KJ284 ρ275 h
              · replace h := h.2 q
                refine l_iload hC dL_law_235 0 rfl ?_
                refine l_if_ge (tgt := 244) hC dL_law_237 (by decide) (fun q => ?_) (fun q => ?_)
                · replace h := h.1 q
                  refine l_iconst (v := 0) hC dL_law_244 (by decide) ?_
                  refine l_lvs [1, 2, 3, 4, 5, 6, 7, 9, 10, 12, 0] rfl ?_
                  exact KJ278 ρ275 0 h
                · replace h := h.2 q
                  refine l_lvs [1, 2, 3, 4, 5, 6, 7, 9, 10, 12, 0] rfl ?_
                  exact KJ284 ρ275 h
          · replace h := h.2 q
            refine l_aload_n hC dL_law_154 rfl 1 rfl ?_
            refine l_iload hC dL_law_155 9 rfl ?_
            refine l_iload_n hC dL_law_157 rfl 2 rfl ?_
            obtain ⟨c285, h⟩ := h
            refine l_irem hC c285 dL_law_158 ?_
            refine l_iload hC dL_law_159 9 rfl ?_
            refine l_iconst (v := 5) hC dL_law_161 (by decide) ?_
            refine l_idiv hC (by decide) dL_law_162 ?_
            refine l_bipush (v := 10) hC dL_law_163 (by decide) ?_
            refine l_irem hC (by decide) dL_law_165 ?_
            refine l_iload hC dL_law_166 9 rfl ?_
            refine l_bipush (v := 50) hC dL_law_168 (by decide) ?_
            refine l_idiv hC (by decide) dL_law_170 ?_
            refine l_bipush (v := 10) hC dL_law_171 (by decide) ?_
            refine l_irem hC (by decide) dL_law_173 ?_
            refine l_iconst (v := 1) hC dL_law_174 (by decide) ?_
            refine l_iload hC dL_law_175 9 rfl ?_
            refine l_sipush (v := 500) hC dL_law_177 (by decide) ?_
            refine l_idiv hC (by decide) dL_law_180 ?_
            refine l_sipush (v := 9000) hC dL_law_181 (by decide) ?_
            refine l_irem hC (by decide) dL_law_184 ?_
            refine l_iadd hC dL_law_185 ?_
            refine l_iload hC dL_law_186 11 rfl ?_
            obtain ⟨w289, h⟩ := h
            refine l_wcalli (n := 6) hC hX [.ref xa, .int (jr x63 x2), .int (jr (x63 / 5) 10), .int (jr (x63 / 50) 10), .int (1 + (jr (x63 / 500) 9000)), .int x68] [] (fun α sz => cm_L_deed l hlf dC dI dA _ α _ (jr x63 x2) (jr (x63 / 5) 10) (jr (x63 / 50) 10) (1 + (jr (x63 / 500) 9000)) x68 _ h sz) (fun α h0 => by rw [← h0]; rfl) gL_law_L_deed rfl ⟨rfl, rfl⟩ (by decide +kernel) ⟨Nat.le_of_ble_eq_true rfl, Nat.le_of_ble_eq_true rfl⟩ rfl rfl (Nat.le_of_ble_eq_true rfl) ⟨by show 64 + 16 * σ128.2.2 + 16 ≤ 600086; omega, by show 8000 + 2000 * σ128.2.2 + 2000 ≤ 7301442; omega⟩ dL_law_188 (fun x286 σ287 L288 hn => ?_)
            clear h
            revert hn
            intro h
            refine l_topm (fun ρ290 qρ290 => ?_)
            replace h := h ρ290 qρ290
            refine l_istore (lv' := [(14, .int x286), (0, .ref b), (1, .ref xa), (2, .int x2), (3, .int x3), (4, .int x4), (5, .int x5), (6, .long y6), (8, .int x7), (9, .int x8), (11, .int x63), (12, .int x65), (13, .int x68)]) hC dL_law_191 (by decide) rfl ?_
            refine l_iload hC dL_law_193 0 rfl ?_
            refine l_bipush (v := (-101)) hC dL_law_195 (by decide) ?_
            obtain ⟨J293, hJ293, h⟩ := h
            have KJ293 : ∀ (σ291 : Rh) (x292 : Int32), J293 σ291 x292 → GL p l e room_1 s m #[Value.ref b] below meth c 64 8000 Q (LW s dC dI dA A xa) 21 σ291 205 [(0, .ref b), (1, .ref xa), (2, .int x2), (3, .int x3), (4, .int x4), (5, .int x5), (6, .long y6), (9, .int x8), (11, .int x63), (13, .int x68)] [.int x292] := by
              clear h
              intro σ291 x292 h
              replace h := hJ293 σ291 x292 h
              refine l_istore (lv' := [(8, .int x292), (0, .ref b), (1, .ref xa), (2, .int x2), (3, .int x3), (4, .int x4), (5, .int x5), (6, .long y6), (9, .int x8), (11, .int x63), (13, .int x68)]) hC dL_law_205 (by decide) rfl ?_
              refine l_goto (tgt := 809) hC dL_law_207 (by decide) ?_
              refine l_lvs [1, 2, 3, 4, 5, 6, 7, 0, 8, 9, 10] rfl ?_
              exact KJ76 σ291 x2 x3 x4 x5 y6 x292 h
            refine l_icmp_eq (tgt := 204) hC dL_law_197 (by decide) (fun q => ?_) (fun q => ?_)
            · replace h := h.1 q
              refine l_iconst (v := 0) hC dL_law_204 (by decide) ?_
              refine l_lvs [1, 2, 3, 4, 5, 6, 7, 9, 10, 12] rfl ?_
              exact KJ293 ρ290 0 h
            · replace h := h.2 q
              refine l_iconst (v := 1) hC dL_law_200 (by decide) ?_
              refine l_goto (tgt := 205) hC dL_law_201 (by decide) ?_
              refine l_lvs [1, 2, 3, 4, 5, 6, 7, 9, 10, 12] rfl ?_
              exact KJ293 ρ290 1 h
        refine l_if_ne (tgt := 148) hC dL_law_102 (by decide) (fun q => ?_) (fun q => ?_)
        · replace h := h.1 q
          refine l_lvs [2, 3, 4, 5, 6, 7, 8, 9, 10, 11, 1, 0] rfl ?_
          exact KJ129 σ64 h
        · replace h := h.2 q
          refine l_iload_n hC dL_law_105 rfl 4 rfl ?_
          refine l_iconst (v := 5) hC dL_law_106 (by decide) ?_
          refine l_icmp_ge (tgt := 148) hC dL_law_107 (by decide) (fun q => ?_) (fun q => ?_)
          · replace h := h.1 q
            refine l_lvs [2, 3, 4, 5, 6, 7, 8, 9, 10, 11, 1, 0] rfl ?_
            exact KJ129 σ64 h
          · replace h := h.2 q
            refine l_aload_n hC dL_law_110 rfl 3 rfl ?_
            refine l_iconst (v := 1) hC dL_law_111 (by decide) ?_
            refine l_iload hC dL_law_112 11 rfl ?_
            refine l_sipush (v := 1000) hC dL_law_114 (by decide) ?_
            refine l_irem hC (by decide) dL_law_117 ?_
            refine l_iadd hC dL_law_118 ?_
            refine l_iload hC dL_law_119 11 rfl ?_
            refine l_sipush (v := 1000) hC dL_law_121 (by decide) ?_
            refine l_idiv hC (by decide) dL_law_124 ?_
            refine l_bipush (v := 10) hC dL_law_125 (by decide) ?_
            refine l_irem hC (by decide) dL_law_127 ?_
            obtain ⟨w297, h⟩ := h
            refine l_wcalli (n := 3) hC hX [.ref xa, .int (1 + (jr x63 1000)), .int (jr (x63 / 1000) 10)] [] (fun α sz => cm_L_tract l hlf dC dI dA _ α _ (1 + (jr x63 1000)) (jr (x63 / 1000) 10) _ h sz) (fun α h0 => by rw [← h0]; rfl) gL_law_L_tract rfl ⟨rfl, rfl⟩ (by decide +kernel) ⟨Nat.le_of_ble_eq_true rfl, Nat.le_of_ble_eq_true rfl⟩ rfl rfl (Nat.le_of_ble_eq_true rfl) ⟨by show 64 + 16 * σ64.2.2 + 16 ≤ 600086; omega, by show 8000 + 2000 * σ64.2.2 + 2000 ≤ 7301442; omega⟩ dL_law_128 (fun x294 σ295 L296 hn => ?_)
            clear h
            revert hn
            intro h
            refine l_topm (fun ρ298 qρ298 => ?_)
            replace h := h ρ298 qρ298
            refine l_iload_n hC dL_law_131 rfl 4 rfl ?_
            obtain ⟨J301, hJ301, h⟩ := h
            have KJ301 : ∀ (σ299 : Rh) (x300 : Int32), J301 σ299 x300 → GL p l e room_1 s m #[Value.ref b] below meth c 64 8000 Q (LW s dC dI dA A xa) 21 σ299 140 [(0, .ref b), (1, .ref xa), (2, .int x2), (3, .int x3), (4, .int x4), (5, .int x5), (6, .long y6), (9, .int x8), (11, .int x63), (13, .int x68)] [.int x300] := by
              clear h
              intro σ299 x300 h
              replace h := hJ301 σ299 x300 h
              refine l_istore (lv' := [(8, .int x300), (0, .ref b), (1, .ref xa), (2, .int x2), (3, .int x3), (4, .int x4), (5, .int x5), (6, .long y6), (9, .int x8), (11, .int x63), (13, .int x68)]) hC dL_law_140 (by decide) rfl ?_
              obtain ⟨x302, qx302⟩ : ∃ z : Int32, z = x2 + 1 := ⟨_, rfl⟩
              replace h := h x302 qx302
              refine l_iinc (v := x302) (lv' := [(2, .int x302), (8, .int x300), (0, .ref b), (1, .ref xa), (3, .int x3), (4, .int x4), (5, .int x5), (6, .long y6), (9, .int x8), (11, .int x63), (13, .int x68)]) hC dL_law_142 (k := 3) rfl (by rw [qx302]; rfl) (by decide) rfl ?_
              refine l_goto (tgt := 809) hC dL_law_145 (by decide) ?_
              refine l_lvs [2, 3, 0, 4, 5, 6, 7, 1, 8, 9, 10] rfl ?_
              exact KJ76 σ299 x302 x3 x4 x5 y6 x300 h
            refine l_icmp_ne (tgt := 139) hC dL_law_132 (by decide) (fun q => ?_) (fun q => ?_)
            · replace h := h.1 q
              refine l_iconst (v := 0) hC dL_law_139 (by decide) ?_
              refine l_lvs [2, 3, 4, 5, 6, 7, 8, 10, 11, 0] rfl ?_
              exact KJ301 ρ298 0 h
            · replace h := h.2 q
              refine l_iconst (v := 1) hC dL_law_135 (by decide) ?_
              refine l_goto (tgt := 140) hC dL_law_136 (by decide) ?_
              refine l_lvs [2, 3, 4, 5, 6, 7, 8, 10, 11, 0] rfl ?_
              exact KJ301 ρ298 1 h
      refine l_icmp_ge (tgt := 64) hC dL_law_57 (by decide) (fun q => ?_) (fun q => ?_)
      · replace h := h.1 q
        refine l_iload hC dL_law_64 10 rfl ?_
        refine l_iconst (v := 3) hC dL_law_66 (by decide) ?_
        refine l_icmp_ne (tgt := 74) hC dL_law_67 (by decide) (fun q => ?_) (fun q => ?_)
        · replace h := h.1 q
          refine l_iload hC dL_law_74 10 rfl ?_
          refine l_iconst (v := 4) hC dL_law_76 (by decide) ?_
          refine l_icmp_ne (tgt := 84) hC dL_law_77 (by decide) (fun q => ?_) (fun q => ?_)
          · replace h := h.1 q
            refine l_iload hC dL_law_84 1 rfl ?_
            refine l_bipush (v := 16) hC dL_law_86 (by decide) ?_
            refine l_irem hC (by decide) dL_law_88 ?_
            refine l_lvs [2, 3, 4, 5, 6, 7, 8, 9, 10, 0] rfl ?_
            exact KJ66 σ1 (jr x61 16) h
          · replace h := h.2 q
            refine l_iconst (v := 3) hC dL_law_80 (by decide) ?_
            refine l_goto (tgt := 89) hC dL_law_81 (by decide) ?_
            refine l_lvs [2, 3, 4, 5, 6, 7, 8, 9, 10, 0] rfl ?_
            exact KJ66 σ1 3 h
        · replace h := h.2 q
          refine l_iconst (v := 2) hC dL_law_70 (by decide) ?_
          refine l_goto (tgt := 89) hC dL_law_71 (by decide) ?_
          refine l_lvs [2, 3, 4, 5, 6, 7, 8, 9, 10, 0] rfl ?_
          exact KJ66 σ1 2 h
      · replace h := h.2 q
        refine l_iconst (v := 0) hC dL_law_60 (by decide) ?_
        refine l_goto (tgt := 89) hC dL_law_61 (by decide) ?_
        refine l_lvs [2, 3, 4, 5, 6, 7, 8, 9, 10, 0] rfl ?_
        exact KJ66 σ1 0 h
