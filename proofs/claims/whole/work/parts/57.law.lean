/-! THE LAW: its loop over both worlds -/
def law_body (xs : Nat → Int32) (N : Nat) : (Rh × Int32 → Prop) → Rh × Int32 → Prop := fun (R : Rh × Int32 → Prop) (s9 : Rh × Int32) => match s9 with | (ρ, x) => ((((nI N) - 6) < x → True) ∧ (¬ (((nI N) - 6) < x) → vp_in x N ∧ ∀ x2 : Int32, x2 = (xs x.toNatClampNeg) &&& 31 → (∃ J4 : Rh → Prop, (∀ (σ3 : Rh), J4 σ3 → ∀ x5 : Int32, x5 = x + 6 → R (σ3, x5)) ∧ ((x2 = 0 → vp_in (x + 1) N ∧ wp_L_pass ρ.2.1 ρ.1 (xs (x + 1).toNatClampNeg) (fun (x7 : Int32) (σ8 : Mm) (L9 : List Nat) => ∀ ρ10 : Rh, ρ10 = (σ8, L9, ρ.2.2) → vp_in (x + 1) N ∧ wp_X7_pass ρ10.2.2 (xs (x + 1).toNatClampNeg) (fun (x12 : Int32) (τ13 : Mm) => ∀ ρ14 : Rh, ρ14 = (ρ10.1, ρ10.2.1, τ13) → wp_X7_thrown ρ14.2.2  (fun (x15 : Int32) (τ16 : Mm) => ∀ ρ17 : Rh, ρ17 = (ρ14.1, ρ14.2.1, τ16) → ((x15 = x7 → (∃ J19 : Rh → Prop, (∀ (σ18 : Rh), J19 σ18 → J4 σ18) ∧ ((¬ x7 = 0 → J19 ρ17) ∧ (¬ (¬ x7 = 0) → vp_in 0 1 ∧ (((gJ ρ17.1 17 (0 : Int32).toNatClampNeg) = x12.toInt64 → J19 ρ17) ∧ (¬ ((gJ ρ17.1 17 (0 : Int32).toNatClampNeg) = x12.toInt64) → False)))))) ∧ (¬ (x15 = x7) → False)))))) ∧ (x2 = 1 → vp_in (x + 1) N ∧ vp_in (x + 2) N ∧ wp_L_tract ρ.2.1 ρ.1 (xs (x + 1).toNatClampNeg) (xs (x + 2).toNatClampNeg) (fun (x23 : Int32) (σ24 : Mm) (L25 : List Nat) => ∀ ρ26 : Rh, ρ26 = (σ24, L25, ρ.2.2) → vp_in (x + 1) N ∧ vp_in (x + 2) N ∧ wp_X7_tract ρ26.2.2 (xs (x + 1).toNatClampNeg) (xs (x + 2).toNatClampNeg) (fun (x29 : Int32) (τ30 : Mm) => ∀ ρ31 : Rh, ρ31 = (ρ26.1, ρ26.2.1, τ30) → wp_X7_thrown ρ31.2.2  (fun (x32 : Int32) (τ33 : Mm) => ∀ ρ34 : Rh, ρ34 = (ρ31.1, ρ31.2.1, τ33) → ((x32 = x23 → (∃ J36 : Rh → Prop, (∀ (σ35 : Rh), J36 σ35 → J4 σ35) ∧ ((¬ x23 = 0 → J36 ρ34) ∧ (¬ (¬ x23 = 0) → vp_in 0 1 ∧ (((gJ ρ34.1 17 (0 : Int32).toNatClampNeg) = x29.toInt64 → J36 ρ34) ∧ (¬ ((gJ ρ34.1 17 (0 : Int32).toNatClampNeg) = x29.toInt64) → False)))))) ∧ (¬ (x32 = x23) → False)))))) ∧ (x2 = 2 → vp_in (x + 1) N ∧ vp_in (x + 2) N ∧ vp_in (x + 3) N ∧ vp_in (x + 4) N ∧ vp_in (x + 5) N ∧ wp_L_deed ρ.2.1 ρ.1 (xs (x + 1).toNatClampNeg) (xs (x + 2).toNatClampNeg) (xs (x + 3).toNatClampNeg) (xs (x + 4).toNatClampNeg) (xs (x + 5).toNatClampNeg) (fun (x43 : Int32) (σ44 : Mm) (L45 : List Nat) => ∀ ρ46 : Rh, ρ46 = (σ44, L45, ρ.2.2) → vp_in (x + 1) N ∧ vp_in (x + 2) N ∧ vp_in (x + 3) N ∧ vp_in (x + 4) N ∧ vp_in (x + 5) N ∧ wp_X7_deed ρ46.2.2 (xs (x + 1).toNatClampNeg) (xs (x + 2).toNatClampNeg) (xs (x + 3).toNatClampNeg) (xs (x + 4).toNatClampNeg) (xs (x + 5).toNatClampNeg) (fun (x52 : Int32) (τ53 : Mm) => ∀ ρ54 : Rh, ρ54 = (ρ46.1, ρ46.2.1, τ53) → wp_X7_thrown ρ54.2.2  (fun (x55 : Int32) (τ56 : Mm) => ∀ ρ57 : Rh, ρ57 = (ρ54.1, ρ54.2.1, τ56) → ((x55 = x43 → (∃ J59 : Rh → Prop, (∀ (σ58 : Rh), J59 σ58 → J4 σ58) ∧ ((¬ x43 = 0 → J59 ρ57) ∧ (¬ (¬ x43 = 0) → vp_in 0 1 ∧ (((gJ ρ57.1 17 (0 : Int32).toNatClampNeg) = x52.toInt64 → J59 ρ57) ∧ (¬ ((gJ ρ57.1 17 (0 : Int32).toNatClampNeg) = x52.toInt64) → False)))))) ∧ (¬ (x55 = x43) → False)))))) ∧ (x2 = 3 → vp_in (x + 1) N ∧ vp_in (x + 2) N ∧ vp_in (x + 3) N ∧ wp_L_title ρ.2.1 ρ.1 (xs (x + 1).toNatClampNeg) (xs (x + 2).toNatClampNeg) (xs (x + 3).toNatClampNeg) (fun (x64 : Int32) (σ65 : Mm) (L66 : List Nat) => ∀ ρ67 : Rh, ρ67 = (σ65, L66, ρ.2.2) → vp_in (x + 1) N ∧ vp_in (x + 2) N ∧ vp_in (x + 3) N ∧ wp_X7_title ρ67.2.2 (xs (x + 1).toNatClampNeg) (xs (x + 2).toNatClampNeg) (xs (x + 3).toNatClampNeg) (fun (x71 : Int32) (τ72 : Mm) => ∀ ρ73 : Rh, ρ73 = (ρ67.1, ρ67.2.1, τ72) → wp_X7_thrown ρ73.2.2  (fun (x74 : Int32) (τ75 : Mm) => ∀ ρ76 : Rh, ρ76 = (ρ73.1, ρ73.2.1, τ75) → ((x74 = x64 → (∃ J78 : Rh → Prop, (∀ (σ77 : Rh), J78 σ77 → J4 σ77) ∧ ((¬ x64 = 0 → J78 ρ76) ∧ (¬ (¬ x64 = 0) → vp_in 0 1 ∧ (((gJ ρ76.1 17 (0 : Int32).toNatClampNeg) = x71.toInt64 → J78 ρ76) ∧ (¬ ((gJ ρ76.1 17 (0 : Int32).toNatClampNeg) = x71.toInt64) → False)))))) ∧ (¬ (x74 = x64) → False)))))) ∧ (x2 = 4 → vp_in (x + 1) N ∧ vp_in (x + 2) N ∧ vp_in (x + 3) N ∧ vp_in (x + 4) N ∧ vp_in (x + 5) N ∧ wp_L_lease ρ.2.1 ρ.1 (xs (x + 1).toNatClampNeg) (xs (x + 2).toNatClampNeg) (xs (x + 3).toNatClampNeg) (xs (x + 4).toNatClampNeg) (xs (x + 5).toNatClampNeg) (fun (x85 : Int32) (σ86 : Mm) (L87 : List Nat) => ∀ ρ88 : Rh, ρ88 = (σ86, L87, ρ.2.2) → vp_in (x + 1) N ∧ vp_in (x + 2) N ∧ vp_in (x + 3) N ∧ vp_in (x + 4) N ∧ vp_in (x + 5) N ∧ wp_X7_lease ρ88.2.2 (xs (x + 1).toNatClampNeg) (xs (x + 2).toNatClampNeg) (xs (x + 3).toNatClampNeg) (xs (x + 4).toNatClampNeg) (xs (x + 5).toNatClampNeg) (fun (x94 : Int32) (τ95 : Mm) => ∀ ρ96 : Rh, ρ96 = (ρ88.1, ρ88.2.1, τ95) → wp_X7_thrown ρ96.2.2  (fun (x97 : Int32) (τ98 : Mm) => ∀ ρ99 : Rh, ρ99 = (ρ96.1, ρ96.2.1, τ98) → ((x97 = x85 → (∃ J101 : Rh → Prop, (∀ (σ100 : Rh), J101 σ100 → J4 σ100) ∧ ((¬ x85 = 0 → J101 ρ99) ∧ (¬ (¬ x85 = 0) → vp_in 0 1 ∧ (((gJ ρ99.1 17 (0 : Int32).toNatClampNeg) = x94.toInt64 → J101 ρ99) ∧ (¬ ((gJ ρ99.1 17 (0 : Int32).toNatClampNeg) = x94.toInt64) → False)))))) ∧ (¬ (x97 = x85) → False)))))) ∧ (x2 = 5 → vp_in (x + 1) N ∧ vp_in (x + 2) N ∧ wp_L_isHeld ρ.2.1 ρ.1 (xs (x + 1).toNatClampNeg) (xs (x + 2).toNatClampNeg) (fun (x105 : Int32) (σ106 : Mm) (L107 : List Nat) => ∀ ρ108 : Rh, ρ108 = (σ106, L107, ρ.2.2) → vp_in (x + 1) N ∧ vp_in (x + 2) N ∧ wp_X7_isHeld ρ108.2.2 (xs (x + 1).toNatClampNeg) (xs (x + 2).toNatClampNeg) (fun (x111 : Int32) (τ112 : Mm) => ∀ ρ113 : Rh, ρ113 = (ρ108.1, ρ108.2.1, τ112) → wp_X7_thrown ρ113.2.2  (fun (x114 : Int32) (τ115 : Mm) => ∀ ρ116 : Rh, ρ116 = (ρ113.1, ρ113.2.1, τ115) → ((x114 = x105 → (∃ J118 : Rh → Prop, (∀ (σ117 : Rh), J118 σ117 → J4 σ117) ∧ ((¬ x105 = 0 → J118 ρ116) ∧ (¬ (¬ x105 = 0) → vp_in 0 1 ∧ (∃ J122 : Rh → Int64 → Prop, (∀ (σ120 : Rh) (y121 : Int64), J122 σ120 y121 → (((gJ ρ116.1 17 (0 : Int32).toNatClampNeg) = y121 → J118 σ120) ∧ (¬ ((gJ ρ116.1 17 (0 : Int32).toNatClampNeg) = y121) → False))) ∧ ((x111 = 0 → J122 ρ116 0) ∧ (¬ (x111 = 0) → J122 ρ116 1))))))) ∧ (¬ (x114 = x105) → False)))))) ∧ (x2 = 6 → vp_in (x + 1) N ∧ wp_L_unit ρ.2.1 ρ.1 (xs (x + 1).toNatClampNeg) (fun (x124 : Int32) (σ125 : Mm) (L126 : List Nat) => ∀ ρ127 : Rh, ρ127 = (σ125, L126, ρ.2.2) → vp_in (x + 1) N ∧ wp_X7_unit ρ127.2.2 (xs (x + 1).toNatClampNeg) (fun (x129 : Int32) (τ130 : Mm) => ∀ ρ131 : Rh, ρ131 = (ρ127.1, ρ127.2.1, τ130) → wp_X7_thrown ρ131.2.2  (fun (x132 : Int32) (τ133 : Mm) => ∀ ρ134 : Rh, ρ134 = (ρ131.1, ρ131.2.1, τ133) → ((x132 = x124 → (∃ J136 : Rh → Prop, (∀ (σ135 : Rh), J136 σ135 → J4 σ135) ∧ ((¬ x124 = 0 → J136 ρ134) ∧ (¬ (¬ x124 = 0) → vp_in 0 1 ∧ (((gJ ρ134.1 17 (0 : Int32).toNatClampNeg) = x129.toInt64 → J136 ρ134) ∧ (¬ ((gJ ρ134.1 17 (0 : Int32).toNatClampNeg) = x129.toInt64) → False)))))) ∧ (¬ (x132 = x124) → False)))))) ∧ (x2 = 7 → vp_in (x + 1) N ∧ wp_L_well ρ.2.1 ρ.1 (xs (x + 1).toNatClampNeg) (fun (x139 : Int32) (σ140 : Mm) (L141 : List Nat) => ∀ ρ142 : Rh, ρ142 = (σ140, L141, ρ.2.2) → vp_in (x + 1) N ∧ wp_X7_well ρ142.2.2 (xs (x + 1).toNatClampNeg) (fun (x144 : Int32) (τ145 : Mm) => ∀ ρ146 : Rh, ρ146 = (ρ142.1, ρ142.2.1, τ145) → wp_X7_thrown ρ146.2.2  (fun (x147 : Int32) (τ148 : Mm) => ∀ ρ149 : Rh, ρ149 = (ρ146.1, ρ146.2.1, τ148) → ((x147 = x139 → (∃ J151 : Rh → Prop, (∀ (σ150 : Rh), J151 σ150 → J4 σ150) ∧ ((¬ x139 = 0 → J151 ρ149) ∧ (¬ (¬ x139 = 0) → vp_in 0 1 ∧ (((gJ ρ149.1 17 (0 : Int32).toNatClampNeg) = x144.toInt64 → J151 ρ149) ∧ (¬ ((gJ ρ149.1 17 (0 : Int32).toNatClampNeg) = x144.toInt64) → False)))))) ∧ (¬ (x147 = x139) → False)))))) ∧ (x2 = 8 → vp_in (x + 1) N ∧ vp_in (x + 2) N ∧ vp_in (x + 3) N ∧ vp_in (x + 4) N ∧ wp_L_oil ρ.2.1 ρ.1 (xs (x + 1).toNatClampNeg) (xs (x + 2).toNatClampNeg) (xs (x + 3).toNatClampNeg) (xs (x + 4).toNatClampNeg) (fun (x157 : Int32) (σ158 : Mm) (L159 : List Nat) => ∀ ρ160 : Rh, ρ160 = (σ158, L159, ρ.2.2) → vp_in (x + 1) N ∧ vp_in (x + 2) N ∧ vp_in (x + 3) N ∧ vp_in (x + 4) N ∧ wp_X7_oil ρ160.2.2 (xs (x + 1).toNatClampNeg) (xs (x + 2).toNatClampNeg) (xs (x + 3).toNatClampNeg) (xs (x + 4).toNatClampNeg) (fun (x165 : Int32) (τ166 : Mm) => ∀ ρ167 : Rh, ρ167 = (ρ160.1, ρ160.2.1, τ166) → wp_X7_thrown ρ167.2.2  (fun (x168 : Int32) (τ169 : Mm) => ∀ ρ170 : Rh, ρ170 = (ρ167.1, ρ167.2.1, τ169) → ((x168 = x157 → (∃ J172 : Rh → Prop, (∀ (σ171 : Rh), J172 σ171 → J4 σ171) ∧ ((¬ x157 = 0 → J172 ρ170) ∧ (¬ (¬ x157 = 0) → vp_in 0 1 ∧ (((gJ ρ170.1 17 (0 : Int32).toNatClampNeg) = x165.toInt64 → J172 ρ170) ∧ (¬ ((gJ ρ170.1 17 (0 : Int32).toNatClampNeg) = x165.toInt64) → False)))))) ∧ (¬ (x168 = x157) → False)))))) ∧ (x2 = 9 → vp_in (x + 1) N ∧ vp_in (x + 2) N ∧ vp_in (x + 3) N ∧ wp_L_cost ρ.2.1 ρ.1 (xs (x + 1).toNatClampNeg) (xs (x + 2).toNatClampNeg) (xs (x + 3).toNatClampNeg) (fun (x177 : Int32) (σ178 : Mm) (L179 : List Nat) => ∀ ρ180 : Rh, ρ180 = (σ178, L179, ρ.2.2) → vp_in (x + 1) N ∧ vp_in (x + 2) N ∧ vp_in (x + 3) N ∧ wp_X7_cost ρ180.2.2 (xs (x + 1).toNatClampNeg) (xs (x + 2).toNatClampNeg) (xs (x + 3).toNatClampNeg) (fun (x184 : Int32) (τ185 : Mm) => ∀ ρ186 : Rh, ρ186 = (ρ180.1, ρ180.2.1, τ185) → wp_X7_thrown ρ186.2.2  (fun (x187 : Int32) (τ188 : Mm) => ∀ ρ189 : Rh, ρ189 = (ρ186.1, ρ186.2.1, τ188) → ((x187 = x177 → (∃ J191 : Rh → Prop, (∀ (σ190 : Rh), J191 σ190 → J4 σ190) ∧ ((¬ x177 = 0 → J191 ρ189) ∧ (¬ (¬ x177 = 0) → vp_in 0 1 ∧ (((gJ ρ189.1 17 (0 : Int32).toNatClampNeg) = x184.toInt64 → J191 ρ189) ∧ (¬ ((gJ ρ189.1 17 (0 : Int32).toNatClampNeg) = x184.toInt64) → False)))))) ∧ (¬ (x187 = x177) → False)))))) ∧ (x2 = 10 → vp_in (x + 1) N ∧ vp_in (x + 2) N ∧ wp_L_tax ρ.2.1 ρ.1 (xs (x + 1).toNatClampNeg) (xs (x + 2).toNatClampNeg) (fun (x195 : Int32) (σ196 : Mm) (L197 : List Nat) => ∀ ρ198 : Rh, ρ198 = (σ196, L197, ρ.2.2) → vp_in (x + 1) N ∧ vp_in (x + 2) N ∧ wp_X7_tax ρ198.2.2 (xs (x + 1).toNatClampNeg) (xs (x + 2).toNatClampNeg) (fun (x201 : Int32) (τ202 : Mm) => ∀ ρ203 : Rh, ρ203 = (ρ198.1, ρ198.2.1, τ202) → wp_X7_thrown ρ203.2.2  (fun (x204 : Int32) (τ205 : Mm) => ∀ ρ206 : Rh, ρ206 = (ρ203.1, ρ203.2.1, τ205) → ((x204 = x195 → (∃ J208 : Rh → Prop, (∀ (σ207 : Rh), J208 σ207 → J4 σ207) ∧ ((¬ x195 = 0 → J208 ρ206) ∧ (¬ (¬ x195 = 0) → vp_in 0 1 ∧ (((gJ ρ206.1 17 (0 : Int32).toNatClampNeg) = x201.toInt64 → J208 ρ206) ∧ (¬ ((gJ ρ206.1 17 (0 : Int32).toNatClampNeg) = x201.toInt64) → False)))))) ∧ (¬ (x204 = x195) → False)))))) ∧ (x2 = 11 → vp_in (x + 1) N ∧ vp_in (x + 2) N ∧ vp_in (x + 3) N ∧ (∃ J215 : Rh → Int32 → Prop, (∀ (σ213 : Rh) (x214 : Int32), J215 σ213 x214 → wp_L_consent σ213.2.1 σ213.1 (xs (x + 1).toNatClampNeg) (xs (x + 2).toNatClampNeg) x214 (fun (x216 : Int32) (σ217 : Mm) (L218 : List Nat) => ∀ ρ219 : Rh, ρ219 = (σ217, L218, σ213.2.2) → vp_in (x + 1) N ∧ vp_in (x + 2) N ∧ vp_in (x + 3) N ∧ (∃ J225 : Rh → Int32 → Prop, (∀ (σ223 : Rh) (x224 : Int32), J225 σ223 x224 → wp_X7_consent σ223.2.2 (xs (x + 1).toNatClampNeg) (xs (x + 2).toNatClampNeg) x224 (fun (x226 : Int32) (τ227 : Mm) => ∀ ρ228 : Rh, ρ228 = (σ223.1, σ223.2.1, τ227) → wp_X7_thrown ρ228.2.2  (fun (x229 : Int32) (τ230 : Mm) => ∀ ρ231 : Rh, ρ231 = (ρ228.1, ρ228.2.1, τ230) → ((x229 = x216 → (∃ J233 : Rh → Prop, (∀ (σ232 : Rh), J233 σ232 → J4 σ232) ∧ ((¬ x216 = 0 → J233 ρ231) ∧ (¬ (¬ x216 = 0) → vp_in 0 1 ∧ (∃ J237 : Rh → Int64 → Prop, (∀ (σ235 : Rh) (y236 : Int64), J237 σ235 y236 → (((gJ ρ231.1 17 (0 : Int32).toNatClampNeg) = y236 → J233 σ235) ∧ (¬ ((gJ ρ231.1 17 (0 : Int32).toNatClampNeg) = y236) → False))) ∧ ((x226 = 0 → J237 ρ231 0) ∧ (¬ (x226 = 0) → J237 ρ231 1))))))) ∧ (¬ (x229 = x216) → False))))) ∧ (((xs (x + 3).toNatClampNeg) = 0 → J225 ρ219 0) ∧ (¬ ((xs (x + 3).toNatClampNeg) = 0) → J225 ρ219 1))))) ∧ (((xs (x + 3).toNatClampNeg) = 0 → J215 ρ 0) ∧ (¬ ((xs (x + 3).toNatClampNeg) = 0) → J215 ρ 1)))) ∧ (x2 = 12 → vp_in (x + 1) N ∧ wp_L_penalty ρ.2.1 ρ.1 (xs (x + 1).toNatClampNeg) (fun (x239 : Int32) (σ240 : Mm) (L241 : List Nat) => ∀ ρ242 : Rh, ρ242 = (σ240, L241, ρ.2.2) → vp_in (x + 1) N ∧ wp_X7_penalty ρ242.2.2 (xs (x + 1).toNatClampNeg) (fun (x244 : Int32) (τ245 : Mm) => ∀ ρ246 : Rh, ρ246 = (ρ242.1, ρ242.2.1, τ245) → wp_X7_thrown ρ246.2.2  (fun (x247 : Int32) (τ248 : Mm) => ∀ ρ249 : Rh, ρ249 = (ρ246.1, ρ246.2.1, τ248) → ((x247 = x239 → (∃ J251 : Rh → Prop, (∀ (σ250 : Rh), J251 σ250 → J4 σ250) ∧ ((¬ x239 = 0 → J251 ρ249) ∧ (¬ (¬ x239 = 0) → vp_in 0 1 ∧ (((gJ ρ249.1 17 (0 : Int32).toNatClampNeg) = x244.toInt64 → J251 ρ249) ∧ (¬ ((gJ ρ249.1 17 (0 : Int32).toNatClampNeg) = x244.toInt64) → False)))))) ∧ (¬ (x247 = x239) → False)))))) ∧ (x2 = 13 → vp_in (x + 1) N ∧ vp_in (x + 2) N ∧ vp_in (x + 3) N ∧ vp_in (x + 4) N ∧ (∃ J259 : Rh → Int32 → Prop, (∀ (σ257 : Rh) (x258 : Int32), J259 σ257 x258 → wp_L_interest σ257.2.1 σ257.1 (xs (x + 1).toNatClampNeg) (xs (x + 2).toNatClampNeg) (xs (x + 3).toNatClampNeg) x258 (fun (x260 : Int32) (σ261 : Mm) (L262 : List Nat) => ∀ ρ263 : Rh, ρ263 = (σ261, L262, σ257.2.2) → vp_in (x + 1) N ∧ vp_in (x + 2) N ∧ vp_in (x + 3) N ∧ vp_in (x + 4) N ∧ (∃ J270 : Rh → Int32 → Prop, (∀ (σ268 : Rh) (x269 : Int32), J270 σ268 x269 → wp_X7_interest σ268.2.2 (xs (x + 1).toNatClampNeg) (xs (x + 2).toNatClampNeg) (xs (x + 3).toNatClampNeg) x269 (fun (x271 : Int32) (τ272 : Mm) => ∀ ρ273 : Rh, ρ273 = (σ268.1, σ268.2.1, τ272) → wp_X7_thrown ρ273.2.2  (fun (x274 : Int32) (τ275 : Mm) => ∀ ρ276 : Rh, ρ276 = (ρ273.1, ρ273.2.1, τ275) → ((x274 = x260 → (∃ J278 : Rh → Prop, (∀ (σ277 : Rh), J278 σ277 → J4 σ277) ∧ ((¬ x260 = 0 → J278 ρ276) ∧ (¬ (¬ x260 = 0) → vp_in 0 1 ∧ (((gJ ρ276.1 17 (0 : Int32).toNatClampNeg) = x271.toInt64 → J278 ρ276) ∧ (¬ ((gJ ρ276.1 17 (0 : Int32).toNatClampNeg) = x271.toInt64) → False)))))) ∧ (¬ (x274 = x260) → False))))) ∧ (((xs (x + 4).toNatClampNeg) = 0 → J270 ρ263 0) ∧ (¬ ((xs (x + 4).toNatClampNeg) = 0) → J270 ρ263 1))))) ∧ (((xs (x + 4).toNatClampNeg) = 0 → J259 ρ 0) ∧ (¬ ((xs (x + 4).toNatClampNeg) = 0) → J259 ρ 1)))) ∧ (x2 = 14 → vp_in (x + 1) N ∧ vp_in (x + 2) N ∧ wp_L_revenue ρ.2.1 ρ.1 (xs (x + 1).toNatClampNeg) (xs (x + 2).toNatClampNeg) (fun (x282 : Int32) (σ283 : Mm) (L284 : List Nat) => ∀ ρ285 : Rh, ρ285 = (σ283, L284, ρ.2.2) → vp_in (x + 1) N ∧ vp_in (x + 2) N ∧ wp_X7_revenue ρ285.2.2 (xs (x + 1).toNatClampNeg) (xs (x + 2).toNatClampNeg) (fun (x288 : Int32) (τ289 : Mm) => ∀ ρ290 : Rh, ρ290 = (ρ285.1, ρ285.2.1, τ289) → wp_X7_thrown ρ290.2.2  (fun (x291 : Int32) (τ292 : Mm) => ∀ ρ293 : Rh, ρ293 = (ρ290.1, ρ290.2.1, τ292) → ((x291 = x282 → (∃ J295 : Rh → Prop, (∀ (σ294 : Rh), J295 σ294 → J4 σ294) ∧ ((¬ x282 = 0 → J295 ρ293) ∧ (¬ (¬ x282 = 0) → vp_in 0 1 ∧ (((gJ ρ293.1 17 (0 : Int32).toNatClampNeg) = x288.toInt64 → J295 ρ293) ∧ (¬ ((gJ ρ293.1 17 (0 : Int32).toNatClampNeg) = x288.toInt64) → False)))))) ∧ (¬ (x291 = x282) → False)))))) ∧ (x2 = 15 → vp_in (x + 1) N ∧ vp_in (x + 2) N ∧ vp_in (x + 3) N ∧ wp_L_due ρ.2.1 ρ.1 (xs (x + 1).toNatClampNeg) (xs (x + 2).toNatClampNeg) (xs (x + 3).toNatClampNeg) (fun (x300 : Int32) (σ301 : Mm) (L302 : List Nat) => ∀ ρ303 : Rh, ρ303 = (σ301, L302, ρ.2.2) → vp_in (x + 1) N ∧ vp_in (x + 2) N ∧ vp_in (x + 3) N ∧ wp_X7_due ρ303.2.2 (xs (x + 1).toNatClampNeg) (xs (x + 2).toNatClampNeg) (xs (x + 3).toNatClampNeg) (fun (x307 : Int32) (τ308 : Mm) => ∀ ρ309 : Rh, ρ309 = (ρ303.1, ρ303.2.1, τ308) → wp_X7_thrown ρ309.2.2  (fun (x310 : Int32) (τ311 : Mm) => ∀ ρ312 : Rh, ρ312 = (ρ309.1, ρ309.2.1, τ311) → ((x310 = x300 → (∃ J314 : Rh → Prop, (∀ (σ313 : Rh), J314 σ313 → J4 σ313) ∧ ((¬ x300 = 0 → J314 ρ312) ∧ (¬ (¬ x300 = 0) → vp_in 0 1 ∧ (((gJ ρ312.1 17 (0 : Int32).toNatClampNeg) = x307.toInt64 → J314 ρ312) ∧ (¬ ((gJ ρ312.1 17 (0 : Int32).toNatClampNeg) = x307.toInt64) → False)))))) ∧ (¬ (x310 = x300) → False)))))) ∧ (x2 = 16 → vp_in (x + 1) N ∧ vp_in (x + 2) N ∧ vp_in (x + 3) N ∧ wp_L_balance ρ.2.1 ρ.1 (xs (x + 1).toNatClampNeg) (xs (x + 2).toNatClampNeg) (xs (x + 3).toNatClampNeg) (fun (x319 : Int32) (σ320 : Mm) (L321 : List Nat) => ∀ ρ322 : Rh, ρ322 = (σ320, L321, ρ.2.2) → vp_in (x + 1) N ∧ vp_in (x + 2) N ∧ vp_in (x + 3) N ∧ wp_X7_balance ρ322.2.2 (xs (x + 1).toNatClampNeg) (xs (x + 2).toNatClampNeg) (xs (x + 3).toNatClampNeg) (fun (y326 : Int64) (τ327 : Mm) => ∀ ρ328 : Rh, ρ328 = (ρ322.1, ρ322.2.1, τ327) → wp_X7_thrown ρ328.2.2  (fun (x329 : Int32) (τ330 : Mm) => ∀ ρ331 : Rh, ρ331 = (ρ328.1, ρ328.2.1, τ330) → ((x329 = x319 → (∃ J333 : Rh → Prop, (∀ (σ332 : Rh), J333 σ332 → J4 σ332) ∧ ((¬ x319 = 0 → J333 ρ331) ∧ (¬ (¬ x319 = 0) → vp_in 0 1 ∧ (((gJ ρ331.1 17 (0 : Int32).toNatClampNeg) = y326 → J333 ρ331) ∧ (¬ ((gJ ρ331.1 17 (0 : Int32).toNatClampNeg) = y326) → False)))))) ∧ (¬ (x329 = x319) → False)))))) ∧ (x2 = 17 → vp_in (x + 1) N ∧ vp_in (x + 2) N ∧ wp_L_agrees ρ.2.1 ρ.1 (xs (x + 1).toNatClampNeg) (xs (x + 2).toNatClampNeg) (fun (x337 : Int32) (σ338 : Mm) (L339 : List Nat) => ∀ ρ340 : Rh, ρ340 = (σ338, L339, ρ.2.2) → vp_in (x + 1) N ∧ vp_in (x + 2) N ∧ wp_X7_agrees ρ340.2.2 (xs (x + 1).toNatClampNeg) (xs (x + 2).toNatClampNeg) (fun (x343 : Int32) (τ344 : Mm) => ∀ ρ345 : Rh, ρ345 = (ρ340.1, ρ340.2.1, τ344) → wp_X7_thrown ρ345.2.2  (fun (x346 : Int32) (τ347 : Mm) => ∀ ρ348 : Rh, ρ348 = (ρ345.1, ρ345.2.1, τ347) → ((x346 = x337 → (∃ J350 : Rh → Prop, (∀ (σ349 : Rh), J350 σ349 → J4 σ349) ∧ ((¬ x337 = 0 → J350 ρ348) ∧ (¬ (¬ x337 = 0) → vp_in 0 1 ∧ (∃ J354 : Rh → Int64 → Prop, (∀ (σ352 : Rh) (y353 : Int64), J354 σ352 y353 → (((gJ ρ348.1 17 (0 : Int32).toNatClampNeg) = y353 → J350 σ352) ∧ (¬ ((gJ ρ348.1 17 (0 : Int32).toNatClampNeg) = y353) → False))) ∧ ((x343 = 0 → J354 ρ348 0) ∧ (¬ (x343 = 0) → J354 ρ348 1))))))) ∧ (¬ (x346 = x337) → False)))))) ∧ (x2 = 18 → vp_in (x + 1) N ∧ vp_in (x + 2) N ∧ (∃ J359 : Rh → Int32 → Prop, (∀ (σ357 : Rh) (x358 : Int32), J359 σ357 x358 → wp_L_suspend σ357.2.1 σ357.1 (xs (x + 1).toNatClampNeg) x358 (fun (x360 : Int32) (σ361 : Mm) (L362 : List Nat) => ∀ ρ363 : Rh, ρ363 = (σ361, L362, σ357.2.2) → vp_in (x + 1) N ∧ vp_in (x + 2) N ∧ (∃ J368 : Rh → Int32 → Prop, (∀ (σ366 : Rh) (x367 : Int32), J368 σ366 x367 → wp_X7_suspend σ366.2.2 (xs (x + 1).toNatClampNeg) x367 (fun (x369 : Int32) (τ370 : Mm) => ∀ ρ371 : Rh, ρ371 = (σ366.1, σ366.2.1, τ370) → wp_X7_thrown ρ371.2.2  (fun (x372 : Int32) (τ373 : Mm) => ∀ ρ374 : Rh, ρ374 = (ρ371.1, ρ371.2.1, τ373) → ((x372 = x360 → (∃ J376 : Rh → Prop, (∀ (σ375 : Rh), J376 σ375 → J4 σ375) ∧ ((¬ x360 = 0 → J376 ρ374) ∧ (¬ (¬ x360 = 0) → vp_in 0 1 ∧ (∃ J380 : Rh → Int64 → Prop, (∀ (σ378 : Rh) (y379 : Int64), J380 σ378 y379 → (((gJ ρ374.1 17 (0 : Int32).toNatClampNeg) = y379 → J376 σ378) ∧ (¬ ((gJ ρ374.1 17 (0 : Int32).toNatClampNeg) = y379) → False))) ∧ ((x369 = 0 → J380 ρ374 0) ∧ (¬ (x369 = 0) → J380 ρ374 1))))))) ∧ (¬ (x372 = x360) → False))))) ∧ (((xs (x + 2).toNatClampNeg) = 0 → J368 ρ363 0) ∧ (¬ ((xs (x + 2).toNatClampNeg) = 0) → J368 ρ363 1))))) ∧ (((xs (x + 2).toNatClampNeg) = 0 → J359 ρ 0) ∧ (¬ ((xs (x + 2).toNatClampNeg) = 0) → J359 ρ 1)))) ∧ (x2 = 19 → vp_in (x + 1) N ∧ wp_L_least ρ.2.1 ρ.1 (xs (x + 1).toNatClampNeg) (fun (x382 : Int32) (σ383 : Mm) (L384 : List Nat) => ∀ ρ385 : Rh, ρ385 = (σ383, L384, ρ.2.2) → vp_in (x + 1) N ∧ wp_X7_least ρ385.2.2 (xs (x + 1).toNatClampNeg) (fun (x387 : Int32) (τ388 : Mm) => ∀ ρ389 : Rh, ρ389 = (ρ385.1, ρ385.2.1, τ388) → wp_X7_thrown ρ389.2.2  (fun (x390 : Int32) (τ391 : Mm) => ∀ ρ392 : Rh, ρ392 = (ρ389.1, ρ389.2.1, τ391) → ((x390 = x382 → (∃ J394 : Rh → Prop, (∀ (σ393 : Rh), J394 σ393 → J4 σ393) ∧ ((¬ x382 = 0 → J394 ρ392) ∧ (¬ (¬ x382 = 0) → vp_in 0 1 ∧ (((gJ ρ392.1 17 (0 : Int32).toNatClampNeg) = x387.toInt64 → J394 ρ392) ∧ (¬ ((gJ ρ392.1 17 (0 : Int32).toNatClampNeg) = x387.toInt64) → False)))))) ∧ (¬ (x390 = x382) → False)))))) ∧ (x2 = 20 → wp_X6_payDay ρ.2.1 ρ.1 (fun (y396 : Int64) (σ397 : Mm) => ∀ ρ398 : Rh, ρ398 = (σ397, ρ.2.1, ρ.2.2) → wp_X7_payDay ρ398.2.2  (fun (y399 : Int64) (τ400 : Mm) => ∀ ρ401 : Rh, ρ401 = (ρ398.1, ρ398.2.1, τ400) → ((y396 = y399 → J4 ρ401) ∧ (¬ (y396 = y399) → False))))) ∧ (x2 = 21 → vp_in (x + 1) N ∧ wp_L_owed ρ.2.1 ρ.1 (xs (x + 1).toNatClampNeg) (fun (x403 : Int32) (σ404 : Mm) (L405 : List Nat) => ∀ ρ406 : Rh, ρ406 = (σ404, L405, ρ.2.2) → vp_in (x + 1) N ∧ wp_X7_owed ρ406.2.2 (xs (x + 1).toNatClampNeg) (fun (y408 : Int64) (τ409 : Mm) => ∀ ρ410 : Rh, ρ410 = (ρ406.1, ρ406.2.1, τ409) → wp_X7_thrown ρ410.2.2  (fun (x411 : Int32) (τ412 : Mm) => ∀ ρ413 : Rh, ρ413 = (ρ410.1, ρ410.2.1, τ412) → ((x411 = x403 → (∃ J415 : Rh → Prop, (∀ (σ414 : Rh), J415 σ414 → J4 σ414) ∧ ((¬ x403 = 0 → J415 ρ413) ∧ (¬ (¬ x403 = 0) → vp_in 0 1 ∧ (((gJ ρ413.1 17 (0 : Int32).toNatClampNeg) = y408 → J415 ρ413) ∧ (¬ ((gJ ρ413.1 17 (0 : Int32).toNatClampNeg) = y408) → False)))))) ∧ (¬ (x411 = x403) → False)))))) ∧ (x2 = 22 → vp_in (x + 1) N ∧ wp_L_paid ρ.2.1 ρ.1 (xs (x + 1).toNatClampNeg) (fun (x418 : Int32) (σ419 : Mm) (L420 : List Nat) => ∀ ρ421 : Rh, ρ421 = (σ419, L420, ρ.2.2) → vp_in (x + 1) N ∧ wp_X7_paid ρ421.2.2 (xs (x + 1).toNatClampNeg) (fun (y423 : Int64) (τ424 : Mm) => ∀ ρ425 : Rh, ρ425 = (ρ421.1, ρ421.2.1, τ424) → wp_X7_thrown ρ425.2.2  (fun (x426 : Int32) (τ427 : Mm) => ∀ ρ428 : Rh, ρ428 = (ρ425.1, ρ425.2.1, τ427) → ((x426 = x418 → (∃ J430 : Rh → Prop, (∀ (σ429 : Rh), J430 σ429 → J4 σ429) ∧ ((¬ x418 = 0 → J430 ρ428) ∧ (¬ (¬ x418 = 0) → vp_in 0 1 ∧ (((gJ ρ428.1 17 (0 : Int32).toNatClampNeg) = y423 → J430 ρ428) ∧ (¬ ((gJ ρ428.1 17 (0 : Int32).toNatClampNeg) = y423) → False)))))) ∧ (¬ (x426 = x418) → False)))))) ∧ (x2.toInt < 0 ∨ 22 < x2.toInt → J4 ρ)))))
theorem l_6 (k : Nat) : nI (6 * k) + 6 = nI (6 * (k + 1)) := by rw [show 6 * (k + 1) = 6 * k + 6 from by omega]; exact nI_add (6 * k) 6
theorem l_kb {N k : Nat} {x : Int32} (hN : N ≤ 3072) (hk : k ≤ 512) (hx : x = nI (6 * k)) (hq : ¬ nI N - 6 < x) : k + 1 ≤ 512 := by
  have h1 : (nI N).toInt = N := nI_toInt (by omega)
  have h2 : (nI N - 6).toInt = (N : Int) - 6 := by
    have := pk_sub_toInt (a := N) (b := 6) (by omega) (by omega)
    exact this
  rw [hx, Int32.lt_iff_toInt_lt, h2, nI_toInt (by omega)] at hq
  omega
theorem l_sw (x : Int32) : x = 0 ∨ x = 1 ∨ x = 2 ∨ x = 3 ∨ x = 4 ∨ x = 5 ∨ x = 6 ∨ x = 7 ∨ x = 8 ∨ x = 9 ∨ x = 10 ∨ x = 11 ∨ x = 12 ∨ x = 13 ∨ x = 14 ∨ x = 15 ∨ x = 16 ∨ x = 17 ∨ x = 18 ∨ x = 19 ∨ x = 20 ∨ x = 21 ∨ x = 22 ∨ (x.toInt < 0 ∨ 22 < x.toInt) := by
  rcases Int.lt_or_le x.toInt 0 with h | h
  · exact (by simp only [h, true_or, or_true])
  · rcases Int.lt_or_le 22 x.toInt with h2 | h2
    · exact (by simp only [h2, or_true])
    · have e : ∀ j : Nat, x.toInt = (j : Int) → j < 23 → x = nI j := fun j hj hl => by apply Int32.toInt_inj.mp; rw [nI_toInt (by omega), hj]
      have e9 : x.toInt = (x.toInt.toNat : Int) := by omega
      have e8 : x.toInt.toNat < 23 := by omega
      have e7 := e _ e9 e8
      generalize x.toInt.toNat = j at e7 e8
      rw [e7]
      clear e e7 e9 h h2
      revert j
      decide +kernel
section LAWSW
variable {p : Program} {l : Launch} {e : Env} {s : State} {m : MethodId} {args : Array Value} {below : List Frame} {meth : Method} {c : Code} {cells slots : Nat} {Q : State → Prop} {dC : Nat → ClassId} {dI : Nat → Nat → Nat} {dA : Nat → ClassId} {A : Nat → Prop} {xa oa ma b N : Nat} {xs : Nat → Int32} {ρ : Rh} {pc : Nat} {lv lv' : List (Nat × Value)} {st : List Value}
theorem l_tin (hC : mL p s m args c dC dI dA A b N xs) {dflt lo hi : Int} {offs : Array Int} {len : Nat} {x : Int32} {off : Int} {tgt : Nat} (d : decode code pc = .ok (.tableswitch dflt lo hi offs, len)) (h1 : ¬ x.toInt < lo) (h2 : ¬ hi < x.toInt) (ho : offs[(x.toInt - lo).toNat]? = some off) (ht : (pc : Int) + off = (tgt : Int)) (kk : GL p l e s m args below meth c cells slots Q dC dI dA A xa oa ma ρ tgt lv st) : GL p l e s m args below meth c cells slots Q dC dI dA A xa oa ma ρ pc lv (.int x :: st) := fun H locs ls hW hl => lv_tableIn hC.1 hC.2.1 d h1 h2 ho ht (kk H locs ls hW hl)
theorem l_tout (hC : mL p s m args c dC dI dA A b N xs) {dflt lo hi : Int} {offs : Array Int} {len : Nat} {x : Int32} {tgt : Nat} (d : decode code pc = .ok (.tableswitch dflt lo hi offs, len)) (h : x.toInt < lo ∨ hi < x.toInt) (ht : (pc : Int) + dflt = (tgt : Int)) (kk : GL p l e s m args below meth c cells slots Q dC dI dA A xa oa ma ρ tgt lv st) : GL p l e s m args below meth c cells slots Q dC dI dA A xa oa ma ρ pc lv (.int x :: st) := fun H locs ls hW hl => lv_tableOut hC.1 hC.2.1 d h ht (kk H locs ls hW hl)
theorem l_end {b0 : Nat} (hC : mL p s m #[Value.ref b0] c dC dI dA A b N xs) (hr : meth.sig.returnType = ret) (hlk : meth.locks = false) (hAs : ∀ q, A q → s.heap.size ≤ q) (h1 : cells ≤ 601024) (h2 : slots ≤ 7293034) (hQ : Q = lw_Z below #[Value.ref b0] s) (d : decode code pc = .ok (.ireturn, 1)) : GL p l e s m #[Value.ref b0] below meth c cells slots Q dC dI dA A xa oa ma ρ pc lv [.int 1] := by
  subst hQ
  intro H locs ls hW hl
  refine va_forget (fun q hq => hAs _ ((l_S hW).2.2 q hq)) ?_
  refine W.widen (k := 601024) (n := 7293034) h1 h2 ?_
  exact lw_ret hC.1 hC.2.1 hr hlk d
end LAWSW
set_option maxHeartbeats 40000000 in
set_option maxRecDepth 100000 in
theorem law_loop {p : Program} {l : Launch} {e : Env} {s : State} {m : MethodId} {args : Array Value} {below : List Frame} {meth : Method} {c : Code} {Q : State → Prop} {dC : Nat → ClassId} {dI : Nat → Nat → Nat} {dA : Nat → ClassId} {A : Nat → Prop} {xa oa ma b N : Nat} {xs : Nat → Int32} (hlf : l.stackTraces = false) (hC : mL p s m #[Value.ref b] c dC dI dA A b N xs) (hargs : #[Value.ref b] = args) (hr : meth.sig.returnType = ret) (hlk : meth.locks = false) (hAs : ∀ q, A q → s.heap.size ≤ q) (hQ : Q = lw_Z below #[Value.ref b] s) (hN : N ≤ 3072) (n : Nat) (s9 : Rh × Int32) (h : lpw (law_body xs N) n s9) : ∀ k : Nat, s9.2 = nI (6 * k) → k ≤ 512 → GL p l e s m #[Value.ref b] below meth c (64 + 16 * k) (8000 + 2000 * k) Q dC dI dA A xa oa ma s9.1 23 [(0, .ref b), (1, .ref xa), (2, .ref ma), (3, .ref oa), (4, .int s9.2)] [] := by
  refine lpw_ind (fun s9 => ∀ k : Nat, s9.2 = nI (6 * k) → k ≤ 512 → GL p l e s m #[Value.ref b] below meth c (64 + 16 * k) (8000 + 2000 * k) Q dC dI dA A xa oa ma s9.1 23 [(0, .ref b), (1, .ref xa), (2, .ref ma), (3, .ref oa), (4, .int s9.2)] []) ?_ n s9 h
  clear h
  intro R hR s9 h k hx hk
  obtain ⟨ρ, x⟩ := s9
  unfold law_body at h
  dsimp only at hx
  clear hargs
  refine l_iload hC dL_law_23 4 rfl ?_
  refine l_aload_n hC dL_law_25 rfl 0 rfl ?_
  refine l_slen hC dL_law_26 ?_
  refine l_bipush (v := 6) hC dL_law_27 (by decide) ?_
  refine l_isub hC dL_law_29 ?_
  refine l_icmp_gt (tgt := 1833) hC dL_law_30 (by decide) (fun q => ?_) (fun q => ?_)
  · replace h := h.1 q
    refine l_iconst (v := 1) hC dL_law_1833 (by decide) ?_
    exact l_end hC hr hlk hAs (by show _ ≤ 601024; omega) (by show _ ≤ 7293034; omega) hQ dL_law_1834
  · replace h := h.2 q
    have hq := q
    refine l_aload_n hC dL_law_33 rfl 0 rfl ?_
    refine l_iload hC dL_law_34 4 rfl ?_
    obtain ⟨c1, h⟩ := h
    refine l_sld hC c1 dL_law_36 ?_
    refine l_bipush (v := 31) hC dL_law_37 (by decide) ?_
    refine l_iand hC dL_law_39 ?_
    refine l_topi (fun x2 qx2 => ?_)
    replace h := h x2 qx2
    obtain ⟨J4, hJ4, h⟩ := h
    have KJ4 : ∀ (σ3 : Rh), J4 σ3 → GL p l e s m #[Value.ref b] below meth c (64 + 16 * (k + 1)) (8000 + 2000 * (k + 1)) Q dC dI dA A xa oa ma σ3 1827 [(0, .ref b), (1, .ref xa), (2, .ref ma), (3, .ref oa), (4, .int x)] [] := by
      clear h
      intro σ3 h
      replace h := hJ4 σ3 h
      obtain ⟨x5, qx5⟩ : ∃ z : Int32, z = x + 6 := ⟨_, rfl⟩
      replace h := h x5 qx5
      refine l_iinc (v := x5) (lv' := [(4, .int x5), (0, .ref b), (1, .ref xa), (2, .ref ma), (3, .ref oa)]) hC dL_law_1827 (k := 4) rfl (by rw [qx5]; rfl) (by decide) rfl ?_
      refine l_goto (tgt := 23) hC dL_law_1830 (by decide) ?_
      refine l_lvs [1, 2, 3, 4, 0] rfl ?_
      exact hR (σ3, x5) h (k + 1) (by rw [qx5, hx]; exact l_6 k) (l_kb hN hk hx hq)
    rcases l_sw x2 with z | z | z | z | z | z | z | z | z | z | z | z | z | z | z | z | z | z | z | z | z | z | z | z
    · replace h := h.1 z
      rw [z]
      refine l_tin (tgt := 148) (off := 108) hC dL_law_40 (by decide) (by decide) (by decide +kernel) (by decide) ?_
      refine l_aload_n hC dL_law_148 rfl 1 rfl ?_
      refine l_aload_n hC dL_law_149 rfl 0 rfl ?_
      refine l_iload hC dL_law_150 4 rfl ?_
      refine l_iconst (v := 1) hC dL_law_152 (by decide) ?_
      refine l_iadd hC dL_law_153 ?_
      obtain ⟨c6, h⟩ := h
      refine l_sld hC c6 dL_law_154 ?_
      refine l_aload_n hC dL_law_155 rfl 3 rfl ?_
      refine l_wcall (n := 3) hC [.ref xa, .int (xs (x + 1).toNatClampNeg), .ref oa] (fun α sz => cm_L_pass l hlf dC dI dA _ α _ (xs (x + 1).toNatClampNeg) _ h sz) (fun α h0 h17 => by rw [← h0, ← h17]; rfl) gL_law_L_pass rfl ⟨rfl, rfl⟩ (by decide +kernel) ⟨Nat.le_of_ble_eq_true rfl, Nat.le_of_ble_eq_true rfl⟩ rfl rfl ⟨by show _ ≤ 601024; omega, by show _ ≤ 7293034; omega⟩ dL_law_156 (fun x7 σ8 L9 hn => ?_)
      clear h
      revert hn
      intro h
      refine l_topm (fun ρ10 qρ10 => ?_)
      replace h := h ρ10 qρ10
      refine l_istore (lv' := [(5, .int x7), (0, .ref b), (1, .ref xa), (2, .ref ma), (3, .ref oa), (4, .int x)]) hC dL_law_159 (by decide) rfl ?_
      refine l_aload_n hC dL_law_161 rfl 3 rfl ?_
      refine l_aload_n hC dL_law_162 rfl 1 rfl ?_
      refine l_iload hC dL_law_163 5 rfl ?_
      refine l_iconst (v := 1) hC dL_law_165 (by decide) ?_
      refine l_iadd hC dL_law_166 ?_
      obtain ⟨c11, h⟩ := h
      refine l_sld hC c11 dL_law_167 ?_
      refine l_mcalli (n := 1) hC [.int (xs (x + 1).toNatClampNeg)] [] (fun β sz => cm_X7_pass l dC dI dA β _ (xs (x + 1).toNatClampNeg) _ h sz) gL_law_X7_pass rfl ⟨rfl, rfl⟩ (by decide +kernel) ⟨Nat.le_of_ble_eq_true rfl, Nat.le_of_ble_eq_true rfl⟩ rfl rfl (Nat.le_of_ble_eq_true rfl) ⟨by show _ ≤ 601024; omega, by show _ ≤ 7293034; omega⟩ dL_law_168 (fun x12 τ13 hn => ?_)
      clear h
      revert hn
      intro h
      refine l_topm (fun ρ14 qρ14 => ?_)
      replace h := h ρ14 qρ14
      refine l_istore (lv' := [(6, .int x12), (5, .int x7), (0, .ref b), (1, .ref xa), (2, .ref ma), (3, .ref oa), (4, .int x)]) hC dL_law_171 (by decide) rfl ?_
      refine l_aload_n hC dL_law_173 rfl 4 rfl ?_
      refine l_mcalli (n := 0) hC [] [] (fun β sz => cm_X7_thrown l dC dI dA β _  _ h sz) gL_law_X7_thrown rfl ⟨rfl, rfl⟩ (by decide +kernel) ⟨Nat.le_of_ble_eq_true rfl, Nat.le_of_ble_eq_true rfl⟩ rfl rfl (Nat.le_of_ble_eq_true rfl) ⟨by show _ ≤ 601024; omega, by show _ ≤ 7293034; omega⟩ dL_law_174 (fun x15 τ16 hn => ?_)
      clear h
      revert hn
      intro h
      refine l_topm (fun ρ17 qρ17 => ?_)
      replace h := h ρ17 qρ17
      refine l_iload hC dL_law_177 1 rfl ?_
      refine l_icmp_eq (tgt := 184) hC dL_law_179 (by decide) (fun q => ?_) (fun q => ?_)
      · replace h := h.1 q
        refine l_iload hC dL_law_184 1 rfl ?_
        obtain ⟨J19, hJ19, h⟩ := h
        have KJ19 : ∀ (σ18 : Rh), J19 σ18 → GL p l e s m #[Value.ref b] below meth c (64 + 16 * k + 16) (8000 + 2000 * k + 2000) Q dC dI dA A xa oa ma σ18 201 [(0, .ref b), (1, .ref xa), (2, .ref ma), (3, .ref oa), (4, .int x)] [] := by
          clear h
          intro σ18 h
          replace h := hJ19 σ18 h
          refine l_goto (tgt := 1827) hC dL_law_201 (by decide) ?_
          refine l_widen (cells' := 64 + 16 * (k + 1)) (slots' := 8000 + 2000 * (k + 1)) (by omega) (by omega) ?_
          exact KJ4 σ18 h
        refine l_if_ne (tgt := 201) hC dL_law_186 (by decide) (fun q => ?_) (fun q => ?_)
        · replace h := h.1 q
          refine l_lvs [2, 3, 4, 5, 6] rfl ?_
          exact KJ19 ρ17 h
        · replace h := h.2 q
          refine l_aload_n hC dL_law_189 rfl 5 rfl ?_
          refine l_iconst (v := 0) hC dL_law_190 (by decide) ?_
          obtain ⟨c20, h⟩ := h
          refine l_lald hC c20 dL_law_191 ?_
          refine l_iload hC dL_law_192 0 rfl ?_
          refine l_i2l hC dL_law_194 ?_
          refine l_lcmp_eq (tgt := 201) hC dL_law_195 dL_law_196 (by decide) (fun q => ?_) (fun q => ?_)
          · replace h := h.1 q
            refine l_lvs [2, 3, 4, 5, 6] rfl ?_
            exact KJ19 ρ17 h
          · replace h := h.2 q
            refine l_iconst (v := 0) hC dL_law_199 (by decide) ?_
            exact h.elim
      · replace h := h.2 q
        refine l_iconst (v := 0) hC dL_law_182 (by decide) ?_
        exact h.elim
    · replace h := h.2.1 z
      rw [z]
      refine l_tin (tgt := 204) (off := 164) hC dL_law_40 (by decide) (by decide) (by decide +kernel) (by decide) ?_
      refine l_aload_n hC dL_law_204 rfl 1 rfl ?_
      refine l_aload_n hC dL_law_205 rfl 0 rfl ?_
      refine l_iload hC dL_law_206 4 rfl ?_
      refine l_iconst (v := 1) hC dL_law_208 (by decide) ?_
      refine l_iadd hC dL_law_209 ?_
      obtain ⟨c21, h⟩ := h
      refine l_sld hC c21 dL_law_210 ?_
      refine l_aload_n hC dL_law_211 rfl 0 rfl ?_
      refine l_iload hC dL_law_212 4 rfl ?_
      refine l_iconst (v := 2) hC dL_law_214 (by decide) ?_
      refine l_iadd hC dL_law_215 ?_
      obtain ⟨c22, h⟩ := h
      refine l_sld hC c22 dL_law_216 ?_
      refine l_aload_n hC dL_law_217 rfl 3 rfl ?_
      refine l_wcall (n := 4) hC [.ref xa, .int (xs (x + 1).toNatClampNeg), .int (xs (x + 2).toNatClampNeg), .ref oa] (fun α sz => cm_L_tract l hlf dC dI dA _ α _ (xs (x + 1).toNatClampNeg) (xs (x + 2).toNatClampNeg) _ h sz) (fun α h0 h17 => by rw [← h0, ← h17]; rfl) gL_law_L_tract rfl ⟨rfl, rfl⟩ (by decide +kernel) ⟨Nat.le_of_ble_eq_true rfl, Nat.le_of_ble_eq_true rfl⟩ rfl rfl ⟨by show _ ≤ 601024; omega, by show _ ≤ 7293034; omega⟩ dL_law_218 (fun x23 σ24 L25 hn => ?_)
      clear h
      revert hn
      intro h
      refine l_topm (fun ρ26 qρ26 => ?_)
      replace h := h ρ26 qρ26
      refine l_istore (lv' := [(5, .int x23), (0, .ref b), (1, .ref xa), (2, .ref ma), (3, .ref oa), (4, .int x)]) hC dL_law_221 (by decide) rfl ?_
      refine l_aload_n hC dL_law_223 rfl 3 rfl ?_
      refine l_aload_n hC dL_law_224 rfl 1 rfl ?_
      refine l_iload hC dL_law_225 5 rfl ?_
      refine l_iconst (v := 1) hC dL_law_227 (by decide) ?_
      refine l_iadd hC dL_law_228 ?_
      obtain ⟨c27, h⟩ := h
      refine l_sld hC c27 dL_law_229 ?_
      refine l_aload_n hC dL_law_230 rfl 1 rfl ?_
      refine l_iload hC dL_law_231 5 rfl ?_
      refine l_iconst (v := 2) hC dL_law_233 (by decide) ?_
      refine l_iadd hC dL_law_234 ?_
      obtain ⟨c28, h⟩ := h
      refine l_sld hC c28 dL_law_235 ?_
      refine l_mcalli (n := 2) hC [.int (xs (x + 1).toNatClampNeg), .int (xs (x + 2).toNatClampNeg)] [] (fun β sz => cm_X7_tract l dC dI dA β _ (xs (x + 1).toNatClampNeg) (xs (x + 2).toNatClampNeg) _ h sz) gL_law_X7_tract rfl ⟨rfl, rfl⟩ (by decide +kernel) ⟨Nat.le_of_ble_eq_true rfl, Nat.le_of_ble_eq_true rfl⟩ rfl rfl (Nat.le_of_ble_eq_true rfl) ⟨by show _ ≤ 601024; omega, by show _ ≤ 7293034; omega⟩ dL_law_236 (fun x29 τ30 hn => ?_)
      clear h
      revert hn
      intro h
      refine l_topm (fun ρ31 qρ31 => ?_)
      replace h := h ρ31 qρ31
      refine l_istore (lv' := [(6, .int x29), (5, .int x23), (0, .ref b), (1, .ref xa), (2, .ref ma), (3, .ref oa), (4, .int x)]) hC dL_law_239 (by decide) rfl ?_
      refine l_aload_n hC dL_law_241 rfl 4 rfl ?_
      refine l_mcalli (n := 0) hC [] [] (fun β sz => cm_X7_thrown l dC dI dA β _  _ h sz) gL_law_X7_thrown rfl ⟨rfl, rfl⟩ (by decide +kernel) ⟨Nat.le_of_ble_eq_true rfl, Nat.le_of_ble_eq_true rfl⟩ rfl rfl (Nat.le_of_ble_eq_true rfl) ⟨by show _ ≤ 601024; omega, by show _ ≤ 7293034; omega⟩ dL_law_242 (fun x32 τ33 hn => ?_)
      clear h
      revert hn
      intro h
      refine l_topm (fun ρ34 qρ34 => ?_)
      replace h := h ρ34 qρ34
      refine l_iload hC dL_law_245 1 rfl ?_
      refine l_icmp_eq (tgt := 252) hC dL_law_247 (by decide) (fun q => ?_) (fun q => ?_)
      · replace h := h.1 q
        refine l_iload hC dL_law_252 1 rfl ?_
        obtain ⟨J36, hJ36, h⟩ := h
        have KJ36 : ∀ (σ35 : Rh), J36 σ35 → GL p l e s m #[Value.ref b] below meth c (64 + 16 * k + 16) (8000 + 2000 * k + 2000) Q dC dI dA A xa oa ma σ35 269 [(0, .ref b), (1, .ref xa), (2, .ref ma), (3, .ref oa), (4, .int x)] [] := by
          clear h
          intro σ35 h
          replace h := hJ36 σ35 h
          refine l_goto (tgt := 1827) hC dL_law_269 (by decide) ?_
          refine l_widen (cells' := 64 + 16 * (k + 1)) (slots' := 8000 + 2000 * (k + 1)) (by omega) (by omega) ?_
          exact KJ4 σ35 h
        refine l_if_ne (tgt := 269) hC dL_law_254 (by decide) (fun q => ?_) (fun q => ?_)
        · replace h := h.1 q
          refine l_lvs [2, 3, 4, 5, 6] rfl ?_
          exact KJ36 ρ34 h
        · replace h := h.2 q
          refine l_aload_n hC dL_law_257 rfl 5 rfl ?_
          refine l_iconst (v := 0) hC dL_law_258 (by decide) ?_
          obtain ⟨c37, h⟩ := h
          refine l_lald hC c37 dL_law_259 ?_
          refine l_iload hC dL_law_260 0 rfl ?_
          refine l_i2l hC dL_law_262 ?_
          refine l_lcmp_eq (tgt := 269) hC dL_law_263 dL_law_264 (by decide) (fun q => ?_) (fun q => ?_)
          · replace h := h.1 q
            refine l_lvs [2, 3, 4, 5, 6] rfl ?_
            exact KJ36 ρ34 h
          · replace h := h.2 q
            refine l_iconst (v := 0) hC dL_law_267 (by decide) ?_
            exact h.elim
      · replace h := h.2 q
        refine l_iconst (v := 0) hC dL_law_250 (by decide) ?_
        exact h.elim
    · replace h := h.2.2.1 z
      rw [z]
      refine l_tin (tgt := 272) (off := 232) hC dL_law_40 (by decide) (by decide) (by decide +kernel) (by decide) ?_
      refine l_aload_n hC dL_law_272 rfl 1 rfl ?_
      refine l_aload_n hC dL_law_273 rfl 0 rfl ?_
      refine l_iload hC dL_law_274 4 rfl ?_
      refine l_iconst (v := 1) hC dL_law_276 (by decide) ?_
      refine l_iadd hC dL_law_277 ?_
      obtain ⟨c38, h⟩ := h
      refine l_sld hC c38 dL_law_278 ?_
      refine l_aload_n hC dL_law_279 rfl 0 rfl ?_
      refine l_iload hC dL_law_280 4 rfl ?_
      refine l_iconst (v := 2) hC dL_law_282 (by decide) ?_
      refine l_iadd hC dL_law_283 ?_
      obtain ⟨c39, h⟩ := h
      refine l_sld hC c39 dL_law_284 ?_
      refine l_aload_n hC dL_law_285 rfl 0 rfl ?_
      refine l_iload hC dL_law_286 4 rfl ?_
      refine l_iconst (v := 3) hC dL_law_288 (by decide) ?_
      refine l_iadd hC dL_law_289 ?_
      obtain ⟨c40, h⟩ := h
      refine l_sld hC c40 dL_law_290 ?_
      refine l_aload_n hC dL_law_291 rfl 0 rfl ?_
      refine l_iload hC dL_law_292 4 rfl ?_
      refine l_iconst (v := 4) hC dL_law_294 (by decide) ?_
      refine l_iadd hC dL_law_295 ?_
      obtain ⟨c41, h⟩ := h
      refine l_sld hC c41 dL_law_296 ?_
      refine l_aload_n hC dL_law_297 rfl 0 rfl ?_
      refine l_iload hC dL_law_298 4 rfl ?_
      refine l_iconst (v := 5) hC dL_law_300 (by decide) ?_
      refine l_iadd hC dL_law_301 ?_
      obtain ⟨c42, h⟩ := h
      refine l_sld hC c42 dL_law_302 ?_
      refine l_aload_n hC dL_law_303 rfl 3 rfl ?_
      refine l_wcall (n := 7) hC [.ref xa, .int (xs (x + 1).toNatClampNeg), .int (xs (x + 2).toNatClampNeg), .int (xs (x + 3).toNatClampNeg), .int (xs (x + 4).toNatClampNeg), .int (xs (x + 5).toNatClampNeg), .ref oa] (fun α sz => cm_L_deed l hlf dC dI dA _ α _ (xs (x + 1).toNatClampNeg) (xs (x + 2).toNatClampNeg) (xs (x + 3).toNatClampNeg) (xs (x + 4).toNatClampNeg) (xs (x + 5).toNatClampNeg) _ h sz) (fun α h0 h17 => by rw [← h0, ← h17]; rfl) gL_law_L_deed rfl ⟨rfl, rfl⟩ (by decide +kernel) ⟨Nat.le_of_ble_eq_true rfl, Nat.le_of_ble_eq_true rfl⟩ rfl rfl ⟨by show _ ≤ 601024; omega, by show _ ≤ 7293034; omega⟩ dL_law_304 (fun x43 σ44 L45 hn => ?_)
      clear h
      revert hn
      intro h
      refine l_topm (fun ρ46 qρ46 => ?_)
      replace h := h ρ46 qρ46
      refine l_istore (lv' := [(5, .int x43), (0, .ref b), (1, .ref xa), (2, .ref ma), (3, .ref oa), (4, .int x)]) hC dL_law_307 (by decide) rfl ?_
      refine l_aload_n hC dL_law_309 rfl 3 rfl ?_
      refine l_aload_n hC dL_law_310 rfl 1 rfl ?_
      refine l_iload hC dL_law_311 5 rfl ?_
      refine l_iconst (v := 1) hC dL_law_313 (by decide) ?_
      refine l_iadd hC dL_law_314 ?_
      obtain ⟨c47, h⟩ := h
      refine l_sld hC c47 dL_law_315 ?_
      refine l_aload_n hC dL_law_316 rfl 1 rfl ?_
      refine l_iload hC dL_law_317 5 rfl ?_
      refine l_iconst (v := 2) hC dL_law_319 (by decide) ?_
      refine l_iadd hC dL_law_320 ?_
      obtain ⟨c48, h⟩ := h
      refine l_sld hC c48 dL_law_321 ?_
      refine l_aload_n hC dL_law_322 rfl 1 rfl ?_
      refine l_iload hC dL_law_323 5 rfl ?_
      refine l_iconst (v := 3) hC dL_law_325 (by decide) ?_
      refine l_iadd hC dL_law_326 ?_
      obtain ⟨c49, h⟩ := h
      refine l_sld hC c49 dL_law_327 ?_
      refine l_aload_n hC dL_law_328 rfl 1 rfl ?_
      refine l_iload hC dL_law_329 5 rfl ?_
      refine l_iconst (v := 4) hC dL_law_331 (by decide) ?_
      refine l_iadd hC dL_law_332 ?_
      obtain ⟨c50, h⟩ := h
      refine l_sld hC c50 dL_law_333 ?_
      refine l_aload_n hC dL_law_334 rfl 1 rfl ?_
      refine l_iload hC dL_law_335 5 rfl ?_
      refine l_iconst (v := 5) hC dL_law_337 (by decide) ?_
      refine l_iadd hC dL_law_338 ?_
      obtain ⟨c51, h⟩ := h
      refine l_sld hC c51 dL_law_339 ?_
      refine l_mcalli (n := 5) hC [.int (xs (x + 1).toNatClampNeg), .int (xs (x + 2).toNatClampNeg), .int (xs (x + 3).toNatClampNeg), .int (xs (x + 4).toNatClampNeg), .int (xs (x + 5).toNatClampNeg)] [] (fun β sz => cm_X7_deed l dC dI dA β _ (xs (x + 1).toNatClampNeg) (xs (x + 2).toNatClampNeg) (xs (x + 3).toNatClampNeg) (xs (x + 4).toNatClampNeg) (xs (x + 5).toNatClampNeg) _ h sz) gL_law_X7_deed rfl ⟨rfl, rfl⟩ (by decide +kernel) ⟨Nat.le_of_ble_eq_true rfl, Nat.le_of_ble_eq_true rfl⟩ rfl rfl (Nat.le_of_ble_eq_true rfl) ⟨by show _ ≤ 601024; omega, by show _ ≤ 7293034; omega⟩ dL_law_340 (fun x52 τ53 hn => ?_)
      clear h
      revert hn
      intro h
      refine l_topm (fun ρ54 qρ54 => ?_)
      replace h := h ρ54 qρ54
      refine l_istore (lv' := [(6, .int x52), (5, .int x43), (0, .ref b), (1, .ref xa), (2, .ref ma), (3, .ref oa), (4, .int x)]) hC dL_law_343 (by decide) rfl ?_
      refine l_aload_n hC dL_law_345 rfl 4 rfl ?_
      refine l_mcalli (n := 0) hC [] [] (fun β sz => cm_X7_thrown l dC dI dA β _  _ h sz) gL_law_X7_thrown rfl ⟨rfl, rfl⟩ (by decide +kernel) ⟨Nat.le_of_ble_eq_true rfl, Nat.le_of_ble_eq_true rfl⟩ rfl rfl (Nat.le_of_ble_eq_true rfl) ⟨by show _ ≤ 601024; omega, by show _ ≤ 7293034; omega⟩ dL_law_346 (fun x55 τ56 hn => ?_)
      clear h
      revert hn
      intro h
      refine l_topm (fun ρ57 qρ57 => ?_)
      replace h := h ρ57 qρ57
      refine l_iload hC dL_law_349 1 rfl ?_
      refine l_icmp_eq (tgt := 356) hC dL_law_351 (by decide) (fun q => ?_) (fun q => ?_)
      · replace h := h.1 q
        refine l_iload hC dL_law_356 1 rfl ?_
        obtain ⟨J59, hJ59, h⟩ := h
        have KJ59 : ∀ (σ58 : Rh), J59 σ58 → GL p l e s m #[Value.ref b] below meth c (64 + 16 * k + 16) (8000 + 2000 * k + 2000) Q dC dI dA A xa oa ma σ58 373 [(0, .ref b), (1, .ref xa), (2, .ref ma), (3, .ref oa), (4, .int x)] [] := by
          clear h
          intro σ58 h
          replace h := hJ59 σ58 h
          refine l_goto (tgt := 1827) hC dL_law_373 (by decide) ?_
          refine l_widen (cells' := 64 + 16 * (k + 1)) (slots' := 8000 + 2000 * (k + 1)) (by omega) (by omega) ?_
          exact KJ4 σ58 h
        refine l_if_ne (tgt := 373) hC dL_law_358 (by decide) (fun q => ?_) (fun q => ?_)
        · replace h := h.1 q
          refine l_lvs [2, 3, 4, 5, 6] rfl ?_
          exact KJ59 ρ57 h
        · replace h := h.2 q
          refine l_aload_n hC dL_law_361 rfl 5 rfl ?_
          refine l_iconst (v := 0) hC dL_law_362 (by decide) ?_
          obtain ⟨c60, h⟩ := h
          refine l_lald hC c60 dL_law_363 ?_
          refine l_iload hC dL_law_364 0 rfl ?_
          refine l_i2l hC dL_law_366 ?_
          refine l_lcmp_eq (tgt := 373) hC dL_law_367 dL_law_368 (by decide) (fun q => ?_) (fun q => ?_)
          · replace h := h.1 q
            refine l_lvs [2, 3, 4, 5, 6] rfl ?_
            exact KJ59 ρ57 h
          · replace h := h.2 q
            refine l_iconst (v := 0) hC dL_law_371 (by decide) ?_
            exact h.elim
      · replace h := h.2 q
        refine l_iconst (v := 0) hC dL_law_354 (by decide) ?_
        exact h.elim
    · replace h := h.2.2.2.1 z
      rw [z]
      refine l_tin (tgt := 376) (off := 336) hC dL_law_40 (by decide) (by decide) (by decide +kernel) (by decide) ?_
      refine l_aload_n hC dL_law_376 rfl 1 rfl ?_
      refine l_aload_n hC dL_law_377 rfl 0 rfl ?_
      refine l_iload hC dL_law_378 4 rfl ?_
      refine l_iconst (v := 1) hC dL_law_380 (by decide) ?_
      refine l_iadd hC dL_law_381 ?_
      obtain ⟨c61, h⟩ := h
      refine l_sld hC c61 dL_law_382 ?_
      refine l_aload_n hC dL_law_383 rfl 0 rfl ?_
      refine l_iload hC dL_law_384 4 rfl ?_
      refine l_iconst (v := 2) hC dL_law_386 (by decide) ?_
      refine l_iadd hC dL_law_387 ?_
      obtain ⟨c62, h⟩ := h
      refine l_sld hC c62 dL_law_388 ?_
      refine l_aload_n hC dL_law_389 rfl 0 rfl ?_
      refine l_iload hC dL_law_390 4 rfl ?_
      refine l_iconst (v := 3) hC dL_law_392 (by decide) ?_
      refine l_iadd hC dL_law_393 ?_
      obtain ⟨c63, h⟩ := h
      refine l_sld hC c63 dL_law_394 ?_
      refine l_aload_n hC dL_law_395 rfl 3 rfl ?_
      refine l_wcall (n := 5) hC [.ref xa, .int (xs (x + 1).toNatClampNeg), .int (xs (x + 2).toNatClampNeg), .int (xs (x + 3).toNatClampNeg), .ref oa] (fun α sz => cm_L_title l hlf dC dI dA _ α _ (xs (x + 1).toNatClampNeg) (xs (x + 2).toNatClampNeg) (xs (x + 3).toNatClampNeg) _ h sz) (fun α h0 h17 => by rw [← h0, ← h17]; rfl) gL_law_L_title rfl ⟨rfl, rfl⟩ (by decide +kernel) ⟨Nat.le_of_ble_eq_true rfl, Nat.le_of_ble_eq_true rfl⟩ rfl rfl ⟨by show _ ≤ 601024; omega, by show _ ≤ 7293034; omega⟩ dL_law_396 (fun x64 σ65 L66 hn => ?_)
      clear h
      revert hn
      intro h
      refine l_topm (fun ρ67 qρ67 => ?_)
      replace h := h ρ67 qρ67
      refine l_istore (lv' := [(5, .int x64), (0, .ref b), (1, .ref xa), (2, .ref ma), (3, .ref oa), (4, .int x)]) hC dL_law_399 (by decide) rfl ?_
      refine l_aload_n hC dL_law_401 rfl 3 rfl ?_
      refine l_aload_n hC dL_law_402 rfl 1 rfl ?_
      refine l_iload hC dL_law_403 5 rfl ?_
      refine l_iconst (v := 1) hC dL_law_405 (by decide) ?_
      refine l_iadd hC dL_law_406 ?_
      obtain ⟨c68, h⟩ := h
      refine l_sld hC c68 dL_law_407 ?_
      refine l_aload_n hC dL_law_408 rfl 1 rfl ?_
      refine l_iload hC dL_law_409 5 rfl ?_
      refine l_iconst (v := 2) hC dL_law_411 (by decide) ?_
      refine l_iadd hC dL_law_412 ?_
      obtain ⟨c69, h⟩ := h
      refine l_sld hC c69 dL_law_413 ?_
      refine l_aload_n hC dL_law_414 rfl 1 rfl ?_
      refine l_iload hC dL_law_415 5 rfl ?_
      refine l_iconst (v := 3) hC dL_law_417 (by decide) ?_
      refine l_iadd hC dL_law_418 ?_
      obtain ⟨c70, h⟩ := h
      refine l_sld hC c70 dL_law_419 ?_
      refine l_mcalli (n := 3) hC [.int (xs (x + 1).toNatClampNeg), .int (xs (x + 2).toNatClampNeg), .int (xs (x + 3).toNatClampNeg)] [] (fun β sz => cm_X7_title l dC dI dA β _ (xs (x + 1).toNatClampNeg) (xs (x + 2).toNatClampNeg) (xs (x + 3).toNatClampNeg) _ h sz) gL_law_X7_title rfl ⟨rfl, rfl⟩ (by decide +kernel) ⟨Nat.le_of_ble_eq_true rfl, Nat.le_of_ble_eq_true rfl⟩ rfl rfl (Nat.le_of_ble_eq_true rfl) ⟨by show _ ≤ 601024; omega, by show _ ≤ 7293034; omega⟩ dL_law_420 (fun x71 τ72 hn => ?_)
      clear h
      revert hn
      intro h
      refine l_topm (fun ρ73 qρ73 => ?_)
      replace h := h ρ73 qρ73
      refine l_istore (lv' := [(6, .int x71), (5, .int x64), (0, .ref b), (1, .ref xa), (2, .ref ma), (3, .ref oa), (4, .int x)]) hC dL_law_423 (by decide) rfl ?_
      refine l_aload_n hC dL_law_425 rfl 4 rfl ?_
      refine l_mcalli (n := 0) hC [] [] (fun β sz => cm_X7_thrown l dC dI dA β _  _ h sz) gL_law_X7_thrown rfl ⟨rfl, rfl⟩ (by decide +kernel) ⟨Nat.le_of_ble_eq_true rfl, Nat.le_of_ble_eq_true rfl⟩ rfl rfl (Nat.le_of_ble_eq_true rfl) ⟨by show _ ≤ 601024; omega, by show _ ≤ 7293034; omega⟩ dL_law_426 (fun x74 τ75 hn => ?_)
      clear h
      revert hn
      intro h
      refine l_topm (fun ρ76 qρ76 => ?_)
      replace h := h ρ76 qρ76
      refine l_iload hC dL_law_429 1 rfl ?_
      refine l_icmp_eq (tgt := 436) hC dL_law_431 (by decide) (fun q => ?_) (fun q => ?_)
      · replace h := h.1 q
        refine l_iload hC dL_law_436 1 rfl ?_
        obtain ⟨J78, hJ78, h⟩ := h
        have KJ78 : ∀ (σ77 : Rh), J78 σ77 → GL p l e s m #[Value.ref b] below meth c (64 + 16 * k + 16) (8000 + 2000 * k + 2000) Q dC dI dA A xa oa ma σ77 453 [(0, .ref b), (1, .ref xa), (2, .ref ma), (3, .ref oa), (4, .int x)] [] := by
          clear h
          intro σ77 h
          replace h := hJ78 σ77 h
          refine l_goto (tgt := 1827) hC dL_law_453 (by decide) ?_
          refine l_widen (cells' := 64 + 16 * (k + 1)) (slots' := 8000 + 2000 * (k + 1)) (by omega) (by omega) ?_
          exact KJ4 σ77 h
        refine l_if_ne (tgt := 453) hC dL_law_438 (by decide) (fun q => ?_) (fun q => ?_)
        · replace h := h.1 q
          refine l_lvs [2, 3, 4, 5, 6] rfl ?_
          exact KJ78 ρ76 h
        · replace h := h.2 q
          refine l_aload_n hC dL_law_441 rfl 5 rfl ?_
          refine l_iconst (v := 0) hC dL_law_442 (by decide) ?_
          obtain ⟨c79, h⟩ := h
          refine l_lald hC c79 dL_law_443 ?_
          refine l_iload hC dL_law_444 0 rfl ?_
          refine l_i2l hC dL_law_446 ?_
          refine l_lcmp_eq (tgt := 453) hC dL_law_447 dL_law_448 (by decide) (fun q => ?_) (fun q => ?_)
          · replace h := h.1 q
            refine l_lvs [2, 3, 4, 5, 6] rfl ?_
            exact KJ78 ρ76 h
          · replace h := h.2 q
            refine l_iconst (v := 0) hC dL_law_451 (by decide) ?_
            exact h.elim
      · replace h := h.2 q
        refine l_iconst (v := 0) hC dL_law_434 (by decide) ?_
        exact h.elim
    · replace h := h.2.2.2.2.1 z
      rw [z]
      refine l_tin (tgt := 456) (off := 416) hC dL_law_40 (by decide) (by decide) (by decide +kernel) (by decide) ?_
      refine l_aload_n hC dL_law_456 rfl 1 rfl ?_
      refine l_aload_n hC dL_law_457 rfl 0 rfl ?_
      refine l_iload hC dL_law_458 4 rfl ?_
      refine l_iconst (v := 1) hC dL_law_460 (by decide) ?_
      refine l_iadd hC dL_law_461 ?_
      obtain ⟨c80, h⟩ := h
      refine l_sld hC c80 dL_law_462 ?_
      refine l_aload_n hC dL_law_463 rfl 0 rfl ?_
      refine l_iload hC dL_law_464 4 rfl ?_
      refine l_iconst (v := 2) hC dL_law_466 (by decide) ?_
      refine l_iadd hC dL_law_467 ?_
      obtain ⟨c81, h⟩ := h
      refine l_sld hC c81 dL_law_468 ?_
      refine l_aload_n hC dL_law_469 rfl 0 rfl ?_
      refine l_iload hC dL_law_470 4 rfl ?_
      refine l_iconst (v := 3) hC dL_law_472 (by decide) ?_
      refine l_iadd hC dL_law_473 ?_
      obtain ⟨c82, h⟩ := h
      refine l_sld hC c82 dL_law_474 ?_
      refine l_aload_n hC dL_law_475 rfl 0 rfl ?_
      refine l_iload hC dL_law_476 4 rfl ?_
      refine l_iconst (v := 4) hC dL_law_478 (by decide) ?_
      refine l_iadd hC dL_law_479 ?_
      obtain ⟨c83, h⟩ := h
      refine l_sld hC c83 dL_law_480 ?_
      refine l_aload_n hC dL_law_481 rfl 0 rfl ?_
      refine l_iload hC dL_law_482 4 rfl ?_
      refine l_iconst (v := 5) hC dL_law_484 (by decide) ?_
      refine l_iadd hC dL_law_485 ?_
      obtain ⟨c84, h⟩ := h
      refine l_sld hC c84 dL_law_486 ?_
      refine l_aload_n hC dL_law_487 rfl 3 rfl ?_
      refine l_wcall (n := 7) hC [.ref xa, .int (xs (x + 1).toNatClampNeg), .int (xs (x + 2).toNatClampNeg), .int (xs (x + 3).toNatClampNeg), .int (xs (x + 4).toNatClampNeg), .int (xs (x + 5).toNatClampNeg), .ref oa] (fun α sz => cm_L_lease l hlf dC dI dA _ α _ (xs (x + 1).toNatClampNeg) (xs (x + 2).toNatClampNeg) (xs (x + 3).toNatClampNeg) (xs (x + 4).toNatClampNeg) (xs (x + 5).toNatClampNeg) _ h sz) (fun α h0 h17 => by rw [← h0, ← h17]; rfl) gL_law_L_lease rfl ⟨rfl, rfl⟩ (by decide +kernel) ⟨Nat.le_of_ble_eq_true rfl, Nat.le_of_ble_eq_true rfl⟩ rfl rfl ⟨by show _ ≤ 601024; omega, by show _ ≤ 7293034; omega⟩ dL_law_488 (fun x85 σ86 L87 hn => ?_)
      clear h
      revert hn
      intro h
      refine l_topm (fun ρ88 qρ88 => ?_)
      replace h := h ρ88 qρ88
      refine l_istore (lv' := [(5, .int x85), (0, .ref b), (1, .ref xa), (2, .ref ma), (3, .ref oa), (4, .int x)]) hC dL_law_491 (by decide) rfl ?_
      refine l_aload_n hC dL_law_493 rfl 3 rfl ?_
      refine l_aload_n hC dL_law_494 rfl 1 rfl ?_
      refine l_iload hC dL_law_495 5 rfl ?_
      refine l_iconst (v := 1) hC dL_law_497 (by decide) ?_
      refine l_iadd hC dL_law_498 ?_
      obtain ⟨c89, h⟩ := h
      refine l_sld hC c89 dL_law_499 ?_
      refine l_aload_n hC dL_law_500 rfl 1 rfl ?_
      refine l_iload hC dL_law_501 5 rfl ?_
      refine l_iconst (v := 2) hC dL_law_503 (by decide) ?_
      refine l_iadd hC dL_law_504 ?_
      obtain ⟨c90, h⟩ := h
      refine l_sld hC c90 dL_law_505 ?_
      refine l_aload_n hC dL_law_506 rfl 1 rfl ?_
      refine l_iload hC dL_law_507 5 rfl ?_
      refine l_iconst (v := 3) hC dL_law_509 (by decide) ?_
      refine l_iadd hC dL_law_510 ?_
      obtain ⟨c91, h⟩ := h
      refine l_sld hC c91 dL_law_511 ?_
      refine l_aload_n hC dL_law_512 rfl 1 rfl ?_
      refine l_iload hC dL_law_513 5 rfl ?_
      refine l_iconst (v := 4) hC dL_law_515 (by decide) ?_
      refine l_iadd hC dL_law_516 ?_
      obtain ⟨c92, h⟩ := h
      refine l_sld hC c92 dL_law_517 ?_
      refine l_aload_n hC dL_law_518 rfl 1 rfl ?_
      refine l_iload hC dL_law_519 5 rfl ?_
      refine l_iconst (v := 5) hC dL_law_521 (by decide) ?_
      refine l_iadd hC dL_law_522 ?_
      obtain ⟨c93, h⟩ := h
      refine l_sld hC c93 dL_law_523 ?_
      refine l_mcalli (n := 5) hC [.int (xs (x + 1).toNatClampNeg), .int (xs (x + 2).toNatClampNeg), .int (xs (x + 3).toNatClampNeg), .int (xs (x + 4).toNatClampNeg), .int (xs (x + 5).toNatClampNeg)] [] (fun β sz => cm_X7_lease l dC dI dA β _ (xs (x + 1).toNatClampNeg) (xs (x + 2).toNatClampNeg) (xs (x + 3).toNatClampNeg) (xs (x + 4).toNatClampNeg) (xs (x + 5).toNatClampNeg) _ h sz) gL_law_X7_lease rfl ⟨rfl, rfl⟩ (by decide +kernel) ⟨Nat.le_of_ble_eq_true rfl, Nat.le_of_ble_eq_true rfl⟩ rfl rfl (Nat.le_of_ble_eq_true rfl) ⟨by show _ ≤ 601024; omega, by show _ ≤ 7293034; omega⟩ dL_law_524 (fun x94 τ95 hn => ?_)
      clear h
      revert hn
      intro h
      refine l_topm (fun ρ96 qρ96 => ?_)
      replace h := h ρ96 qρ96
      refine l_istore (lv' := [(6, .int x94), (5, .int x85), (0, .ref b), (1, .ref xa), (2, .ref ma), (3, .ref oa), (4, .int x)]) hC dL_law_527 (by decide) rfl ?_
      refine l_aload_n hC dL_law_529 rfl 4 rfl ?_
      refine l_mcalli (n := 0) hC [] [] (fun β sz => cm_X7_thrown l dC dI dA β _  _ h sz) gL_law_X7_thrown rfl ⟨rfl, rfl⟩ (by decide +kernel) ⟨Nat.le_of_ble_eq_true rfl, Nat.le_of_ble_eq_true rfl⟩ rfl rfl (Nat.le_of_ble_eq_true rfl) ⟨by show _ ≤ 601024; omega, by show _ ≤ 7293034; omega⟩ dL_law_530 (fun x97 τ98 hn => ?_)
      clear h
      revert hn
      intro h
      refine l_topm (fun ρ99 qρ99 => ?_)
      replace h := h ρ99 qρ99
      refine l_iload hC dL_law_533 1 rfl ?_
      refine l_icmp_eq (tgt := 540) hC dL_law_535 (by decide) (fun q => ?_) (fun q => ?_)
      · replace h := h.1 q
        refine l_iload hC dL_law_540 1 rfl ?_
        obtain ⟨J101, hJ101, h⟩ := h
        have KJ101 : ∀ (σ100 : Rh), J101 σ100 → GL p l e s m #[Value.ref b] below meth c (64 + 16 * k + 16) (8000 + 2000 * k + 2000) Q dC dI dA A xa oa ma σ100 557 [(0, .ref b), (1, .ref xa), (2, .ref ma), (3, .ref oa), (4, .int x)] [] := by
          clear h
          intro σ100 h
          replace h := hJ101 σ100 h
          refine l_goto (tgt := 1827) hC dL_law_557 (by decide) ?_
          refine l_widen (cells' := 64 + 16 * (k + 1)) (slots' := 8000 + 2000 * (k + 1)) (by omega) (by omega) ?_
          exact KJ4 σ100 h
        refine l_if_ne (tgt := 557) hC dL_law_542 (by decide) (fun q => ?_) (fun q => ?_)
        · replace h := h.1 q
          refine l_lvs [2, 3, 4, 5, 6] rfl ?_
          exact KJ101 ρ99 h
        · replace h := h.2 q
          refine l_aload_n hC dL_law_545 rfl 5 rfl ?_
          refine l_iconst (v := 0) hC dL_law_546 (by decide) ?_
          obtain ⟨c102, h⟩ := h
          refine l_lald hC c102 dL_law_547 ?_
          refine l_iload hC dL_law_548 0 rfl ?_
          refine l_i2l hC dL_law_550 ?_
          refine l_lcmp_eq (tgt := 557) hC dL_law_551 dL_law_552 (by decide) (fun q => ?_) (fun q => ?_)
          · replace h := h.1 q
            refine l_lvs [2, 3, 4, 5, 6] rfl ?_
            exact KJ101 ρ99 h
          · replace h := h.2 q
            refine l_iconst (v := 0) hC dL_law_555 (by decide) ?_
            exact h.elim
      · replace h := h.2 q
        refine l_iconst (v := 0) hC dL_law_538 (by decide) ?_
        exact h.elim
    · replace h := h.2.2.2.2.2.1 z
      rw [z]
      refine l_tin (tgt := 560) (off := 520) hC dL_law_40 (by decide) (by decide) (by decide +kernel) (by decide) ?_
      refine l_aload_n hC dL_law_560 rfl 1 rfl ?_
      refine l_aload_n hC dL_law_561 rfl 0 rfl ?_
      refine l_iload hC dL_law_562 4 rfl ?_
      refine l_iconst (v := 1) hC dL_law_564 (by decide) ?_
      refine l_iadd hC dL_law_565 ?_
      obtain ⟨c103, h⟩ := h
      refine l_sld hC c103 dL_law_566 ?_
      refine l_aload_n hC dL_law_567 rfl 0 rfl ?_
      refine l_iload hC dL_law_568 4 rfl ?_
      refine l_iconst (v := 2) hC dL_law_570 (by decide) ?_
      refine l_iadd hC dL_law_571 ?_
      obtain ⟨c104, h⟩ := h
      refine l_sld hC c104 dL_law_572 ?_
      refine l_aload_n hC dL_law_573 rfl 3 rfl ?_
      refine l_wcall (n := 4) hC [.ref xa, .int (xs (x + 1).toNatClampNeg), .int (xs (x + 2).toNatClampNeg), .ref oa] (fun α sz => cm_L_isHeld l hlf dC dI dA _ α _ (xs (x + 1).toNatClampNeg) (xs (x + 2).toNatClampNeg) _ h sz) (fun α h0 h17 => by rw [← h0, ← h17]; rfl) gL_law_L_isHeld rfl ⟨rfl, rfl⟩ (by decide +kernel) ⟨Nat.le_of_ble_eq_true rfl, Nat.le_of_ble_eq_true rfl⟩ rfl rfl ⟨by show _ ≤ 601024; omega, by show _ ≤ 7293034; omega⟩ dL_law_574 (fun x105 σ106 L107 hn => ?_)
      clear h
      revert hn
      intro h
      refine l_topm (fun ρ108 qρ108 => ?_)
      replace h := h ρ108 qρ108
      refine l_istore (lv' := [(5, .int x105), (0, .ref b), (1, .ref xa), (2, .ref ma), (3, .ref oa), (4, .int x)]) hC dL_law_577 (by decide) rfl ?_
      refine l_aload_n hC dL_law_579 rfl 3 rfl ?_
      refine l_aload_n hC dL_law_580 rfl 1 rfl ?_
      refine l_iload hC dL_law_581 5 rfl ?_
      refine l_iconst (v := 1) hC dL_law_583 (by decide) ?_
      refine l_iadd hC dL_law_584 ?_
      obtain ⟨c109, h⟩ := h
      refine l_sld hC c109 dL_law_585 ?_
      refine l_aload_n hC dL_law_586 rfl 1 rfl ?_
      refine l_iload hC dL_law_587 5 rfl ?_
      refine l_iconst (v := 2) hC dL_law_589 (by decide) ?_
      refine l_iadd hC dL_law_590 ?_
      obtain ⟨c110, h⟩ := h
      refine l_sld hC c110 dL_law_591 ?_
      refine l_mcalli (n := 2) hC [.int (xs (x + 1).toNatClampNeg), .int (xs (x + 2).toNatClampNeg)] [] (fun β sz => cm_X7_isHeld l dC dI dA β _ (xs (x + 1).toNatClampNeg) (xs (x + 2).toNatClampNeg) _ h sz) gL_law_X7_isHeld rfl ⟨rfl, rfl⟩ (by decide +kernel) ⟨Nat.le_of_ble_eq_true rfl, Nat.le_of_ble_eq_true rfl⟩ rfl rfl (Nat.le_of_ble_eq_true rfl) ⟨by show _ ≤ 601024; omega, by show _ ≤ 7293034; omega⟩ dL_law_592 (fun x111 τ112 hn => ?_)
      clear h
      revert hn
      intro h
      refine l_topm (fun ρ113 qρ113 => ?_)
      replace h := h ρ113 qρ113
      refine l_istore (lv' := [(6, .int x111), (5, .int x105), (0, .ref b), (1, .ref xa), (2, .ref ma), (3, .ref oa), (4, .int x)]) hC dL_law_595 (by decide) rfl ?_
      refine l_aload_n hC dL_law_597 rfl 4 rfl ?_
      refine l_mcalli (n := 0) hC [] [] (fun β sz => cm_X7_thrown l dC dI dA β _  _ h sz) gL_law_X7_thrown rfl ⟨rfl, rfl⟩ (by decide +kernel) ⟨Nat.le_of_ble_eq_true rfl, Nat.le_of_ble_eq_true rfl⟩ rfl rfl (Nat.le_of_ble_eq_true rfl) ⟨by show _ ≤ 601024; omega, by show _ ≤ 7293034; omega⟩ dL_law_598 (fun x114 τ115 hn => ?_)
      clear h
      revert hn
      intro h
      refine l_topm (fun ρ116 qρ116 => ?_)
      replace h := h ρ116 qρ116
      refine l_iload hC dL_law_601 1 rfl ?_
      refine l_icmp_eq (tgt := 608) hC dL_law_603 (by decide) (fun q => ?_) (fun q => ?_)
      · replace h := h.1 q
        refine l_iload hC dL_law_608 1 rfl ?_
        obtain ⟨J118, hJ118, h⟩ := h
        have KJ118 : ∀ (σ117 : Rh), J118 σ117 → GL p l e s m #[Value.ref b] below meth c (64 + 16 * k + 16) (8000 + 2000 * k + 2000) Q dC dI dA A xa oa ma σ117 632 [(0, .ref b), (1, .ref xa), (2, .ref ma), (3, .ref oa), (4, .int x)] [] := by
          clear h
          intro σ117 h
          replace h := hJ118 σ117 h
          refine l_goto (tgt := 1827) hC dL_law_632 (by decide) ?_
          refine l_widen (cells' := 64 + 16 * (k + 1)) (slots' := 8000 + 2000 * (k + 1)) (by omega) (by omega) ?_
          exact KJ4 σ117 h
        refine l_if_ne (tgt := 632) hC dL_law_610 (by decide) (fun q => ?_) (fun q => ?_)
        · replace h := h.1 q
          refine l_lvs [2, 3, 4, 5, 6] rfl ?_
          exact KJ118 ρ116 h
        · replace h := h.2 q
          refine l_aload_n hC dL_law_613 rfl 5 rfl ?_
          refine l_iconst (v := 0) hC dL_law_614 (by decide) ?_
          obtain ⟨c119, h⟩ := h
          refine l_lald hC c119 dL_law_615 ?_
          refine l_iload hC dL_law_616 0 rfl ?_
          obtain ⟨J122, hJ122, h⟩ := h
          have KJ122 : ∀ (σ120 : Rh) (y121 : Int64), J122 σ120 y121 → GL p l e s m #[Value.ref b] below meth c (64 + 16 * k + 16) (8000 + 2000 * k + 2000) Q dC dI dA A xa oa ma σ120 626 [(0, .ref b), (1, .ref xa), (2, .ref ma), (3, .ref oa), (4, .int x)] [.long y121, .long (gJ ρ116.1 17 (0 : Int32).toNatClampNeg)] := by
            clear h
            intro σ120 y121 h
            replace h := hJ122 σ120 y121 h
            refine l_lcmp_eq (tgt := 632) hC dL_law_626 dL_law_627 (by decide) (fun q => ?_) (fun q => ?_)
            · replace h := h.1 q
              exact KJ118 σ120 h
            · replace h := h.2 q
              refine l_iconst (v := 0) hC dL_law_630 (by decide) ?_
              exact h.elim
          refine l_if_eq (tgt := 625) hC dL_law_618 (by decide) (fun q => ?_) (fun q => ?_)
          · replace h := h.1 q
            refine l_lconst (v := 0) hC dL_law_625 (by decide) ?_
            refine l_lvs [2, 3, 4, 5, 6] rfl ?_
            exact KJ122 ρ116 0 h
          · replace h := h.2 q
            refine l_lconst (v := 1) hC dL_law_621 (by decide) ?_
            refine l_goto (tgt := 626) hC dL_law_622 (by decide) ?_
            refine l_lvs [2, 3, 4, 5, 6] rfl ?_
            exact KJ122 ρ116 1 h
      · replace h := h.2 q
        refine l_iconst (v := 0) hC dL_law_606 (by decide) ?_
        exact h.elim
    · replace h := h.2.2.2.2.2.2.1 z
      rw [z]
      refine l_tin (tgt := 635) (off := 595) hC dL_law_40 (by decide) (by decide) (by decide +kernel) (by decide) ?_
      refine l_aload_n hC dL_law_635 rfl 1 rfl ?_
      refine l_aload_n hC dL_law_636 rfl 0 rfl ?_
      refine l_iload hC dL_law_637 4 rfl ?_
      refine l_iconst (v := 1) hC dL_law_639 (by decide) ?_
      refine l_iadd hC dL_law_640 ?_
      obtain ⟨c123, h⟩ := h
      refine l_sld hC c123 dL_law_641 ?_
      refine l_aload_n hC dL_law_642 rfl 3 rfl ?_
      refine l_wcall (n := 3) hC [.ref xa, .int (xs (x + 1).toNatClampNeg), .ref oa] (fun α sz => cm_L_unit l hlf dC dI dA _ α _ (xs (x + 1).toNatClampNeg) _ h sz) (fun α h0 h17 => by rw [← h0, ← h17]; rfl) gL_law_L_unit rfl ⟨rfl, rfl⟩ (by decide +kernel) ⟨Nat.le_of_ble_eq_true rfl, Nat.le_of_ble_eq_true rfl⟩ rfl rfl ⟨by show _ ≤ 601024; omega, by show _ ≤ 7293034; omega⟩ dL_law_643 (fun x124 σ125 L126 hn => ?_)
      clear h
      revert hn
      intro h
      refine l_topm (fun ρ127 qρ127 => ?_)
      replace h := h ρ127 qρ127
      refine l_istore (lv' := [(5, .int x124), (0, .ref b), (1, .ref xa), (2, .ref ma), (3, .ref oa), (4, .int x)]) hC dL_law_646 (by decide) rfl ?_
      refine l_aload_n hC dL_law_648 rfl 3 rfl ?_
      refine l_aload_n hC dL_law_649 rfl 1 rfl ?_
      refine l_iload hC dL_law_650 5 rfl ?_
      refine l_iconst (v := 1) hC dL_law_652 (by decide) ?_
      refine l_iadd hC dL_law_653 ?_
      obtain ⟨c128, h⟩ := h
      refine l_sld hC c128 dL_law_654 ?_
      refine l_mcalli (n := 1) hC [.int (xs (x + 1).toNatClampNeg)] [] (fun β sz => cm_X7_unit l dC dI dA β _ (xs (x + 1).toNatClampNeg) _ h sz) gL_law_X7_unit rfl ⟨rfl, rfl⟩ (by decide +kernel) ⟨Nat.le_of_ble_eq_true rfl, Nat.le_of_ble_eq_true rfl⟩ rfl rfl (Nat.le_of_ble_eq_true rfl) ⟨by show _ ≤ 601024; omega, by show _ ≤ 7293034; omega⟩ dL_law_655 (fun x129 τ130 hn => ?_)
      clear h
      revert hn
      intro h
      refine l_topm (fun ρ131 qρ131 => ?_)
      replace h := h ρ131 qρ131
      refine l_istore (lv' := [(6, .int x129), (5, .int x124), (0, .ref b), (1, .ref xa), (2, .ref ma), (3, .ref oa), (4, .int x)]) hC dL_law_658 (by decide) rfl ?_
      refine l_aload_n hC dL_law_660 rfl 4 rfl ?_
      refine l_mcalli (n := 0) hC [] [] (fun β sz => cm_X7_thrown l dC dI dA β _  _ h sz) gL_law_X7_thrown rfl ⟨rfl, rfl⟩ (by decide +kernel) ⟨Nat.le_of_ble_eq_true rfl, Nat.le_of_ble_eq_true rfl⟩ rfl rfl (Nat.le_of_ble_eq_true rfl) ⟨by show _ ≤ 601024; omega, by show _ ≤ 7293034; omega⟩ dL_law_661 (fun x132 τ133 hn => ?_)
      clear h
      revert hn
      intro h
      refine l_topm (fun ρ134 qρ134 => ?_)
      replace h := h ρ134 qρ134
      refine l_iload hC dL_law_664 1 rfl ?_
      refine l_icmp_eq (tgt := 671) hC dL_law_666 (by decide) (fun q => ?_) (fun q => ?_)
      · replace h := h.1 q
        refine l_iload hC dL_law_671 1 rfl ?_
        obtain ⟨J136, hJ136, h⟩ := h
        have KJ136 : ∀ (σ135 : Rh), J136 σ135 → GL p l e s m #[Value.ref b] below meth c (64 + 16 * k + 16) (8000 + 2000 * k + 2000) Q dC dI dA A xa oa ma σ135 688 [(0, .ref b), (1, .ref xa), (2, .ref ma), (3, .ref oa), (4, .int x)] [] := by
          clear h
          intro σ135 h
          replace h := hJ136 σ135 h
          refine l_goto (tgt := 1827) hC dL_law_688 (by decide) ?_
          refine l_widen (cells' := 64 + 16 * (k + 1)) (slots' := 8000 + 2000 * (k + 1)) (by omega) (by omega) ?_
          exact KJ4 σ135 h
        refine l_if_ne (tgt := 688) hC dL_law_673 (by decide) (fun q => ?_) (fun q => ?_)
        · replace h := h.1 q
          refine l_lvs [2, 3, 4, 5, 6] rfl ?_
          exact KJ136 ρ134 h
        · replace h := h.2 q
          refine l_aload_n hC dL_law_676 rfl 5 rfl ?_
          refine l_iconst (v := 0) hC dL_law_677 (by decide) ?_
          obtain ⟨c137, h⟩ := h
          refine l_lald hC c137 dL_law_678 ?_
          refine l_iload hC dL_law_679 0 rfl ?_
          refine l_i2l hC dL_law_681 ?_
          refine l_lcmp_eq (tgt := 688) hC dL_law_682 dL_law_683 (by decide) (fun q => ?_) (fun q => ?_)
          · replace h := h.1 q
            refine l_lvs [2, 3, 4, 5, 6] rfl ?_
            exact KJ136 ρ134 h
          · replace h := h.2 q
            refine l_iconst (v := 0) hC dL_law_686 (by decide) ?_
            exact h.elim
      · replace h := h.2 q
        refine l_iconst (v := 0) hC dL_law_669 (by decide) ?_
        exact h.elim
    · replace h := h.2.2.2.2.2.2.2.1 z
      rw [z]
      refine l_tin (tgt := 691) (off := 651) hC dL_law_40 (by decide) (by decide) (by decide +kernel) (by decide) ?_
      refine l_aload_n hC dL_law_691 rfl 1 rfl ?_
      refine l_aload_n hC dL_law_692 rfl 0 rfl ?_
      refine l_iload hC dL_law_693 4 rfl ?_
      refine l_iconst (v := 1) hC dL_law_695 (by decide) ?_
      refine l_iadd hC dL_law_696 ?_
      obtain ⟨c138, h⟩ := h
      refine l_sld hC c138 dL_law_697 ?_
      refine l_aload_n hC dL_law_698 rfl 3 rfl ?_
      refine l_wcall (n := 3) hC [.ref xa, .int (xs (x + 1).toNatClampNeg), .ref oa] (fun α sz => cm_L_well l hlf dC dI dA _ α _ (xs (x + 1).toNatClampNeg) _ h sz) (fun α h0 h17 => by rw [← h0, ← h17]; rfl) gL_law_L_well rfl ⟨rfl, rfl⟩ (by decide +kernel) ⟨Nat.le_of_ble_eq_true rfl, Nat.le_of_ble_eq_true rfl⟩ rfl rfl ⟨by show _ ≤ 601024; omega, by show _ ≤ 7293034; omega⟩ dL_law_699 (fun x139 σ140 L141 hn => ?_)
      clear h
      revert hn
      intro h
      refine l_topm (fun ρ142 qρ142 => ?_)
      replace h := h ρ142 qρ142
      refine l_istore (lv' := [(5, .int x139), (0, .ref b), (1, .ref xa), (2, .ref ma), (3, .ref oa), (4, .int x)]) hC dL_law_702 (by decide) rfl ?_
      refine l_aload_n hC dL_law_704 rfl 3 rfl ?_
      refine l_aload_n hC dL_law_705 rfl 1 rfl ?_
      refine l_iload hC dL_law_706 5 rfl ?_
      refine l_iconst (v := 1) hC dL_law_708 (by decide) ?_
      refine l_iadd hC dL_law_709 ?_
      obtain ⟨c143, h⟩ := h
      refine l_sld hC c143 dL_law_710 ?_
      refine l_mcalli (n := 1) hC [.int (xs (x + 1).toNatClampNeg)] [] (fun β sz => cm_X7_well l dC dI dA β _ (xs (x + 1).toNatClampNeg) _ h sz) gL_law_X7_well rfl ⟨rfl, rfl⟩ (by decide +kernel) ⟨Nat.le_of_ble_eq_true rfl, Nat.le_of_ble_eq_true rfl⟩ rfl rfl (Nat.le_of_ble_eq_true rfl) ⟨by show _ ≤ 601024; omega, by show _ ≤ 7293034; omega⟩ dL_law_711 (fun x144 τ145 hn => ?_)
      clear h
      revert hn
      intro h
      refine l_topm (fun ρ146 qρ146 => ?_)
      replace h := h ρ146 qρ146
      refine l_istore (lv' := [(6, .int x144), (5, .int x139), (0, .ref b), (1, .ref xa), (2, .ref ma), (3, .ref oa), (4, .int x)]) hC dL_law_714 (by decide) rfl ?_
      refine l_aload_n hC dL_law_716 rfl 4 rfl ?_
      refine l_mcalli (n := 0) hC [] [] (fun β sz => cm_X7_thrown l dC dI dA β _  _ h sz) gL_law_X7_thrown rfl ⟨rfl, rfl⟩ (by decide +kernel) ⟨Nat.le_of_ble_eq_true rfl, Nat.le_of_ble_eq_true rfl⟩ rfl rfl (Nat.le_of_ble_eq_true rfl) ⟨by show _ ≤ 601024; omega, by show _ ≤ 7293034; omega⟩ dL_law_717 (fun x147 τ148 hn => ?_)
      clear h
      revert hn
      intro h
      refine l_topm (fun ρ149 qρ149 => ?_)
      replace h := h ρ149 qρ149
      refine l_iload hC dL_law_720 1 rfl ?_
      refine l_icmp_eq (tgt := 727) hC dL_law_722 (by decide) (fun q => ?_) (fun q => ?_)
      · replace h := h.1 q
        refine l_iload hC dL_law_727 1 rfl ?_
        obtain ⟨J151, hJ151, h⟩ := h
        have KJ151 : ∀ (σ150 : Rh), J151 σ150 → GL p l e s m #[Value.ref b] below meth c (64 + 16 * k + 16) (8000 + 2000 * k + 2000) Q dC dI dA A xa oa ma σ150 744 [(0, .ref b), (1, .ref xa), (2, .ref ma), (3, .ref oa), (4, .int x)] [] := by
          clear h
          intro σ150 h
          replace h := hJ151 σ150 h
          refine l_goto (tgt := 1827) hC dL_law_744 (by decide) ?_
          refine l_widen (cells' := 64 + 16 * (k + 1)) (slots' := 8000 + 2000 * (k + 1)) (by omega) (by omega) ?_
          exact KJ4 σ150 h
        refine l_if_ne (tgt := 744) hC dL_law_729 (by decide) (fun q => ?_) (fun q => ?_)
        · replace h := h.1 q
          refine l_lvs [2, 3, 4, 5, 6] rfl ?_
          exact KJ151 ρ149 h
        · replace h := h.2 q
          refine l_aload_n hC dL_law_732 rfl 5 rfl ?_
          refine l_iconst (v := 0) hC dL_law_733 (by decide) ?_
          obtain ⟨c152, h⟩ := h
          refine l_lald hC c152 dL_law_734 ?_
          refine l_iload hC dL_law_735 0 rfl ?_
          refine l_i2l hC dL_law_737 ?_
          refine l_lcmp_eq (tgt := 744) hC dL_law_738 dL_law_739 (by decide) (fun q => ?_) (fun q => ?_)
          · replace h := h.1 q
            refine l_lvs [2, 3, 4, 5, 6] rfl ?_
            exact KJ151 ρ149 h
          · replace h := h.2 q
            refine l_iconst (v := 0) hC dL_law_742 (by decide) ?_
            exact h.elim
      · replace h := h.2 q
        refine l_iconst (v := 0) hC dL_law_725 (by decide) ?_
        exact h.elim
    · replace h := h.2.2.2.2.2.2.2.2.1 z
      rw [z]
      refine l_tin (tgt := 747) (off := 707) hC dL_law_40 (by decide) (by decide) (by decide +kernel) (by decide) ?_
      refine l_aload_n hC dL_law_747 rfl 1 rfl ?_
      refine l_aload_n hC dL_law_748 rfl 0 rfl ?_
      refine l_iload hC dL_law_749 4 rfl ?_
      refine l_iconst (v := 1) hC dL_law_751 (by decide) ?_
      refine l_iadd hC dL_law_752 ?_
      obtain ⟨c153, h⟩ := h
      refine l_sld hC c153 dL_law_753 ?_
      refine l_aload_n hC dL_law_754 rfl 0 rfl ?_
      refine l_iload hC dL_law_755 4 rfl ?_
      refine l_iconst (v := 2) hC dL_law_757 (by decide) ?_
      refine l_iadd hC dL_law_758 ?_
      obtain ⟨c154, h⟩ := h
      refine l_sld hC c154 dL_law_759 ?_
      refine l_aload_n hC dL_law_760 rfl 0 rfl ?_
      refine l_iload hC dL_law_761 4 rfl ?_
      refine l_iconst (v := 3) hC dL_law_763 (by decide) ?_
      refine l_iadd hC dL_law_764 ?_
      obtain ⟨c155, h⟩ := h
      refine l_sld hC c155 dL_law_765 ?_
      refine l_aload_n hC dL_law_766 rfl 0 rfl ?_
      refine l_iload hC dL_law_767 4 rfl ?_
      refine l_iconst (v := 4) hC dL_law_769 (by decide) ?_
      refine l_iadd hC dL_law_770 ?_
      obtain ⟨c156, h⟩ := h
      refine l_sld hC c156 dL_law_771 ?_
      refine l_aload_n hC dL_law_772 rfl 3 rfl ?_
      refine l_wcall (n := 6) hC [.ref xa, .int (xs (x + 1).toNatClampNeg), .int (xs (x + 2).toNatClampNeg), .int (xs (x + 3).toNatClampNeg), .int (xs (x + 4).toNatClampNeg), .ref oa] (fun α sz => cm_L_oil l hlf dC dI dA _ α _ (xs (x + 1).toNatClampNeg) (xs (x + 2).toNatClampNeg) (xs (x + 3).toNatClampNeg) (xs (x + 4).toNatClampNeg) _ h sz) (fun α h0 h17 => by rw [← h0, ← h17]; rfl) gL_law_L_oil rfl ⟨rfl, rfl⟩ (by decide +kernel) ⟨Nat.le_of_ble_eq_true rfl, Nat.le_of_ble_eq_true rfl⟩ rfl rfl ⟨by show _ ≤ 601024; omega, by show _ ≤ 7293034; omega⟩ dL_law_773 (fun x157 σ158 L159 hn => ?_)
      clear h
      revert hn
      intro h
      refine l_topm (fun ρ160 qρ160 => ?_)
      replace h := h ρ160 qρ160
      refine l_istore (lv' := [(5, .int x157), (0, .ref b), (1, .ref xa), (2, .ref ma), (3, .ref oa), (4, .int x)]) hC dL_law_776 (by decide) rfl ?_
      refine l_aload_n hC dL_law_778 rfl 3 rfl ?_
      refine l_aload_n hC dL_law_779 rfl 1 rfl ?_
      refine l_iload hC dL_law_780 5 rfl ?_
      refine l_iconst (v := 1) hC dL_law_782 (by decide) ?_
      refine l_iadd hC dL_law_783 ?_
      obtain ⟨c161, h⟩ := h
      refine l_sld hC c161 dL_law_784 ?_
      refine l_aload_n hC dL_law_785 rfl 1 rfl ?_
      refine l_iload hC dL_law_786 5 rfl ?_
      refine l_iconst (v := 2) hC dL_law_788 (by decide) ?_
      refine l_iadd hC dL_law_789 ?_
      obtain ⟨c162, h⟩ := h
      refine l_sld hC c162 dL_law_790 ?_
      refine l_aload_n hC dL_law_791 rfl 1 rfl ?_
      refine l_iload hC dL_law_792 5 rfl ?_
      refine l_iconst (v := 3) hC dL_law_794 (by decide) ?_
      refine l_iadd hC dL_law_795 ?_
      obtain ⟨c163, h⟩ := h
      refine l_sld hC c163 dL_law_796 ?_
      refine l_aload_n hC dL_law_797 rfl 1 rfl ?_
      refine l_iload hC dL_law_798 5 rfl ?_
      refine l_iconst (v := 4) hC dL_law_800 (by decide) ?_
      refine l_iadd hC dL_law_801 ?_
      obtain ⟨c164, h⟩ := h
      refine l_sld hC c164 dL_law_802 ?_
      refine l_mcalli (n := 4) hC [.int (xs (x + 1).toNatClampNeg), .int (xs (x + 2).toNatClampNeg), .int (xs (x + 3).toNatClampNeg), .int (xs (x + 4).toNatClampNeg)] [] (fun β sz => cm_X7_oil l dC dI dA β _ (xs (x + 1).toNatClampNeg) (xs (x + 2).toNatClampNeg) (xs (x + 3).toNatClampNeg) (xs (x + 4).toNatClampNeg) _ h sz) gL_law_X7_oil rfl ⟨rfl, rfl⟩ (by decide +kernel) ⟨Nat.le_of_ble_eq_true rfl, Nat.le_of_ble_eq_true rfl⟩ rfl rfl (Nat.le_of_ble_eq_true rfl) ⟨by show _ ≤ 601024; omega, by show _ ≤ 7293034; omega⟩ dL_law_803 (fun x165 τ166 hn => ?_)
      clear h
      revert hn
      intro h
      refine l_topm (fun ρ167 qρ167 => ?_)
      replace h := h ρ167 qρ167
      refine l_istore (lv' := [(6, .int x165), (5, .int x157), (0, .ref b), (1, .ref xa), (2, .ref ma), (3, .ref oa), (4, .int x)]) hC dL_law_806 (by decide) rfl ?_
      refine l_aload_n hC dL_law_808 rfl 4 rfl ?_
      refine l_mcalli (n := 0) hC [] [] (fun β sz => cm_X7_thrown l dC dI dA β _  _ h sz) gL_law_X7_thrown rfl ⟨rfl, rfl⟩ (by decide +kernel) ⟨Nat.le_of_ble_eq_true rfl, Nat.le_of_ble_eq_true rfl⟩ rfl rfl (Nat.le_of_ble_eq_true rfl) ⟨by show _ ≤ 601024; omega, by show _ ≤ 7293034; omega⟩ dL_law_809 (fun x168 τ169 hn => ?_)
      clear h
      revert hn
      intro h
      refine l_topm (fun ρ170 qρ170 => ?_)
      replace h := h ρ170 qρ170
      refine l_iload hC dL_law_812 1 rfl ?_
      refine l_icmp_eq (tgt := 819) hC dL_law_814 (by decide) (fun q => ?_) (fun q => ?_)
      · replace h := h.1 q
        refine l_iload hC dL_law_819 1 rfl ?_
        obtain ⟨J172, hJ172, h⟩ := h
        have KJ172 : ∀ (σ171 : Rh), J172 σ171 → GL p l e s m #[Value.ref b] below meth c (64 + 16 * k + 16) (8000 + 2000 * k + 2000) Q dC dI dA A xa oa ma σ171 836 [(0, .ref b), (1, .ref xa), (2, .ref ma), (3, .ref oa), (4, .int x)] [] := by
          clear h
          intro σ171 h
          replace h := hJ172 σ171 h
          refine l_goto (tgt := 1827) hC dL_law_836 (by decide) ?_
          refine l_widen (cells' := 64 + 16 * (k + 1)) (slots' := 8000 + 2000 * (k + 1)) (by omega) (by omega) ?_
          exact KJ4 σ171 h
        refine l_if_ne (tgt := 836) hC dL_law_821 (by decide) (fun q => ?_) (fun q => ?_)
        · replace h := h.1 q
          refine l_lvs [2, 3, 4, 5, 6] rfl ?_
          exact KJ172 ρ170 h
        · replace h := h.2 q
          refine l_aload_n hC dL_law_824 rfl 5 rfl ?_
          refine l_iconst (v := 0) hC dL_law_825 (by decide) ?_
          obtain ⟨c173, h⟩ := h
          refine l_lald hC c173 dL_law_826 ?_
          refine l_iload hC dL_law_827 0 rfl ?_
          refine l_i2l hC dL_law_829 ?_
          refine l_lcmp_eq (tgt := 836) hC dL_law_830 dL_law_831 (by decide) (fun q => ?_) (fun q => ?_)
          · replace h := h.1 q
            refine l_lvs [2, 3, 4, 5, 6] rfl ?_
            exact KJ172 ρ170 h
          · replace h := h.2 q
            refine l_iconst (v := 0) hC dL_law_834 (by decide) ?_
            exact h.elim
      · replace h := h.2 q
        refine l_iconst (v := 0) hC dL_law_817 (by decide) ?_
        exact h.elim
    · replace h := h.2.2.2.2.2.2.2.2.2.1 z
      rw [z]
      refine l_tin (tgt := 839) (off := 799) hC dL_law_40 (by decide) (by decide) (by decide +kernel) (by decide) ?_
      refine l_aload_n hC dL_law_839 rfl 1 rfl ?_
      refine l_aload_n hC dL_law_840 rfl 0 rfl ?_
      refine l_iload hC dL_law_841 4 rfl ?_
      refine l_iconst (v := 1) hC dL_law_843 (by decide) ?_
      refine l_iadd hC dL_law_844 ?_
      obtain ⟨c174, h⟩ := h
      refine l_sld hC c174 dL_law_845 ?_
      refine l_aload_n hC dL_law_846 rfl 0 rfl ?_
      refine l_iload hC dL_law_847 4 rfl ?_
      refine l_iconst (v := 2) hC dL_law_849 (by decide) ?_
      refine l_iadd hC dL_law_850 ?_
      obtain ⟨c175, h⟩ := h
      refine l_sld hC c175 dL_law_851 ?_
      refine l_aload_n hC dL_law_852 rfl 0 rfl ?_
      refine l_iload hC dL_law_853 4 rfl ?_
      refine l_iconst (v := 3) hC dL_law_855 (by decide) ?_
      refine l_iadd hC dL_law_856 ?_
      obtain ⟨c176, h⟩ := h
      refine l_sld hC c176 dL_law_857 ?_
      refine l_aload_n hC dL_law_858 rfl 3 rfl ?_
      refine l_wcall (n := 5) hC [.ref xa, .int (xs (x + 1).toNatClampNeg), .int (xs (x + 2).toNatClampNeg), .int (xs (x + 3).toNatClampNeg), .ref oa] (fun α sz => cm_L_cost l hlf dC dI dA _ α _ (xs (x + 1).toNatClampNeg) (xs (x + 2).toNatClampNeg) (xs (x + 3).toNatClampNeg) _ h sz) (fun α h0 h17 => by rw [← h0, ← h17]; rfl) gL_law_L_cost rfl ⟨rfl, rfl⟩ (by decide +kernel) ⟨Nat.le_of_ble_eq_true rfl, Nat.le_of_ble_eq_true rfl⟩ rfl rfl ⟨by show _ ≤ 601024; omega, by show _ ≤ 7293034; omega⟩ dL_law_859 (fun x177 σ178 L179 hn => ?_)
      clear h
      revert hn
      intro h
      refine l_topm (fun ρ180 qρ180 => ?_)
      replace h := h ρ180 qρ180
      refine l_istore (lv' := [(5, .int x177), (0, .ref b), (1, .ref xa), (2, .ref ma), (3, .ref oa), (4, .int x)]) hC dL_law_862 (by decide) rfl ?_
      refine l_aload_n hC dL_law_864 rfl 3 rfl ?_
      refine l_aload_n hC dL_law_865 rfl 1 rfl ?_
      refine l_iload hC dL_law_866 5 rfl ?_
      refine l_iconst (v := 1) hC dL_law_868 (by decide) ?_
      refine l_iadd hC dL_law_869 ?_
      obtain ⟨c181, h⟩ := h
      refine l_sld hC c181 dL_law_870 ?_
      refine l_aload_n hC dL_law_871 rfl 1 rfl ?_
      refine l_iload hC dL_law_872 5 rfl ?_
      refine l_iconst (v := 2) hC dL_law_874 (by decide) ?_
      refine l_iadd hC dL_law_875 ?_
      obtain ⟨c182, h⟩ := h
      refine l_sld hC c182 dL_law_876 ?_
      refine l_aload_n hC dL_law_877 rfl 1 rfl ?_
      refine l_iload hC dL_law_878 5 rfl ?_
      refine l_iconst (v := 3) hC dL_law_880 (by decide) ?_
      refine l_iadd hC dL_law_881 ?_
      obtain ⟨c183, h⟩ := h
      refine l_sld hC c183 dL_law_882 ?_
      refine l_mcalli (n := 3) hC [.int (xs (x + 1).toNatClampNeg), .int (xs (x + 2).toNatClampNeg), .int (xs (x + 3).toNatClampNeg)] [] (fun β sz => cm_X7_cost l dC dI dA β _ (xs (x + 1).toNatClampNeg) (xs (x + 2).toNatClampNeg) (xs (x + 3).toNatClampNeg) _ h sz) gL_law_X7_cost rfl ⟨rfl, rfl⟩ (by decide +kernel) ⟨Nat.le_of_ble_eq_true rfl, Nat.le_of_ble_eq_true rfl⟩ rfl rfl (Nat.le_of_ble_eq_true rfl) ⟨by show _ ≤ 601024; omega, by show _ ≤ 7293034; omega⟩ dL_law_883 (fun x184 τ185 hn => ?_)
      clear h
      revert hn
      intro h
      refine l_topm (fun ρ186 qρ186 => ?_)
      replace h := h ρ186 qρ186
      refine l_istore (lv' := [(6, .int x184), (5, .int x177), (0, .ref b), (1, .ref xa), (2, .ref ma), (3, .ref oa), (4, .int x)]) hC dL_law_886 (by decide) rfl ?_
      refine l_aload_n hC dL_law_888 rfl 4 rfl ?_
      refine l_mcalli (n := 0) hC [] [] (fun β sz => cm_X7_thrown l dC dI dA β _  _ h sz) gL_law_X7_thrown rfl ⟨rfl, rfl⟩ (by decide +kernel) ⟨Nat.le_of_ble_eq_true rfl, Nat.le_of_ble_eq_true rfl⟩ rfl rfl (Nat.le_of_ble_eq_true rfl) ⟨by show _ ≤ 601024; omega, by show _ ≤ 7293034; omega⟩ dL_law_889 (fun x187 τ188 hn => ?_)
      clear h
      revert hn
      intro h
      refine l_topm (fun ρ189 qρ189 => ?_)
      replace h := h ρ189 qρ189
      refine l_iload hC dL_law_892 1 rfl ?_
      refine l_icmp_eq (tgt := 899) hC dL_law_894 (by decide) (fun q => ?_) (fun q => ?_)
      · replace h := h.1 q
        refine l_iload hC dL_law_899 1 rfl ?_
        obtain ⟨J191, hJ191, h⟩ := h
        have KJ191 : ∀ (σ190 : Rh), J191 σ190 → GL p l e s m #[Value.ref b] below meth c (64 + 16 * k + 16) (8000 + 2000 * k + 2000) Q dC dI dA A xa oa ma σ190 916 [(0, .ref b), (1, .ref xa), (2, .ref ma), (3, .ref oa), (4, .int x)] [] := by
          clear h
          intro σ190 h
          replace h := hJ191 σ190 h
          refine l_goto (tgt := 1827) hC dL_law_916 (by decide) ?_
          refine l_widen (cells' := 64 + 16 * (k + 1)) (slots' := 8000 + 2000 * (k + 1)) (by omega) (by omega) ?_
          exact KJ4 σ190 h
        refine l_if_ne (tgt := 916) hC dL_law_901 (by decide) (fun q => ?_) (fun q => ?_)
        · replace h := h.1 q
          refine l_lvs [2, 3, 4, 5, 6] rfl ?_
          exact KJ191 ρ189 h
        · replace h := h.2 q
          refine l_aload_n hC dL_law_904 rfl 5 rfl ?_
          refine l_iconst (v := 0) hC dL_law_905 (by decide) ?_
          obtain ⟨c192, h⟩ := h
          refine l_lald hC c192 dL_law_906 ?_
          refine l_iload hC dL_law_907 0 rfl ?_
          refine l_i2l hC dL_law_909 ?_
          refine l_lcmp_eq (tgt := 916) hC dL_law_910 dL_law_911 (by decide) (fun q => ?_) (fun q => ?_)
          · replace h := h.1 q
            refine l_lvs [2, 3, 4, 5, 6] rfl ?_
            exact KJ191 ρ189 h
          · replace h := h.2 q
            refine l_iconst (v := 0) hC dL_law_914 (by decide) ?_
            exact h.elim
      · replace h := h.2 q
        refine l_iconst (v := 0) hC dL_law_897 (by decide) ?_
        exact h.elim
    · replace h := h.2.2.2.2.2.2.2.2.2.2.1 z
      rw [z]
      refine l_tin (tgt := 919) (off := 879) hC dL_law_40 (by decide) (by decide) (by decide +kernel) (by decide) ?_
      refine l_aload_n hC dL_law_919 rfl 1 rfl ?_
      refine l_aload_n hC dL_law_920 rfl 0 rfl ?_
      refine l_iload hC dL_law_921 4 rfl ?_
      refine l_iconst (v := 1) hC dL_law_923 (by decide) ?_
      refine l_iadd hC dL_law_924 ?_
      obtain ⟨c193, h⟩ := h
      refine l_sld hC c193 dL_law_925 ?_
      refine l_aload_n hC dL_law_926 rfl 0 rfl ?_
      refine l_iload hC dL_law_927 4 rfl ?_
      refine l_iconst (v := 2) hC dL_law_929 (by decide) ?_
      refine l_iadd hC dL_law_930 ?_
      obtain ⟨c194, h⟩ := h
      refine l_sld hC c194 dL_law_931 ?_
      refine l_aload_n hC dL_law_932 rfl 3 rfl ?_
      refine l_wcall (n := 4) hC [.ref xa, .int (xs (x + 1).toNatClampNeg), .int (xs (x + 2).toNatClampNeg), .ref oa] (fun α sz => cm_L_tax l hlf dC dI dA _ α _ (xs (x + 1).toNatClampNeg) (xs (x + 2).toNatClampNeg) _ h sz) (fun α h0 h17 => by rw [← h0, ← h17]; rfl) gL_law_L_tax rfl ⟨rfl, rfl⟩ (by decide +kernel) ⟨Nat.le_of_ble_eq_true rfl, Nat.le_of_ble_eq_true rfl⟩ rfl rfl ⟨by show _ ≤ 601024; omega, by show _ ≤ 7293034; omega⟩ dL_law_933 (fun x195 σ196 L197 hn => ?_)
      clear h
      revert hn
      intro h
      refine l_topm (fun ρ198 qρ198 => ?_)
      replace h := h ρ198 qρ198
      refine l_istore (lv' := [(5, .int x195), (0, .ref b), (1, .ref xa), (2, .ref ma), (3, .ref oa), (4, .int x)]) hC dL_law_936 (by decide) rfl ?_
      refine l_aload_n hC dL_law_938 rfl 3 rfl ?_
      refine l_aload_n hC dL_law_939 rfl 1 rfl ?_
      refine l_iload hC dL_law_940 5 rfl ?_
      refine l_iconst (v := 1) hC dL_law_942 (by decide) ?_
      refine l_iadd hC dL_law_943 ?_
      obtain ⟨c199, h⟩ := h
      refine l_sld hC c199 dL_law_944 ?_
      refine l_aload_n hC dL_law_945 rfl 1 rfl ?_
      refine l_iload hC dL_law_946 5 rfl ?_
      refine l_iconst (v := 2) hC dL_law_948 (by decide) ?_
      refine l_iadd hC dL_law_949 ?_
      obtain ⟨c200, h⟩ := h
      refine l_sld hC c200 dL_law_950 ?_
      refine l_mcalli (n := 2) hC [.int (xs (x + 1).toNatClampNeg), .int (xs (x + 2).toNatClampNeg)] [] (fun β sz => cm_X7_tax l dC dI dA β _ (xs (x + 1).toNatClampNeg) (xs (x + 2).toNatClampNeg) _ h sz) gL_law_X7_tax rfl ⟨rfl, rfl⟩ (by decide +kernel) ⟨Nat.le_of_ble_eq_true rfl, Nat.le_of_ble_eq_true rfl⟩ rfl rfl (Nat.le_of_ble_eq_true rfl) ⟨by show _ ≤ 601024; omega, by show _ ≤ 7293034; omega⟩ dL_law_951 (fun x201 τ202 hn => ?_)
      clear h
      revert hn
      intro h
      refine l_topm (fun ρ203 qρ203 => ?_)
      replace h := h ρ203 qρ203
      refine l_istore (lv' := [(6, .int x201), (5, .int x195), (0, .ref b), (1, .ref xa), (2, .ref ma), (3, .ref oa), (4, .int x)]) hC dL_law_954 (by decide) rfl ?_
      refine l_aload_n hC dL_law_956 rfl 4 rfl ?_
      refine l_mcalli (n := 0) hC [] [] (fun β sz => cm_X7_thrown l dC dI dA β _  _ h sz) gL_law_X7_thrown rfl ⟨rfl, rfl⟩ (by decide +kernel) ⟨Nat.le_of_ble_eq_true rfl, Nat.le_of_ble_eq_true rfl⟩ rfl rfl (Nat.le_of_ble_eq_true rfl) ⟨by show _ ≤ 601024; omega, by show _ ≤ 7293034; omega⟩ dL_law_957 (fun x204 τ205 hn => ?_)
      clear h
      revert hn
      intro h
      refine l_topm (fun ρ206 qρ206 => ?_)
      replace h := h ρ206 qρ206
      refine l_iload hC dL_law_960 1 rfl ?_
      refine l_icmp_eq (tgt := 967) hC dL_law_962 (by decide) (fun q => ?_) (fun q => ?_)
      · replace h := h.1 q
        refine l_iload hC dL_law_967 1 rfl ?_
        obtain ⟨J208, hJ208, h⟩ := h
        have KJ208 : ∀ (σ207 : Rh), J208 σ207 → GL p l e s m #[Value.ref b] below meth c (64 + 16 * k + 16) (8000 + 2000 * k + 2000) Q dC dI dA A xa oa ma σ207 984 [(0, .ref b), (1, .ref xa), (2, .ref ma), (3, .ref oa), (4, .int x)] [] := by
          clear h
          intro σ207 h
          replace h := hJ208 σ207 h
          refine l_goto (tgt := 1827) hC dL_law_984 (by decide) ?_
          refine l_widen (cells' := 64 + 16 * (k + 1)) (slots' := 8000 + 2000 * (k + 1)) (by omega) (by omega) ?_
          exact KJ4 σ207 h
        refine l_if_ne (tgt := 984) hC dL_law_969 (by decide) (fun q => ?_) (fun q => ?_)
        · replace h := h.1 q
          refine l_lvs [2, 3, 4, 5, 6] rfl ?_
          exact KJ208 ρ206 h
        · replace h := h.2 q
          refine l_aload_n hC dL_law_972 rfl 5 rfl ?_
          refine l_iconst (v := 0) hC dL_law_973 (by decide) ?_
          obtain ⟨c209, h⟩ := h
          refine l_lald hC c209 dL_law_974 ?_
          refine l_iload hC dL_law_975 0 rfl ?_
          refine l_i2l hC dL_law_977 ?_
          refine l_lcmp_eq (tgt := 984) hC dL_law_978 dL_law_979 (by decide) (fun q => ?_) (fun q => ?_)
          · replace h := h.1 q
            refine l_lvs [2, 3, 4, 5, 6] rfl ?_
            exact KJ208 ρ206 h
          · replace h := h.2 q
            refine l_iconst (v := 0) hC dL_law_982 (by decide) ?_
            exact h.elim
      · replace h := h.2 q
        refine l_iconst (v := 0) hC dL_law_965 (by decide) ?_
        exact h.elim
    · replace h := h.2.2.2.2.2.2.2.2.2.2.2.1 z
      rw [z]
      refine l_tin (tgt := 987) (off := 947) hC dL_law_40 (by decide) (by decide) (by decide +kernel) (by decide) ?_
      refine l_aload_n hC dL_law_987 rfl 1 rfl ?_
      refine l_aload_n hC dL_law_988 rfl 0 rfl ?_
      refine l_iload hC dL_law_989 4 rfl ?_
      refine l_iconst (v := 1) hC dL_law_991 (by decide) ?_
      refine l_iadd hC dL_law_992 ?_
      obtain ⟨c210, h⟩ := h
      refine l_sld hC c210 dL_law_993 ?_
      refine l_aload_n hC dL_law_994 rfl 0 rfl ?_
      refine l_iload hC dL_law_995 4 rfl ?_
      refine l_iconst (v := 2) hC dL_law_997 (by decide) ?_
      refine l_iadd hC dL_law_998 ?_
      obtain ⟨c211, h⟩ := h
      refine l_sld hC c211 dL_law_999 ?_
      refine l_aload_n hC dL_law_1000 rfl 0 rfl ?_
      refine l_iload hC dL_law_1001 4 rfl ?_
      refine l_iconst (v := 3) hC dL_law_1003 (by decide) ?_
      refine l_iadd hC dL_law_1004 ?_
      obtain ⟨c212, h⟩ := h
      refine l_sld hC c212 dL_law_1005 ?_
      obtain ⟨J215, hJ215, h⟩ := h
      have KJ215 : ∀ (σ213 : Rh) (x214 : Int32), J215 σ213 x214 → GL p l e s m #[Value.ref b] below meth c (64 + 16 * k) (8000 + 2000 * k) Q dC dI dA A xa oa ma σ213 1014 [(0, .ref b), (1, .ref xa), (2, .ref ma), (3, .ref oa), (4, .int x)] [.int x214, .int (xs (x + 2).toNatClampNeg), .int (xs (x + 1).toNatClampNeg), .ref xa] := by
        clear h
        intro σ213 x214 h
        replace h := hJ215 σ213 x214 h
        refine l_aload_n hC dL_law_1014 rfl 3 rfl ?_
        refine l_wcall (n := 5) hC [.ref xa, .int (xs (x + 1).toNatClampNeg), .int (xs (x + 2).toNatClampNeg), .int x214, .ref oa] (fun α sz => cm_L_consent l hlf dC dI dA _ α _ (xs (x + 1).toNatClampNeg) (xs (x + 2).toNatClampNeg) x214 _ h sz) (fun α h0 h17 => by rw [← h0, ← h17]; rfl) gL_law_L_consent rfl ⟨rfl, rfl⟩ (by decide +kernel) ⟨Nat.le_of_ble_eq_true rfl, Nat.le_of_ble_eq_true rfl⟩ rfl rfl ⟨by show _ ≤ 601024; omega, by show _ ≤ 7293034; omega⟩ dL_law_1015 (fun x216 σ217 L218 hn => ?_)
        clear h
        revert hn
        intro h
        refine l_topm (fun ρ219 qρ219 => ?_)
        replace h := h ρ219 qρ219
        refine l_istore (lv' := [(5, .int x216), (0, .ref b), (1, .ref xa), (2, .ref ma), (3, .ref oa), (4, .int x)]) hC dL_law_1018 (by decide) rfl ?_
        refine l_aload_n hC dL_law_1020 rfl 3 rfl ?_
        refine l_aload_n hC dL_law_1021 rfl 1 rfl ?_
        refine l_iload hC dL_law_1022 5 rfl ?_
        refine l_iconst (v := 1) hC dL_law_1024 (by decide) ?_
        refine l_iadd hC dL_law_1025 ?_
        obtain ⟨c220, h⟩ := h
        refine l_sld hC c220 dL_law_1026 ?_
        refine l_aload_n hC dL_law_1027 rfl 1 rfl ?_
        refine l_iload hC dL_law_1028 5 rfl ?_
        refine l_iconst (v := 2) hC dL_law_1030 (by decide) ?_
        refine l_iadd hC dL_law_1031 ?_
        obtain ⟨c221, h⟩ := h
        refine l_sld hC c221 dL_law_1032 ?_
        refine l_aload_n hC dL_law_1033 rfl 1 rfl ?_
        refine l_iload hC dL_law_1034 5 rfl ?_
        refine l_iconst (v := 3) hC dL_law_1036 (by decide) ?_
        refine l_iadd hC dL_law_1037 ?_
        obtain ⟨c222, h⟩ := h
        refine l_sld hC c222 dL_law_1038 ?_
        obtain ⟨J225, hJ225, h⟩ := h
        have KJ225 : ∀ (σ223 : Rh) (x224 : Int32), J225 σ223 x224 → GL p l e s m #[Value.ref b] below meth c (64 + 16 * (k + 1)) (8000 + 2000 * (k + 1)) Q dC dI dA A xa oa ma σ223 1047 [(0, .ref b), (1, .ref xa), (2, .ref ma), (3, .ref oa), (4, .int x), (5, .int x216)] [.int x224, .int (xs (x + 2).toNatClampNeg), .int (xs (x + 1).toNatClampNeg), .ref ma] := by
          clear h
          intro σ223 x224 h
          replace h := hJ225 σ223 x224 h
          refine l_mcalli (n := 3) hC [.int (xs (x + 1).toNatClampNeg), .int (xs (x + 2).toNatClampNeg), .int x224] [] (fun β sz => cm_X7_consent l dC dI dA β _ (xs (x + 1).toNatClampNeg) (xs (x + 2).toNatClampNeg) x224 _ h sz) gL_law_X7_consent rfl ⟨rfl, rfl⟩ (by decide +kernel) ⟨Nat.le_of_ble_eq_true rfl, Nat.le_of_ble_eq_true rfl⟩ rfl rfl (Nat.le_of_ble_eq_true rfl) ⟨by show _ ≤ 601024; omega, by show _ ≤ 7293034; omega⟩ dL_law_1047 (fun x226 τ227 hn => ?_)
          clear h
          revert hn
          intro h
          refine l_topm (fun ρ228 qρ228 => ?_)
          replace h := h ρ228 qρ228
          refine l_istore (lv' := [(6, .int x226), (0, .ref b), (1, .ref xa), (2, .ref ma), (3, .ref oa), (4, .int x), (5, .int x216)]) hC dL_law_1050 (by decide) rfl ?_
          refine l_aload_n hC dL_law_1052 rfl 3 rfl ?_
          refine l_mcalli (n := 0) hC [] [] (fun β sz => cm_X7_thrown l dC dI dA β _  _ h sz) gL_law_X7_thrown rfl ⟨rfl, rfl⟩ (by decide +kernel) ⟨Nat.le_of_ble_eq_true rfl, Nat.le_of_ble_eq_true rfl⟩ rfl rfl (Nat.le_of_ble_eq_true rfl) ⟨by show _ ≤ 601024; omega, by show _ ≤ 7293034; omega⟩ dL_law_1053 (fun x229 τ230 hn => ?_)
          clear h
          revert hn
          intro h
          refine l_topm (fun ρ231 qρ231 => ?_)
          replace h := h ρ231 qρ231
          refine l_iload hC dL_law_1056 6 rfl ?_
          refine l_icmp_eq (tgt := 1063) hC dL_law_1058 (by decide) (fun q => ?_) (fun q => ?_)
          · replace h := h.1 q
            refine l_iload hC dL_law_1063 6 rfl ?_
            obtain ⟨J233, hJ233, h⟩ := h
            have KJ233 : ∀ (σ232 : Rh), J233 σ232 → GL p l e s m #[Value.ref b] below meth c (64 + 16 * (k + 1)) (8000 + 2000 * (k + 1)) Q dC dI dA A xa oa ma σ232 1087 [(0, .ref b), (1, .ref xa), (2, .ref ma), (3, .ref oa), (4, .int x)] [] := by
              clear h
              intro σ232 h
              replace h := hJ233 σ232 h
              refine l_goto (tgt := 1827) hC dL_law_1087 (by decide) ?_
              exact KJ4 σ232 h
            refine l_if_ne (tgt := 1087) hC dL_law_1065 (by decide) (fun q => ?_) (fun q => ?_)
            · replace h := h.1 q
              refine l_lvs [1, 2, 3, 4, 5] rfl ?_
              exact KJ233 ρ231 h
            · replace h := h.2 q
              refine l_aload_n hC dL_law_1068 rfl 4 rfl ?_
              refine l_iconst (v := 0) hC dL_law_1069 (by decide) ?_
              obtain ⟨c234, h⟩ := h
              refine l_lald hC c234 dL_law_1070 ?_
              refine l_iload hC dL_law_1071 0 rfl ?_
              obtain ⟨J237, hJ237, h⟩ := h
              have KJ237 : ∀ (σ235 : Rh) (y236 : Int64), J237 σ235 y236 → GL p l e s m #[Value.ref b] below meth c (64 + 16 * (k + 1)) (8000 + 2000 * (k + 1)) Q dC dI dA A xa oa ma σ235 1081 [(0, .ref b), (1, .ref xa), (2, .ref ma), (3, .ref oa), (4, .int x)] [.long y236, .long (gJ ρ231.1 17 (0 : Int32).toNatClampNeg)] := by
                clear h
                intro σ235 y236 h
                replace h := hJ237 σ235 y236 h
                refine l_lcmp_eq (tgt := 1087) hC dL_law_1081 dL_law_1082 (by decide) (fun q => ?_) (fun q => ?_)
                · replace h := h.1 q
                  exact KJ233 σ235 h
                · replace h := h.2 q
                  refine l_iconst (v := 0) hC dL_law_1085 (by decide) ?_
                  exact h.elim
              refine l_if_eq (tgt := 1080) hC dL_law_1073 (by decide) (fun q => ?_) (fun q => ?_)
              · replace h := h.1 q
                refine l_lconst (v := 0) hC dL_law_1080 (by decide) ?_
                refine l_lvs [1, 2, 3, 4, 5] rfl ?_
                exact KJ237 ρ231 0 h
              · replace h := h.2 q
                refine l_lconst (v := 1) hC dL_law_1076 (by decide) ?_
                refine l_goto (tgt := 1081) hC dL_law_1077 (by decide) ?_
                refine l_lvs [1, 2, 3, 4, 5] rfl ?_
                exact KJ237 ρ231 1 h
          · replace h := h.2 q
            refine l_iconst (v := 0) hC dL_law_1061 (by decide) ?_
            exact h.elim
        refine l_if_eq (tgt := 1046) hC dL_law_1039 (by decide) (fun q => ?_) (fun q => ?_)
        · replace h := h.1 q
          refine l_iconst (v := 0) hC dL_law_1046 (by decide) ?_
          refine l_widen (cells' := 64 + 16 * (k + 1)) (slots' := 8000 + 2000 * (k + 1)) (by omega) (by omega) ?_
          refine l_lvs [1, 2, 3, 4, 5, 0] rfl ?_
          exact KJ225 ρ219 0 h
        · replace h := h.2 q
          refine l_iconst (v := 1) hC dL_law_1042 (by decide) ?_
          refine l_goto (tgt := 1047) hC dL_law_1043 (by decide) ?_
          refine l_widen (cells' := 64 + 16 * (k + 1)) (slots' := 8000 + 2000 * (k + 1)) (by omega) (by omega) ?_
          refine l_lvs [1, 2, 3, 4, 5, 0] rfl ?_
          exact KJ225 ρ219 1 h
      refine l_if_eq (tgt := 1013) hC dL_law_1006 (by decide) (fun q => ?_) (fun q => ?_)
      · replace h := h.1 q
        refine l_iconst (v := 0) hC dL_law_1013 (by decide) ?_
        exact KJ215 ρ 0 h
      · replace h := h.2 q
        refine l_iconst (v := 1) hC dL_law_1009 (by decide) ?_
        refine l_goto (tgt := 1014) hC dL_law_1010 (by decide) ?_
        exact KJ215 ρ 1 h
    · replace h := h.2.2.2.2.2.2.2.2.2.2.2.2.1 z
      rw [z]
      refine l_tin (tgt := 1090) (off := 1050) hC dL_law_40 (by decide) (by decide) (by decide +kernel) (by decide) ?_
      refine l_aload_n hC dL_law_1090 rfl 1 rfl ?_
      refine l_aload_n hC dL_law_1091 rfl 0 rfl ?_
      refine l_iload hC dL_law_1092 4 rfl ?_
      refine l_iconst (v := 1) hC dL_law_1094 (by decide) ?_
      refine l_iadd hC dL_law_1095 ?_
      obtain ⟨c238, h⟩ := h
      refine l_sld hC c238 dL_law_1096 ?_
      refine l_aload_n hC dL_law_1097 rfl 3 rfl ?_
      refine l_wcall (n := 3) hC [.ref xa, .int (xs (x + 1).toNatClampNeg), .ref oa] (fun α sz => cm_L_penalty l hlf dC dI dA _ α _ (xs (x + 1).toNatClampNeg) _ h sz) (fun α h0 h17 => by rw [← h0, ← h17]; rfl) gL_law_L_penalty rfl ⟨rfl, rfl⟩ (by decide +kernel) ⟨Nat.le_of_ble_eq_true rfl, Nat.le_of_ble_eq_true rfl⟩ rfl rfl ⟨by show _ ≤ 601024; omega, by show _ ≤ 7293034; omega⟩ dL_law_1098 (fun x239 σ240 L241 hn => ?_)
      clear h
      revert hn
      intro h
      refine l_topm (fun ρ242 qρ242 => ?_)
      replace h := h ρ242 qρ242
      refine l_istore (lv' := [(5, .int x239), (0, .ref b), (1, .ref xa), (2, .ref ma), (3, .ref oa), (4, .int x)]) hC dL_law_1101 (by decide) rfl ?_
      refine l_aload_n hC dL_law_1103 rfl 3 rfl ?_
      refine l_aload_n hC dL_law_1104 rfl 1 rfl ?_
      refine l_iload hC dL_law_1105 5 rfl ?_
      refine l_iconst (v := 1) hC dL_law_1107 (by decide) ?_
      refine l_iadd hC dL_law_1108 ?_
      obtain ⟨c243, h⟩ := h
      refine l_sld hC c243 dL_law_1109 ?_
      refine l_mcalli (n := 1) hC [.int (xs (x + 1).toNatClampNeg)] [] (fun β sz => cm_X7_penalty l dC dI dA β _ (xs (x + 1).toNatClampNeg) _ h sz) gL_law_X7_penalty rfl ⟨rfl, rfl⟩ (by decide +kernel) ⟨Nat.le_of_ble_eq_true rfl, Nat.le_of_ble_eq_true rfl⟩ rfl rfl (Nat.le_of_ble_eq_true rfl) ⟨by show _ ≤ 601024; omega, by show _ ≤ 7293034; omega⟩ dL_law_1110 (fun x244 τ245 hn => ?_)
      clear h
      revert hn
      intro h
      refine l_topm (fun ρ246 qρ246 => ?_)
      replace h := h ρ246 qρ246
      refine l_istore (lv' := [(6, .int x244), (5, .int x239), (0, .ref b), (1, .ref xa), (2, .ref ma), (3, .ref oa), (4, .int x)]) hC dL_law_1113 (by decide) rfl ?_
      refine l_aload_n hC dL_law_1115 rfl 4 rfl ?_
      refine l_mcalli (n := 0) hC [] [] (fun β sz => cm_X7_thrown l dC dI dA β _  _ h sz) gL_law_X7_thrown rfl ⟨rfl, rfl⟩ (by decide +kernel) ⟨Nat.le_of_ble_eq_true rfl, Nat.le_of_ble_eq_true rfl⟩ rfl rfl (Nat.le_of_ble_eq_true rfl) ⟨by show _ ≤ 601024; omega, by show _ ≤ 7293034; omega⟩ dL_law_1116 (fun x247 τ248 hn => ?_)
      clear h
      revert hn
      intro h
      refine l_topm (fun ρ249 qρ249 => ?_)
      replace h := h ρ249 qρ249
      refine l_iload hC dL_law_1119 1 rfl ?_
      refine l_icmp_eq (tgt := 1126) hC dL_law_1121 (by decide) (fun q => ?_) (fun q => ?_)
      · replace h := h.1 q
        refine l_iload hC dL_law_1126 1 rfl ?_
        obtain ⟨J251, hJ251, h⟩ := h
        have KJ251 : ∀ (σ250 : Rh), J251 σ250 → GL p l e s m #[Value.ref b] below meth c (64 + 16 * k + 16) (8000 + 2000 * k + 2000) Q dC dI dA A xa oa ma σ250 1143 [(0, .ref b), (1, .ref xa), (2, .ref ma), (3, .ref oa), (4, .int x)] [] := by
          clear h
          intro σ250 h
          replace h := hJ251 σ250 h
          refine l_goto (tgt := 1827) hC dL_law_1143 (by decide) ?_
          refine l_widen (cells' := 64 + 16 * (k + 1)) (slots' := 8000 + 2000 * (k + 1)) (by omega) (by omega) ?_
          exact KJ4 σ250 h
        refine l_if_ne (tgt := 1143) hC dL_law_1128 (by decide) (fun q => ?_) (fun q => ?_)
        · replace h := h.1 q
          refine l_lvs [2, 3, 4, 5, 6] rfl ?_
          exact KJ251 ρ249 h
        · replace h := h.2 q
          refine l_aload_n hC dL_law_1131 rfl 5 rfl ?_
          refine l_iconst (v := 0) hC dL_law_1132 (by decide) ?_
          obtain ⟨c252, h⟩ := h
          refine l_lald hC c252 dL_law_1133 ?_
          refine l_iload hC dL_law_1134 0 rfl ?_
          refine l_i2l hC dL_law_1136 ?_
          refine l_lcmp_eq (tgt := 1143) hC dL_law_1137 dL_law_1138 (by decide) (fun q => ?_) (fun q => ?_)
          · replace h := h.1 q
            refine l_lvs [2, 3, 4, 5, 6] rfl ?_
            exact KJ251 ρ249 h
          · replace h := h.2 q
            refine l_iconst (v := 0) hC dL_law_1141 (by decide) ?_
            exact h.elim
      · replace h := h.2 q
        refine l_iconst (v := 0) hC dL_law_1124 (by decide) ?_
        exact h.elim
    · replace h := h.2.2.2.2.2.2.2.2.2.2.2.2.2.1 z
      rw [z]
      refine l_tin (tgt := 1146) (off := 1106) hC dL_law_40 (by decide) (by decide) (by decide +kernel) (by decide) ?_
      refine l_aload_n hC dL_law_1146 rfl 1 rfl ?_
      refine l_aload_n hC dL_law_1147 rfl 0 rfl ?_
      refine l_iload hC dL_law_1148 4 rfl ?_
      refine l_iconst (v := 1) hC dL_law_1150 (by decide) ?_
      refine l_iadd hC dL_law_1151 ?_
      obtain ⟨c253, h⟩ := h
      refine l_sld hC c253 dL_law_1152 ?_
      refine l_aload_n hC dL_law_1153 rfl 0 rfl ?_
      refine l_iload hC dL_law_1154 4 rfl ?_
      refine l_iconst (v := 2) hC dL_law_1156 (by decide) ?_
      refine l_iadd hC dL_law_1157 ?_
      obtain ⟨c254, h⟩ := h
      refine l_sld hC c254 dL_law_1158 ?_
      refine l_aload_n hC dL_law_1159 rfl 0 rfl ?_
      refine l_iload hC dL_law_1160 4 rfl ?_
      refine l_iconst (v := 3) hC dL_law_1162 (by decide) ?_
      refine l_iadd hC dL_law_1163 ?_
      obtain ⟨c255, h⟩ := h
      refine l_sld hC c255 dL_law_1164 ?_
      refine l_aload_n hC dL_law_1165 rfl 0 rfl ?_
      refine l_iload hC dL_law_1166 4 rfl ?_
      refine l_iconst (v := 4) hC dL_law_1168 (by decide) ?_
      refine l_iadd hC dL_law_1169 ?_
      obtain ⟨c256, h⟩ := h
      refine l_sld hC c256 dL_law_1170 ?_
      obtain ⟨J259, hJ259, h⟩ := h
      have KJ259 : ∀ (σ257 : Rh) (x258 : Int32), J259 σ257 x258 → GL p l e s m #[Value.ref b] below meth c (64 + 16 * k) (8000 + 2000 * k) Q dC dI dA A xa oa ma σ257 1179 [(0, .ref b), (1, .ref xa), (2, .ref ma), (3, .ref oa), (4, .int x)] [.int x258, .int (xs (x + 3).toNatClampNeg), .int (xs (x + 2).toNatClampNeg), .int (xs (x + 1).toNatClampNeg), .ref xa] := by
        clear h
        intro σ257 x258 h
        replace h := hJ259 σ257 x258 h
        refine l_aload_n hC dL_law_1179 rfl 3 rfl ?_
        refine l_wcall (n := 6) hC [.ref xa, .int (xs (x + 1).toNatClampNeg), .int (xs (x + 2).toNatClampNeg), .int (xs (x + 3).toNatClampNeg), .int x258, .ref oa] (fun α sz => cm_L_interest l hlf dC dI dA _ α _ (xs (x + 1).toNatClampNeg) (xs (x + 2).toNatClampNeg) (xs (x + 3).toNatClampNeg) x258 _ h sz) (fun α h0 h17 => by rw [← h0, ← h17]; rfl) gL_law_L_interest rfl ⟨rfl, rfl⟩ (by decide +kernel) ⟨Nat.le_of_ble_eq_true rfl, Nat.le_of_ble_eq_true rfl⟩ rfl rfl ⟨by show _ ≤ 601024; omega, by show _ ≤ 7293034; omega⟩ dL_law_1180 (fun x260 σ261 L262 hn => ?_)
        clear h
        revert hn
        intro h
        refine l_topm (fun ρ263 qρ263 => ?_)
        replace h := h ρ263 qρ263
        refine l_istore (lv' := [(5, .int x260), (0, .ref b), (1, .ref xa), (2, .ref ma), (3, .ref oa), (4, .int x)]) hC dL_law_1183 (by decide) rfl ?_
        refine l_aload_n hC dL_law_1185 rfl 3 rfl ?_
        refine l_aload_n hC dL_law_1186 rfl 1 rfl ?_
        refine l_iload hC dL_law_1187 5 rfl ?_
        refine l_iconst (v := 1) hC dL_law_1189 (by decide) ?_
        refine l_iadd hC dL_law_1190 ?_
        obtain ⟨c264, h⟩ := h
        refine l_sld hC c264 dL_law_1191 ?_
        refine l_aload_n hC dL_law_1192 rfl 1 rfl ?_
        refine l_iload hC dL_law_1193 5 rfl ?_
        refine l_iconst (v := 2) hC dL_law_1195 (by decide) ?_
        refine l_iadd hC dL_law_1196 ?_
        obtain ⟨c265, h⟩ := h
        refine l_sld hC c265 dL_law_1197 ?_
        refine l_aload_n hC dL_law_1198 rfl 1 rfl ?_
        refine l_iload hC dL_law_1199 5 rfl ?_
        refine l_iconst (v := 3) hC dL_law_1201 (by decide) ?_
        refine l_iadd hC dL_law_1202 ?_
        obtain ⟨c266, h⟩ := h
        refine l_sld hC c266 dL_law_1203 ?_
        refine l_aload_n hC dL_law_1204 rfl 1 rfl ?_
        refine l_iload hC dL_law_1205 5 rfl ?_
        refine l_iconst (v := 4) hC dL_law_1207 (by decide) ?_
        refine l_iadd hC dL_law_1208 ?_
        obtain ⟨c267, h⟩ := h
        refine l_sld hC c267 dL_law_1209 ?_
        obtain ⟨J270, hJ270, h⟩ := h
        have KJ270 : ∀ (σ268 : Rh) (x269 : Int32), J270 σ268 x269 → GL p l e s m #[Value.ref b] below meth c (64 + 16 * (k + 1)) (8000 + 2000 * (k + 1)) Q dC dI dA A xa oa ma σ268 1218 [(0, .ref b), (1, .ref xa), (2, .ref ma), (3, .ref oa), (4, .int x), (5, .int x260)] [.int x269, .int (xs (x + 3).toNatClampNeg), .int (xs (x + 2).toNatClampNeg), .int (xs (x + 1).toNatClampNeg), .ref ma] := by
          clear h
          intro σ268 x269 h
          replace h := hJ270 σ268 x269 h
          refine l_mcalli (n := 4) hC [.int (xs (x + 1).toNatClampNeg), .int (xs (x + 2).toNatClampNeg), .int (xs (x + 3).toNatClampNeg), .int x269] [] (fun β sz => cm_X7_interest l dC dI dA β _ (xs (x + 1).toNatClampNeg) (xs (x + 2).toNatClampNeg) (xs (x + 3).toNatClampNeg) x269 _ h sz) gL_law_X7_interest rfl ⟨rfl, rfl⟩ (by decide +kernel) ⟨Nat.le_of_ble_eq_true rfl, Nat.le_of_ble_eq_true rfl⟩ rfl rfl (Nat.le_of_ble_eq_true rfl) ⟨by show _ ≤ 601024; omega, by show _ ≤ 7293034; omega⟩ dL_law_1218 (fun x271 τ272 hn => ?_)
          clear h
          revert hn
          intro h
          refine l_topm (fun ρ273 qρ273 => ?_)
          replace h := h ρ273 qρ273
          refine l_istore (lv' := [(6, .int x271), (0, .ref b), (1, .ref xa), (2, .ref ma), (3, .ref oa), (4, .int x), (5, .int x260)]) hC dL_law_1221 (by decide) rfl ?_
          refine l_aload_n hC dL_law_1223 rfl 3 rfl ?_
          refine l_mcalli (n := 0) hC [] [] (fun β sz => cm_X7_thrown l dC dI dA β _  _ h sz) gL_law_X7_thrown rfl ⟨rfl, rfl⟩ (by decide +kernel) ⟨Nat.le_of_ble_eq_true rfl, Nat.le_of_ble_eq_true rfl⟩ rfl rfl (Nat.le_of_ble_eq_true rfl) ⟨by show _ ≤ 601024; omega, by show _ ≤ 7293034; omega⟩ dL_law_1224 (fun x274 τ275 hn => ?_)
          clear h
          revert hn
          intro h
          refine l_topm (fun ρ276 qρ276 => ?_)
          replace h := h ρ276 qρ276
          refine l_iload hC dL_law_1227 6 rfl ?_
          refine l_icmp_eq (tgt := 1234) hC dL_law_1229 (by decide) (fun q => ?_) (fun q => ?_)
          · replace h := h.1 q
            refine l_iload hC dL_law_1234 6 rfl ?_
            obtain ⟨J278, hJ278, h⟩ := h
            have KJ278 : ∀ (σ277 : Rh), J278 σ277 → GL p l e s m #[Value.ref b] below meth c (64 + 16 * (k + 1)) (8000 + 2000 * (k + 1)) Q dC dI dA A xa oa ma σ277 1251 [(0, .ref b), (1, .ref xa), (2, .ref ma), (3, .ref oa), (4, .int x)] [] := by
              clear h
              intro σ277 h
              replace h := hJ278 σ277 h
              refine l_goto (tgt := 1827) hC dL_law_1251 (by decide) ?_
              exact KJ4 σ277 h
            refine l_if_ne (tgt := 1251) hC dL_law_1236 (by decide) (fun q => ?_) (fun q => ?_)
            · replace h := h.1 q
              refine l_lvs [1, 2, 3, 4, 5] rfl ?_
              exact KJ278 ρ276 h
            · replace h := h.2 q
              refine l_aload_n hC dL_law_1239 rfl 4 rfl ?_
              refine l_iconst (v := 0) hC dL_law_1240 (by decide) ?_
              obtain ⟨c279, h⟩ := h
              refine l_lald hC c279 dL_law_1241 ?_
              refine l_iload hC dL_law_1242 0 rfl ?_
              refine l_i2l hC dL_law_1244 ?_
              refine l_lcmp_eq (tgt := 1251) hC dL_law_1245 dL_law_1246 (by decide) (fun q => ?_) (fun q => ?_)
              · replace h := h.1 q
                refine l_lvs [1, 2, 3, 4, 5] rfl ?_
                exact KJ278 ρ276 h
              · replace h := h.2 q
                refine l_iconst (v := 0) hC dL_law_1249 (by decide) ?_
                exact h.elim
          · replace h := h.2 q
            refine l_iconst (v := 0) hC dL_law_1232 (by decide) ?_
            exact h.elim
        refine l_if_eq (tgt := 1217) hC dL_law_1210 (by decide) (fun q => ?_) (fun q => ?_)
        · replace h := h.1 q
          refine l_iconst (v := 0) hC dL_law_1217 (by decide) ?_
          refine l_widen (cells' := 64 + 16 * (k + 1)) (slots' := 8000 + 2000 * (k + 1)) (by omega) (by omega) ?_
          refine l_lvs [1, 2, 3, 4, 5, 0] rfl ?_
          exact KJ270 ρ263 0 h
        · replace h := h.2 q
          refine l_iconst (v := 1) hC dL_law_1213 (by decide) ?_
          refine l_goto (tgt := 1218) hC dL_law_1214 (by decide) ?_
          refine l_widen (cells' := 64 + 16 * (k + 1)) (slots' := 8000 + 2000 * (k + 1)) (by omega) (by omega) ?_
          refine l_lvs [1, 2, 3, 4, 5, 0] rfl ?_
          exact KJ270 ρ263 1 h
      refine l_if_eq (tgt := 1178) hC dL_law_1171 (by decide) (fun q => ?_) (fun q => ?_)
      · replace h := h.1 q
        refine l_iconst (v := 0) hC dL_law_1178 (by decide) ?_
        exact KJ259 ρ 0 h
      · replace h := h.2 q
        refine l_iconst (v := 1) hC dL_law_1174 (by decide) ?_
        refine l_goto (tgt := 1179) hC dL_law_1175 (by decide) ?_
        exact KJ259 ρ 1 h
    · replace h := h.2.2.2.2.2.2.2.2.2.2.2.2.2.2.1 z
      rw [z]
      refine l_tin (tgt := 1254) (off := 1214) hC dL_law_40 (by decide) (by decide) (by decide +kernel) (by decide) ?_
      refine l_aload_n hC dL_law_1254 rfl 1 rfl ?_
      refine l_aload_n hC dL_law_1255 rfl 0 rfl ?_
      refine l_iload hC dL_law_1256 4 rfl ?_
      refine l_iconst (v := 1) hC dL_law_1258 (by decide) ?_
      refine l_iadd hC dL_law_1259 ?_
      obtain ⟨c280, h⟩ := h
      refine l_sld hC c280 dL_law_1260 ?_
      refine l_aload_n hC dL_law_1261 rfl 0 rfl ?_
      refine l_iload hC dL_law_1262 4 rfl ?_
      refine l_iconst (v := 2) hC dL_law_1264 (by decide) ?_
      refine l_iadd hC dL_law_1265 ?_
      obtain ⟨c281, h⟩ := h
      refine l_sld hC c281 dL_law_1266 ?_
      refine l_aload_n hC dL_law_1267 rfl 3 rfl ?_
      refine l_wcall (n := 4) hC [.ref xa, .int (xs (x + 1).toNatClampNeg), .int (xs (x + 2).toNatClampNeg), .ref oa] (fun α sz => cm_L_revenue l hlf dC dI dA _ α _ (xs (x + 1).toNatClampNeg) (xs (x + 2).toNatClampNeg) _ h sz) (fun α h0 h17 => by rw [← h0, ← h17]; rfl) gL_law_L_revenue rfl ⟨rfl, rfl⟩ (by decide +kernel) ⟨Nat.le_of_ble_eq_true rfl, Nat.le_of_ble_eq_true rfl⟩ rfl rfl ⟨by show _ ≤ 601024; omega, by show _ ≤ 7293034; omega⟩ dL_law_1268 (fun x282 σ283 L284 hn => ?_)
      clear h
      revert hn
      intro h
      refine l_topm (fun ρ285 qρ285 => ?_)
      replace h := h ρ285 qρ285
      refine l_istore (lv' := [(5, .int x282), (0, .ref b), (1, .ref xa), (2, .ref ma), (3, .ref oa), (4, .int x)]) hC dL_law_1271 (by decide) rfl ?_
      refine l_aload_n hC dL_law_1273 rfl 3 rfl ?_
      refine l_aload_n hC dL_law_1274 rfl 1 rfl ?_
      refine l_iload hC dL_law_1275 5 rfl ?_
      refine l_iconst (v := 1) hC dL_law_1277 (by decide) ?_
      refine l_iadd hC dL_law_1278 ?_
      obtain ⟨c286, h⟩ := h
      refine l_sld hC c286 dL_law_1279 ?_
      refine l_aload_n hC dL_law_1280 rfl 1 rfl ?_
      refine l_iload hC dL_law_1281 5 rfl ?_
      refine l_iconst (v := 2) hC dL_law_1283 (by decide) ?_
      refine l_iadd hC dL_law_1284 ?_
      obtain ⟨c287, h⟩ := h
      refine l_sld hC c287 dL_law_1285 ?_
      refine l_mcalli (n := 2) hC [.int (xs (x + 1).toNatClampNeg), .int (xs (x + 2).toNatClampNeg)] [] (fun β sz => cm_X7_revenue l dC dI dA β _ (xs (x + 1).toNatClampNeg) (xs (x + 2).toNatClampNeg) _ h sz) gL_law_X7_revenue rfl ⟨rfl, rfl⟩ (by decide +kernel) ⟨Nat.le_of_ble_eq_true rfl, Nat.le_of_ble_eq_true rfl⟩ rfl rfl (Nat.le_of_ble_eq_true rfl) ⟨by show _ ≤ 601024; omega, by show _ ≤ 7293034; omega⟩ dL_law_1286 (fun x288 τ289 hn => ?_)
      clear h
      revert hn
      intro h
      refine l_topm (fun ρ290 qρ290 => ?_)
      replace h := h ρ290 qρ290
      refine l_istore (lv' := [(6, .int x288), (5, .int x282), (0, .ref b), (1, .ref xa), (2, .ref ma), (3, .ref oa), (4, .int x)]) hC dL_law_1289 (by decide) rfl ?_
      refine l_aload_n hC dL_law_1291 rfl 4 rfl ?_
      refine l_mcalli (n := 0) hC [] [] (fun β sz => cm_X7_thrown l dC dI dA β _  _ h sz) gL_law_X7_thrown rfl ⟨rfl, rfl⟩ (by decide +kernel) ⟨Nat.le_of_ble_eq_true rfl, Nat.le_of_ble_eq_true rfl⟩ rfl rfl (Nat.le_of_ble_eq_true rfl) ⟨by show _ ≤ 601024; omega, by show _ ≤ 7293034; omega⟩ dL_law_1292 (fun x291 τ292 hn => ?_)
      clear h
      revert hn
      intro h
      refine l_topm (fun ρ293 qρ293 => ?_)
      replace h := h ρ293 qρ293
      refine l_iload hC dL_law_1295 1 rfl ?_
      refine l_icmp_eq (tgt := 1302) hC dL_law_1297 (by decide) (fun q => ?_) (fun q => ?_)
      · replace h := h.1 q
        refine l_iload hC dL_law_1302 1 rfl ?_
        obtain ⟨J295, hJ295, h⟩ := h
        have KJ295 : ∀ (σ294 : Rh), J295 σ294 → GL p l e s m #[Value.ref b] below meth c (64 + 16 * k + 16) (8000 + 2000 * k + 2000) Q dC dI dA A xa oa ma σ294 1319 [(0, .ref b), (1, .ref xa), (2, .ref ma), (3, .ref oa), (4, .int x)] [] := by
          clear h
          intro σ294 h
          replace h := hJ295 σ294 h
          refine l_goto (tgt := 1827) hC dL_law_1319 (by decide) ?_
          refine l_widen (cells' := 64 + 16 * (k + 1)) (slots' := 8000 + 2000 * (k + 1)) (by omega) (by omega) ?_
          exact KJ4 σ294 h
        refine l_if_ne (tgt := 1319) hC dL_law_1304 (by decide) (fun q => ?_) (fun q => ?_)
        · replace h := h.1 q
          refine l_lvs [2, 3, 4, 5, 6] rfl ?_
          exact KJ295 ρ293 h
        · replace h := h.2 q
          refine l_aload_n hC dL_law_1307 rfl 5 rfl ?_
          refine l_iconst (v := 0) hC dL_law_1308 (by decide) ?_
          obtain ⟨c296, h⟩ := h
          refine l_lald hC c296 dL_law_1309 ?_
          refine l_iload hC dL_law_1310 0 rfl ?_
          refine l_i2l hC dL_law_1312 ?_
          refine l_lcmp_eq (tgt := 1319) hC dL_law_1313 dL_law_1314 (by decide) (fun q => ?_) (fun q => ?_)
          · replace h := h.1 q
            refine l_lvs [2, 3, 4, 5, 6] rfl ?_
            exact KJ295 ρ293 h
          · replace h := h.2 q
            refine l_iconst (v := 0) hC dL_law_1317 (by decide) ?_
            exact h.elim
      · replace h := h.2 q
        refine l_iconst (v := 0) hC dL_law_1300 (by decide) ?_
        exact h.elim
    · replace h := h.2.2.2.2.2.2.2.2.2.2.2.2.2.2.2.1 z
      rw [z]
      refine l_tin (tgt := 1322) (off := 1282) hC dL_law_40 (by decide) (by decide) (by decide +kernel) (by decide) ?_
      refine l_aload_n hC dL_law_1322 rfl 1 rfl ?_
      refine l_aload_n hC dL_law_1323 rfl 0 rfl ?_
      refine l_iload hC dL_law_1324 4 rfl ?_
      refine l_iconst (v := 1) hC dL_law_1326 (by decide) ?_
      refine l_iadd hC dL_law_1327 ?_
      obtain ⟨c297, h⟩ := h
      refine l_sld hC c297 dL_law_1328 ?_
      refine l_aload_n hC dL_law_1329 rfl 0 rfl ?_
      refine l_iload hC dL_law_1330 4 rfl ?_
      refine l_iconst (v := 2) hC dL_law_1332 (by decide) ?_
      refine l_iadd hC dL_law_1333 ?_
      obtain ⟨c298, h⟩ := h
      refine l_sld hC c298 dL_law_1334 ?_
      refine l_aload_n hC dL_law_1335 rfl 0 rfl ?_
      refine l_iload hC dL_law_1336 4 rfl ?_
      refine l_iconst (v := 3) hC dL_law_1338 (by decide) ?_
      refine l_iadd hC dL_law_1339 ?_
      obtain ⟨c299, h⟩ := h
      refine l_sld hC c299 dL_law_1340 ?_
      refine l_aload_n hC dL_law_1341 rfl 3 rfl ?_
      refine l_wcall (n := 5) hC [.ref xa, .int (xs (x + 1).toNatClampNeg), .int (xs (x + 2).toNatClampNeg), .int (xs (x + 3).toNatClampNeg), .ref oa] (fun α sz => cm_L_due l hlf dC dI dA _ α _ (xs (x + 1).toNatClampNeg) (xs (x + 2).toNatClampNeg) (xs (x + 3).toNatClampNeg) _ h sz) (fun α h0 h17 => by rw [← h0, ← h17]; rfl) gL_law_L_due rfl ⟨rfl, rfl⟩ (by decide +kernel) ⟨Nat.le_of_ble_eq_true rfl, Nat.le_of_ble_eq_true rfl⟩ rfl rfl ⟨by show _ ≤ 601024; omega, by show _ ≤ 7293034; omega⟩ dL_law_1342 (fun x300 σ301 L302 hn => ?_)
      clear h
      revert hn
      intro h
      refine l_topm (fun ρ303 qρ303 => ?_)
      replace h := h ρ303 qρ303
      refine l_istore (lv' := [(5, .int x300), (0, .ref b), (1, .ref xa), (2, .ref ma), (3, .ref oa), (4, .int x)]) hC dL_law_1345 (by decide) rfl ?_
      refine l_aload_n hC dL_law_1347 rfl 3 rfl ?_
      refine l_aload_n hC dL_law_1348 rfl 1 rfl ?_
      refine l_iload hC dL_law_1349 5 rfl ?_
      refine l_iconst (v := 1) hC dL_law_1351 (by decide) ?_
      refine l_iadd hC dL_law_1352 ?_
      obtain ⟨c304, h⟩ := h
      refine l_sld hC c304 dL_law_1353 ?_
      refine l_aload_n hC dL_law_1354 rfl 1 rfl ?_
      refine l_iload hC dL_law_1355 5 rfl ?_
      refine l_iconst (v := 2) hC dL_law_1357 (by decide) ?_
      refine l_iadd hC dL_law_1358 ?_
      obtain ⟨c305, h⟩ := h
      refine l_sld hC c305 dL_law_1359 ?_
      refine l_aload_n hC dL_law_1360 rfl 1 rfl ?_
      refine l_iload hC dL_law_1361 5 rfl ?_
      refine l_iconst (v := 3) hC dL_law_1363 (by decide) ?_
      refine l_iadd hC dL_law_1364 ?_
      obtain ⟨c306, h⟩ := h
      refine l_sld hC c306 dL_law_1365 ?_
      refine l_mcalli (n := 3) hC [.int (xs (x + 1).toNatClampNeg), .int (xs (x + 2).toNatClampNeg), .int (xs (x + 3).toNatClampNeg)] [] (fun β sz => cm_X7_due l dC dI dA β _ (xs (x + 1).toNatClampNeg) (xs (x + 2).toNatClampNeg) (xs (x + 3).toNatClampNeg) _ h sz) gL_law_X7_due rfl ⟨rfl, rfl⟩ (by decide +kernel) ⟨Nat.le_of_ble_eq_true rfl, Nat.le_of_ble_eq_true rfl⟩ rfl rfl (Nat.le_of_ble_eq_true rfl) ⟨by show _ ≤ 601024; omega, by show _ ≤ 7293034; omega⟩ dL_law_1366 (fun x307 τ308 hn => ?_)
      clear h
      revert hn
      intro h
      refine l_topm (fun ρ309 qρ309 => ?_)
      replace h := h ρ309 qρ309
      refine l_istore (lv' := [(6, .int x307), (5, .int x300), (0, .ref b), (1, .ref xa), (2, .ref ma), (3, .ref oa), (4, .int x)]) hC dL_law_1369 (by decide) rfl ?_
      refine l_aload_n hC dL_law_1371 rfl 4 rfl ?_
      refine l_mcalli (n := 0) hC [] [] (fun β sz => cm_X7_thrown l dC dI dA β _  _ h sz) gL_law_X7_thrown rfl ⟨rfl, rfl⟩ (by decide +kernel) ⟨Nat.le_of_ble_eq_true rfl, Nat.le_of_ble_eq_true rfl⟩ rfl rfl (Nat.le_of_ble_eq_true rfl) ⟨by show _ ≤ 601024; omega, by show _ ≤ 7293034; omega⟩ dL_law_1372 (fun x310 τ311 hn => ?_)
      clear h
      revert hn
      intro h
      refine l_topm (fun ρ312 qρ312 => ?_)
      replace h := h ρ312 qρ312
      refine l_iload hC dL_law_1375 1 rfl ?_
      refine l_icmp_eq (tgt := 1382) hC dL_law_1377 (by decide) (fun q => ?_) (fun q => ?_)
      · replace h := h.1 q
        refine l_iload hC dL_law_1382 1 rfl ?_
        obtain ⟨J314, hJ314, h⟩ := h
        have KJ314 : ∀ (σ313 : Rh), J314 σ313 → GL p l e s m #[Value.ref b] below meth c (64 + 16 * k + 16) (8000 + 2000 * k + 2000) Q dC dI dA A xa oa ma σ313 1399 [(0, .ref b), (1, .ref xa), (2, .ref ma), (3, .ref oa), (4, .int x)] [] := by
          clear h
          intro σ313 h
          replace h := hJ314 σ313 h
          refine l_goto (tgt := 1827) hC dL_law_1399 (by decide) ?_
          refine l_widen (cells' := 64 + 16 * (k + 1)) (slots' := 8000 + 2000 * (k + 1)) (by omega) (by omega) ?_
          exact KJ4 σ313 h
        refine l_if_ne (tgt := 1399) hC dL_law_1384 (by decide) (fun q => ?_) (fun q => ?_)
        · replace h := h.1 q
          refine l_lvs [2, 3, 4, 5, 6] rfl ?_
          exact KJ314 ρ312 h
        · replace h := h.2 q
          refine l_aload_n hC dL_law_1387 rfl 5 rfl ?_
          refine l_iconst (v := 0) hC dL_law_1388 (by decide) ?_
          obtain ⟨c315, h⟩ := h
          refine l_lald hC c315 dL_law_1389 ?_
          refine l_iload hC dL_law_1390 0 rfl ?_
          refine l_i2l hC dL_law_1392 ?_
          refine l_lcmp_eq (tgt := 1399) hC dL_law_1393 dL_law_1394 (by decide) (fun q => ?_) (fun q => ?_)
          · replace h := h.1 q
            refine l_lvs [2, 3, 4, 5, 6] rfl ?_
            exact KJ314 ρ312 h
          · replace h := h.2 q
            refine l_iconst (v := 0) hC dL_law_1397 (by decide) ?_
            exact h.elim
      · replace h := h.2 q
        refine l_iconst (v := 0) hC dL_law_1380 (by decide) ?_
        exact h.elim
    · replace h := h.2.2.2.2.2.2.2.2.2.2.2.2.2.2.2.2.1 z
      rw [z]
      refine l_tin (tgt := 1402) (off := 1362) hC dL_law_40 (by decide) (by decide) (by decide +kernel) (by decide) ?_
      refine l_aload_n hC dL_law_1402 rfl 1 rfl ?_
      refine l_aload_n hC dL_law_1403 rfl 0 rfl ?_
      refine l_iload hC dL_law_1404 4 rfl ?_
      refine l_iconst (v := 1) hC dL_law_1406 (by decide) ?_
      refine l_iadd hC dL_law_1407 ?_
      obtain ⟨c316, h⟩ := h
      refine l_sld hC c316 dL_law_1408 ?_
      refine l_aload_n hC dL_law_1409 rfl 0 rfl ?_
      refine l_iload hC dL_law_1410 4 rfl ?_
      refine l_iconst (v := 2) hC dL_law_1412 (by decide) ?_
      refine l_iadd hC dL_law_1413 ?_
      obtain ⟨c317, h⟩ := h
      refine l_sld hC c317 dL_law_1414 ?_
      refine l_aload_n hC dL_law_1415 rfl 0 rfl ?_
      refine l_iload hC dL_law_1416 4 rfl ?_
      refine l_iconst (v := 3) hC dL_law_1418 (by decide) ?_
      refine l_iadd hC dL_law_1419 ?_
      obtain ⟨c318, h⟩ := h
      refine l_sld hC c318 dL_law_1420 ?_
      refine l_aload_n hC dL_law_1421 rfl 3 rfl ?_
      refine l_wcall (n := 5) hC [.ref xa, .int (xs (x + 1).toNatClampNeg), .int (xs (x + 2).toNatClampNeg), .int (xs (x + 3).toNatClampNeg), .ref oa] (fun α sz => cm_L_balance l hlf dC dI dA _ α _ (xs (x + 1).toNatClampNeg) (xs (x + 2).toNatClampNeg) (xs (x + 3).toNatClampNeg) _ h sz) (fun α h0 h17 => by rw [← h0, ← h17]; rfl) gL_law_L_balance rfl ⟨rfl, rfl⟩ (by decide +kernel) ⟨Nat.le_of_ble_eq_true rfl, Nat.le_of_ble_eq_true rfl⟩ rfl rfl ⟨by show _ ≤ 601024; omega, by show _ ≤ 7293034; omega⟩ dL_law_1422 (fun x319 σ320 L321 hn => ?_)
      clear h
      revert hn
      intro h
      refine l_topm (fun ρ322 qρ322 => ?_)
      replace h := h ρ322 qρ322
      refine l_istore (lv' := [(5, .int x319), (0, .ref b), (1, .ref xa), (2, .ref ma), (3, .ref oa), (4, .int x)]) hC dL_law_1425 (by decide) rfl ?_
      refine l_aload_n hC dL_law_1427 rfl 3 rfl ?_
      refine l_aload_n hC dL_law_1428 rfl 1 rfl ?_
      refine l_iload hC dL_law_1429 5 rfl ?_
      refine l_iconst (v := 1) hC dL_law_1431 (by decide) ?_
      refine l_iadd hC dL_law_1432 ?_
      obtain ⟨c323, h⟩ := h
      refine l_sld hC c323 dL_law_1433 ?_
      refine l_aload_n hC dL_law_1434 rfl 1 rfl ?_
      refine l_iload hC dL_law_1435 5 rfl ?_
      refine l_iconst (v := 2) hC dL_law_1437 (by decide) ?_
      refine l_iadd hC dL_law_1438 ?_
      obtain ⟨c324, h⟩ := h
      refine l_sld hC c324 dL_law_1439 ?_
      refine l_aload_n hC dL_law_1440 rfl 1 rfl ?_
      refine l_iload hC dL_law_1441 5 rfl ?_
      refine l_iconst (v := 3) hC dL_law_1443 (by decide) ?_
      refine l_iadd hC dL_law_1444 ?_
      obtain ⟨c325, h⟩ := h
      refine l_sld hC c325 dL_law_1445 ?_
      refine l_mcalll (n := 3) hC [.int (xs (x + 1).toNatClampNeg), .int (xs (x + 2).toNatClampNeg), .int (xs (x + 3).toNatClampNeg)] [] (fun β sz => cm_X7_balance l dC dI dA β _ (xs (x + 1).toNatClampNeg) (xs (x + 2).toNatClampNeg) (xs (x + 3).toNatClampNeg) _ h sz) gL_law_X7_balance rfl ⟨rfl, rfl⟩ (by decide +kernel) ⟨Nat.le_of_ble_eq_true rfl, Nat.le_of_ble_eq_true rfl⟩ rfl rfl (Nat.le_of_ble_eq_true rfl) ⟨by show _ ≤ 601024; omega, by show _ ≤ 7293034; omega⟩ dL_law_1446 (fun y326 τ327 hn => ?_)
      clear h
      revert hn
      intro h
      refine l_topm (fun ρ328 qρ328 => ?_)
      replace h := h ρ328 qρ328
      refine l_lstore (lv' := [(6, .long y326), (5, .int x319), (0, .ref b), (1, .ref xa), (2, .ref ma), (3, .ref oa), (4, .int x)]) hC dL_law_1449 (by decide) rfl ?_
      refine l_aload_n hC dL_law_1451 rfl 4 rfl ?_
      refine l_mcalli (n := 0) hC [] [] (fun β sz => cm_X7_thrown l dC dI dA β _  _ h sz) gL_law_X7_thrown rfl ⟨rfl, rfl⟩ (by decide +kernel) ⟨Nat.le_of_ble_eq_true rfl, Nat.le_of_ble_eq_true rfl⟩ rfl rfl (Nat.le_of_ble_eq_true rfl) ⟨by show _ ≤ 601024; omega, by show _ ≤ 7293034; omega⟩ dL_law_1452 (fun x329 τ330 hn => ?_)
      clear h
      revert hn
      intro h
      refine l_topm (fun ρ331 qρ331 => ?_)
      replace h := h ρ331 qρ331
      refine l_iload hC dL_law_1455 1 rfl ?_
      refine l_icmp_eq (tgt := 1462) hC dL_law_1457 (by decide) (fun q => ?_) (fun q => ?_)
      · replace h := h.1 q
        refine l_iload hC dL_law_1462 1 rfl ?_
        obtain ⟨J333, hJ333, h⟩ := h
        have KJ333 : ∀ (σ332 : Rh), J333 σ332 → GL p l e s m #[Value.ref b] below meth c (64 + 16 * k + 16) (8000 + 2000 * k + 2000) Q dC dI dA A xa oa ma σ332 1478 [(0, .ref b), (1, .ref xa), (2, .ref ma), (3, .ref oa), (4, .int x)] [] := by
          clear h
          intro σ332 h
          replace h := hJ333 σ332 h
          refine l_goto (tgt := 1827) hC dL_law_1478 (by decide) ?_
          refine l_widen (cells' := 64 + 16 * (k + 1)) (slots' := 8000 + 2000 * (k + 1)) (by omega) (by omega) ?_
          exact KJ4 σ332 h
        refine l_if_ne (tgt := 1478) hC dL_law_1464 (by decide) (fun q => ?_) (fun q => ?_)
        · replace h := h.1 q
          refine l_lvs [2, 3, 4, 5, 6] rfl ?_
          exact KJ333 ρ331 h
        · replace h := h.2 q
          refine l_aload_n hC dL_law_1467 rfl 5 rfl ?_
          refine l_iconst (v := 0) hC dL_law_1468 (by decide) ?_
          obtain ⟨c334, h⟩ := h
          refine l_lald hC c334 dL_law_1469 ?_
          refine l_lload hC dL_law_1470 0 rfl ?_
          refine l_lcmp_eq (tgt := 1478) hC dL_law_1472 dL_law_1473 (by decide) (fun q => ?_) (fun q => ?_)
          · replace h := h.1 q
            refine l_lvs [2, 3, 4, 5, 6] rfl ?_
            exact KJ333 ρ331 h
          · replace h := h.2 q
            refine l_iconst (v := 0) hC dL_law_1476 (by decide) ?_
            exact h.elim
      · replace h := h.2 q
        refine l_iconst (v := 0) hC dL_law_1460 (by decide) ?_
        exact h.elim
    · replace h := h.2.2.2.2.2.2.2.2.2.2.2.2.2.2.2.2.2.1 z
      rw [z]
      refine l_tin (tgt := 1481) (off := 1441) hC dL_law_40 (by decide) (by decide) (by decide +kernel) (by decide) ?_
      refine l_aload_n hC dL_law_1481 rfl 1 rfl ?_
      refine l_aload_n hC dL_law_1482 rfl 0 rfl ?_
      refine l_iload hC dL_law_1483 4 rfl ?_
      refine l_iconst (v := 1) hC dL_law_1485 (by decide) ?_
      refine l_iadd hC dL_law_1486 ?_
      obtain ⟨c335, h⟩ := h
      refine l_sld hC c335 dL_law_1487 ?_
      refine l_aload_n hC dL_law_1488 rfl 0 rfl ?_
      refine l_iload hC dL_law_1489 4 rfl ?_
      refine l_iconst (v := 2) hC dL_law_1491 (by decide) ?_
      refine l_iadd hC dL_law_1492 ?_
      obtain ⟨c336, h⟩ := h
      refine l_sld hC c336 dL_law_1493 ?_
      refine l_aload_n hC dL_law_1494 rfl 3 rfl ?_
      refine l_wcall (n := 4) hC [.ref xa, .int (xs (x + 1).toNatClampNeg), .int (xs (x + 2).toNatClampNeg), .ref oa] (fun α sz => cm_L_agrees l hlf dC dI dA _ α _ (xs (x + 1).toNatClampNeg) (xs (x + 2).toNatClampNeg) _ h sz) (fun α h0 h17 => by rw [← h0, ← h17]; rfl) gL_law_L_agrees rfl ⟨rfl, rfl⟩ (by decide +kernel) ⟨Nat.le_of_ble_eq_true rfl, Nat.le_of_ble_eq_true rfl⟩ rfl rfl ⟨by show _ ≤ 601024; omega, by show _ ≤ 7293034; omega⟩ dL_law_1495 (fun x337 σ338 L339 hn => ?_)
      clear h
      revert hn
      intro h
      refine l_topm (fun ρ340 qρ340 => ?_)
      replace h := h ρ340 qρ340
      refine l_istore (lv' := [(5, .int x337), (0, .ref b), (1, .ref xa), (2, .ref ma), (3, .ref oa), (4, .int x)]) hC dL_law_1498 (by decide) rfl ?_
      refine l_aload_n hC dL_law_1500 rfl 3 rfl ?_
      refine l_aload_n hC dL_law_1501 rfl 1 rfl ?_
      refine l_iload hC dL_law_1502 5 rfl ?_
      refine l_iconst (v := 1) hC dL_law_1504 (by decide) ?_
      refine l_iadd hC dL_law_1505 ?_
      obtain ⟨c341, h⟩ := h
      refine l_sld hC c341 dL_law_1506 ?_
      refine l_aload_n hC dL_law_1507 rfl 1 rfl ?_
      refine l_iload hC dL_law_1508 5 rfl ?_
      refine l_iconst (v := 2) hC dL_law_1510 (by decide) ?_
      refine l_iadd hC dL_law_1511 ?_
      obtain ⟨c342, h⟩ := h
      refine l_sld hC c342 dL_law_1512 ?_
      refine l_mcalli (n := 2) hC [.int (xs (x + 1).toNatClampNeg), .int (xs (x + 2).toNatClampNeg)] [] (fun β sz => cm_X7_agrees l dC dI dA β _ (xs (x + 1).toNatClampNeg) (xs (x + 2).toNatClampNeg) _ h sz) gL_law_X7_agrees rfl ⟨rfl, rfl⟩ (by decide +kernel) ⟨Nat.le_of_ble_eq_true rfl, Nat.le_of_ble_eq_true rfl⟩ rfl rfl (Nat.le_of_ble_eq_true rfl) ⟨by show _ ≤ 601024; omega, by show _ ≤ 7293034; omega⟩ dL_law_1513 (fun x343 τ344 hn => ?_)
      clear h
      revert hn
      intro h
      refine l_topm (fun ρ345 qρ345 => ?_)
      replace h := h ρ345 qρ345
      refine l_istore (lv' := [(6, .int x343), (5, .int x337), (0, .ref b), (1, .ref xa), (2, .ref ma), (3, .ref oa), (4, .int x)]) hC dL_law_1516 (by decide) rfl ?_
      refine l_aload_n hC dL_law_1518 rfl 4 rfl ?_
      refine l_mcalli (n := 0) hC [] [] (fun β sz => cm_X7_thrown l dC dI dA β _  _ h sz) gL_law_X7_thrown rfl ⟨rfl, rfl⟩ (by decide +kernel) ⟨Nat.le_of_ble_eq_true rfl, Nat.le_of_ble_eq_true rfl⟩ rfl rfl (Nat.le_of_ble_eq_true rfl) ⟨by show _ ≤ 601024; omega, by show _ ≤ 7293034; omega⟩ dL_law_1519 (fun x346 τ347 hn => ?_)
      clear h
      revert hn
      intro h
      refine l_topm (fun ρ348 qρ348 => ?_)
      replace h := h ρ348 qρ348
      refine l_iload hC dL_law_1522 1 rfl ?_
      refine l_icmp_eq (tgt := 1529) hC dL_law_1524 (by decide) (fun q => ?_) (fun q => ?_)
      · replace h := h.1 q
        refine l_iload hC dL_law_1529 1 rfl ?_
        obtain ⟨J350, hJ350, h⟩ := h
        have KJ350 : ∀ (σ349 : Rh), J350 σ349 → GL p l e s m #[Value.ref b] below meth c (64 + 16 * k + 16) (8000 + 2000 * k + 2000) Q dC dI dA A xa oa ma σ349 1553 [(0, .ref b), (1, .ref xa), (2, .ref ma), (3, .ref oa), (4, .int x)] [] := by
          clear h
          intro σ349 h
          replace h := hJ350 σ349 h
          refine l_goto (tgt := 1827) hC dL_law_1553 (by decide) ?_
          refine l_widen (cells' := 64 + 16 * (k + 1)) (slots' := 8000 + 2000 * (k + 1)) (by omega) (by omega) ?_
          exact KJ4 σ349 h
        refine l_if_ne (tgt := 1553) hC dL_law_1531 (by decide) (fun q => ?_) (fun q => ?_)
        · replace h := h.1 q
          refine l_lvs [2, 3, 4, 5, 6] rfl ?_
          exact KJ350 ρ348 h
        · replace h := h.2 q
          refine l_aload_n hC dL_law_1534 rfl 5 rfl ?_
          refine l_iconst (v := 0) hC dL_law_1535 (by decide) ?_
          obtain ⟨c351, h⟩ := h
          refine l_lald hC c351 dL_law_1536 ?_
          refine l_iload hC dL_law_1537 0 rfl ?_
          obtain ⟨J354, hJ354, h⟩ := h
          have KJ354 : ∀ (σ352 : Rh) (y353 : Int64), J354 σ352 y353 → GL p l e s m #[Value.ref b] below meth c (64 + 16 * k + 16) (8000 + 2000 * k + 2000) Q dC dI dA A xa oa ma σ352 1547 [(0, .ref b), (1, .ref xa), (2, .ref ma), (3, .ref oa), (4, .int x)] [.long y353, .long (gJ ρ348.1 17 (0 : Int32).toNatClampNeg)] := by
            clear h
            intro σ352 y353 h
            replace h := hJ354 σ352 y353 h
            refine l_lcmp_eq (tgt := 1553) hC dL_law_1547 dL_law_1548 (by decide) (fun q => ?_) (fun q => ?_)
            · replace h := h.1 q
              exact KJ350 σ352 h
            · replace h := h.2 q
              refine l_iconst (v := 0) hC dL_law_1551 (by decide) ?_
              exact h.elim
          refine l_if_eq (tgt := 1546) hC dL_law_1539 (by decide) (fun q => ?_) (fun q => ?_)
          · replace h := h.1 q
            refine l_lconst (v := 0) hC dL_law_1546 (by decide) ?_
            refine l_lvs [2, 3, 4, 5, 6] rfl ?_
            exact KJ354 ρ348 0 h
          · replace h := h.2 q
            refine l_lconst (v := 1) hC dL_law_1542 (by decide) ?_
            refine l_goto (tgt := 1547) hC dL_law_1543 (by decide) ?_
            refine l_lvs [2, 3, 4, 5, 6] rfl ?_
            exact KJ354 ρ348 1 h
      · replace h := h.2 q
        refine l_iconst (v := 0) hC dL_law_1527 (by decide) ?_
        exact h.elim
    · replace h := h.2.2.2.2.2.2.2.2.2.2.2.2.2.2.2.2.2.2.1 z
      rw [z]
      refine l_tin (tgt := 1556) (off := 1516) hC dL_law_40 (by decide) (by decide) (by decide +kernel) (by decide) ?_
      refine l_aload_n hC dL_law_1556 rfl 1 rfl ?_
      refine l_aload_n hC dL_law_1557 rfl 0 rfl ?_
      refine l_iload hC dL_law_1558 4 rfl ?_
      refine l_iconst (v := 1) hC dL_law_1560 (by decide) ?_
      refine l_iadd hC dL_law_1561 ?_
      obtain ⟨c355, h⟩ := h
      refine l_sld hC c355 dL_law_1562 ?_
      refine l_aload_n hC dL_law_1563 rfl 0 rfl ?_
      refine l_iload hC dL_law_1564 4 rfl ?_
      refine l_iconst (v := 2) hC dL_law_1566 (by decide) ?_
      refine l_iadd hC dL_law_1567 ?_
      obtain ⟨c356, h⟩ := h
      refine l_sld hC c356 dL_law_1568 ?_
      obtain ⟨J359, hJ359, h⟩ := h
      have KJ359 : ∀ (σ357 : Rh) (x358 : Int32), J359 σ357 x358 → GL p l e s m #[Value.ref b] below meth c (64 + 16 * k) (8000 + 2000 * k) Q dC dI dA A xa oa ma σ357 1577 [(0, .ref b), (1, .ref xa), (2, .ref ma), (3, .ref oa), (4, .int x)] [.int x358, .int (xs (x + 1).toNatClampNeg), .ref xa] := by
        clear h
        intro σ357 x358 h
        replace h := hJ359 σ357 x358 h
        refine l_aload_n hC dL_law_1577 rfl 3 rfl ?_
        refine l_wcall (n := 4) hC [.ref xa, .int (xs (x + 1).toNatClampNeg), .int x358, .ref oa] (fun α sz => cm_L_suspend l hlf dC dI dA _ α _ (xs (x + 1).toNatClampNeg) x358 _ h sz) (fun α h0 h17 => by rw [← h0, ← h17]; rfl) gL_law_L_suspend rfl ⟨rfl, rfl⟩ (by decide +kernel) ⟨Nat.le_of_ble_eq_true rfl, Nat.le_of_ble_eq_true rfl⟩ rfl rfl ⟨by show _ ≤ 601024; omega, by show _ ≤ 7293034; omega⟩ dL_law_1578 (fun x360 σ361 L362 hn => ?_)
        clear h
        revert hn
        intro h
        refine l_topm (fun ρ363 qρ363 => ?_)
        replace h := h ρ363 qρ363
        refine l_istore (lv' := [(5, .int x360), (0, .ref b), (1, .ref xa), (2, .ref ma), (3, .ref oa), (4, .int x)]) hC dL_law_1581 (by decide) rfl ?_
        refine l_aload_n hC dL_law_1583 rfl 3 rfl ?_
        refine l_aload_n hC dL_law_1584 rfl 1 rfl ?_
        refine l_iload hC dL_law_1585 5 rfl ?_
        refine l_iconst (v := 1) hC dL_law_1587 (by decide) ?_
        refine l_iadd hC dL_law_1588 ?_
        obtain ⟨c364, h⟩ := h
        refine l_sld hC c364 dL_law_1589 ?_
        refine l_aload_n hC dL_law_1590 rfl 1 rfl ?_
        refine l_iload hC dL_law_1591 5 rfl ?_
        refine l_iconst (v := 2) hC dL_law_1593 (by decide) ?_
        refine l_iadd hC dL_law_1594 ?_
        obtain ⟨c365, h⟩ := h
        refine l_sld hC c365 dL_law_1595 ?_
        obtain ⟨J368, hJ368, h⟩ := h
        have KJ368 : ∀ (σ366 : Rh) (x367 : Int32), J368 σ366 x367 → GL p l e s m #[Value.ref b] below meth c (64 + 16 * (k + 1)) (8000 + 2000 * (k + 1)) Q dC dI dA A xa oa ma σ366 1604 [(0, .ref b), (1, .ref xa), (2, .ref ma), (3, .ref oa), (4, .int x), (5, .int x360)] [.int x367, .int (xs (x + 1).toNatClampNeg), .ref ma] := by
          clear h
          intro σ366 x367 h
          replace h := hJ368 σ366 x367 h
          refine l_mcalli (n := 2) hC [.int (xs (x + 1).toNatClampNeg), .int x367] [] (fun β sz => cm_X7_suspend l dC dI dA β _ (xs (x + 1).toNatClampNeg) x367 _ h sz) gL_law_X7_suspend rfl ⟨rfl, rfl⟩ (by decide +kernel) ⟨Nat.le_of_ble_eq_true rfl, Nat.le_of_ble_eq_true rfl⟩ rfl rfl (Nat.le_of_ble_eq_true rfl) ⟨by show _ ≤ 601024; omega, by show _ ≤ 7293034; omega⟩ dL_law_1604 (fun x369 τ370 hn => ?_)
          clear h
          revert hn
          intro h
          refine l_topm (fun ρ371 qρ371 => ?_)
          replace h := h ρ371 qρ371
          refine l_istore (lv' := [(6, .int x369), (0, .ref b), (1, .ref xa), (2, .ref ma), (3, .ref oa), (4, .int x), (5, .int x360)]) hC dL_law_1607 (by decide) rfl ?_
          refine l_aload_n hC dL_law_1609 rfl 3 rfl ?_
          refine l_mcalli (n := 0) hC [] [] (fun β sz => cm_X7_thrown l dC dI dA β _  _ h sz) gL_law_X7_thrown rfl ⟨rfl, rfl⟩ (by decide +kernel) ⟨Nat.le_of_ble_eq_true rfl, Nat.le_of_ble_eq_true rfl⟩ rfl rfl (Nat.le_of_ble_eq_true rfl) ⟨by show _ ≤ 601024; omega, by show _ ≤ 7293034; omega⟩ dL_law_1610 (fun x372 τ373 hn => ?_)
          clear h
          revert hn
          intro h
          refine l_topm (fun ρ374 qρ374 => ?_)
          replace h := h ρ374 qρ374
          refine l_iload hC dL_law_1613 6 rfl ?_
          refine l_icmp_eq (tgt := 1620) hC dL_law_1615 (by decide) (fun q => ?_) (fun q => ?_)
          · replace h := h.1 q
            refine l_iload hC dL_law_1620 6 rfl ?_
            obtain ⟨J376, hJ376, h⟩ := h
            have KJ376 : ∀ (σ375 : Rh), J376 σ375 → GL p l e s m #[Value.ref b] below meth c (64 + 16 * (k + 1)) (8000 + 2000 * (k + 1)) Q dC dI dA A xa oa ma σ375 1644 [(0, .ref b), (1, .ref xa), (2, .ref ma), (3, .ref oa), (4, .int x)] [] := by
              clear h
              intro σ375 h
              replace h := hJ376 σ375 h
              refine l_goto (tgt := 1827) hC dL_law_1644 (by decide) ?_
              exact KJ4 σ375 h
            refine l_if_ne (tgt := 1644) hC dL_law_1622 (by decide) (fun q => ?_) (fun q => ?_)
            · replace h := h.1 q
              refine l_lvs [1, 2, 3, 4, 5] rfl ?_
              exact KJ376 ρ374 h
            · replace h := h.2 q
              refine l_aload_n hC dL_law_1625 rfl 4 rfl ?_
              refine l_iconst (v := 0) hC dL_law_1626 (by decide) ?_
              obtain ⟨c377, h⟩ := h
              refine l_lald hC c377 dL_law_1627 ?_
              refine l_iload hC dL_law_1628 0 rfl ?_
              obtain ⟨J380, hJ380, h⟩ := h
              have KJ380 : ∀ (σ378 : Rh) (y379 : Int64), J380 σ378 y379 → GL p l e s m #[Value.ref b] below meth c (64 + 16 * (k + 1)) (8000 + 2000 * (k + 1)) Q dC dI dA A xa oa ma σ378 1638 [(0, .ref b), (1, .ref xa), (2, .ref ma), (3, .ref oa), (4, .int x)] [.long y379, .long (gJ ρ374.1 17 (0 : Int32).toNatClampNeg)] := by
                clear h
                intro σ378 y379 h
                replace h := hJ380 σ378 y379 h
                refine l_lcmp_eq (tgt := 1644) hC dL_law_1638 dL_law_1639 (by decide) (fun q => ?_) (fun q => ?_)
                · replace h := h.1 q
                  exact KJ376 σ378 h
                · replace h := h.2 q
                  refine l_iconst (v := 0) hC dL_law_1642 (by decide) ?_
                  exact h.elim
              refine l_if_eq (tgt := 1637) hC dL_law_1630 (by decide) (fun q => ?_) (fun q => ?_)
              · replace h := h.1 q
                refine l_lconst (v := 0) hC dL_law_1637 (by decide) ?_
                refine l_lvs [1, 2, 3, 4, 5] rfl ?_
                exact KJ380 ρ374 0 h
              · replace h := h.2 q
                refine l_lconst (v := 1) hC dL_law_1633 (by decide) ?_
                refine l_goto (tgt := 1638) hC dL_law_1634 (by decide) ?_
                refine l_lvs [1, 2, 3, 4, 5] rfl ?_
                exact KJ380 ρ374 1 h
          · replace h := h.2 q
            refine l_iconst (v := 0) hC dL_law_1618 (by decide) ?_
            exact h.elim
        refine l_if_eq (tgt := 1603) hC dL_law_1596 (by decide) (fun q => ?_) (fun q => ?_)
        · replace h := h.1 q
          refine l_iconst (v := 0) hC dL_law_1603 (by decide) ?_
          refine l_widen (cells' := 64 + 16 * (k + 1)) (slots' := 8000 + 2000 * (k + 1)) (by omega) (by omega) ?_
          refine l_lvs [1, 2, 3, 4, 5, 0] rfl ?_
          exact KJ368 ρ363 0 h
        · replace h := h.2 q
          refine l_iconst (v := 1) hC dL_law_1599 (by decide) ?_
          refine l_goto (tgt := 1604) hC dL_law_1600 (by decide) ?_
          refine l_widen (cells' := 64 + 16 * (k + 1)) (slots' := 8000 + 2000 * (k + 1)) (by omega) (by omega) ?_
          refine l_lvs [1, 2, 3, 4, 5, 0] rfl ?_
          exact KJ368 ρ363 1 h
      refine l_if_eq (tgt := 1576) hC dL_law_1569 (by decide) (fun q => ?_) (fun q => ?_)
      · replace h := h.1 q
        refine l_iconst (v := 0) hC dL_law_1576 (by decide) ?_
        exact KJ359 ρ 0 h
      · replace h := h.2 q
        refine l_iconst (v := 1) hC dL_law_1572 (by decide) ?_
        refine l_goto (tgt := 1577) hC dL_law_1573 (by decide) ?_
        exact KJ359 ρ 1 h
    · replace h := h.2.2.2.2.2.2.2.2.2.2.2.2.2.2.2.2.2.2.2.1 z
      rw [z]
      refine l_tin (tgt := 1647) (off := 1607) hC dL_law_40 (by decide) (by decide) (by decide +kernel) (by decide) ?_
      refine l_aload_n hC dL_law_1647 rfl 1 rfl ?_
      refine l_aload_n hC dL_law_1648 rfl 0 rfl ?_
      refine l_iload hC dL_law_1649 4 rfl ?_
      refine l_iconst (v := 1) hC dL_law_1651 (by decide) ?_
      refine l_iadd hC dL_law_1652 ?_
      obtain ⟨c381, h⟩ := h
      refine l_sld hC c381 dL_law_1653 ?_
      refine l_aload_n hC dL_law_1654 rfl 3 rfl ?_
      refine l_wcall (n := 3) hC [.ref xa, .int (xs (x + 1).toNatClampNeg), .ref oa] (fun α sz => cm_L_least l hlf dC dI dA _ α _ (xs (x + 1).toNatClampNeg) _ h sz) (fun α h0 h17 => by rw [← h0, ← h17]; rfl) gL_law_L_least rfl ⟨rfl, rfl⟩ (by decide +kernel) ⟨Nat.le_of_ble_eq_true rfl, Nat.le_of_ble_eq_true rfl⟩ rfl rfl ⟨by show _ ≤ 601024; omega, by show _ ≤ 7293034; omega⟩ dL_law_1655 (fun x382 σ383 L384 hn => ?_)
      clear h
      revert hn
      intro h
      refine l_topm (fun ρ385 qρ385 => ?_)
      replace h := h ρ385 qρ385
      refine l_istore (lv' := [(5, .int x382), (0, .ref b), (1, .ref xa), (2, .ref ma), (3, .ref oa), (4, .int x)]) hC dL_law_1658 (by decide) rfl ?_
      refine l_aload_n hC dL_law_1660 rfl 3 rfl ?_
      refine l_aload_n hC dL_law_1661 rfl 1 rfl ?_
      refine l_iload hC dL_law_1662 5 rfl ?_
      refine l_iconst (v := 1) hC dL_law_1664 (by decide) ?_
      refine l_iadd hC dL_law_1665 ?_
      obtain ⟨c386, h⟩ := h
      refine l_sld hC c386 dL_law_1666 ?_
      refine l_mcalli (n := 1) hC [.int (xs (x + 1).toNatClampNeg)] [] (fun β sz => cm_X7_least l dC dI dA β _ (xs (x + 1).toNatClampNeg) _ h sz) gL_law_X7_least rfl ⟨rfl, rfl⟩ (by decide +kernel) ⟨Nat.le_of_ble_eq_true rfl, Nat.le_of_ble_eq_true rfl⟩ rfl rfl (Nat.le_of_ble_eq_true rfl) ⟨by show _ ≤ 601024; omega, by show _ ≤ 7293034; omega⟩ dL_law_1667 (fun x387 τ388 hn => ?_)
      clear h
      revert hn
      intro h
      refine l_topm (fun ρ389 qρ389 => ?_)
      replace h := h ρ389 qρ389
      refine l_istore (lv' := [(6, .int x387), (5, .int x382), (0, .ref b), (1, .ref xa), (2, .ref ma), (3, .ref oa), (4, .int x)]) hC dL_law_1670 (by decide) rfl ?_
      refine l_aload_n hC dL_law_1672 rfl 4 rfl ?_
      refine l_mcalli (n := 0) hC [] [] (fun β sz => cm_X7_thrown l dC dI dA β _  _ h sz) gL_law_X7_thrown rfl ⟨rfl, rfl⟩ (by decide +kernel) ⟨Nat.le_of_ble_eq_true rfl, Nat.le_of_ble_eq_true rfl⟩ rfl rfl (Nat.le_of_ble_eq_true rfl) ⟨by show _ ≤ 601024; omega, by show _ ≤ 7293034; omega⟩ dL_law_1673 (fun x390 τ391 hn => ?_)
      clear h
      revert hn
      intro h
      refine l_topm (fun ρ392 qρ392 => ?_)
      replace h := h ρ392 qρ392
      refine l_iload hC dL_law_1676 1 rfl ?_
      refine l_icmp_eq (tgt := 1683) hC dL_law_1678 (by decide) (fun q => ?_) (fun q => ?_)
      · replace h := h.1 q
        refine l_iload hC dL_law_1683 1 rfl ?_
        obtain ⟨J394, hJ394, h⟩ := h
        have KJ394 : ∀ (σ393 : Rh), J394 σ393 → GL p l e s m #[Value.ref b] below meth c (64 + 16 * k + 16) (8000 + 2000 * k + 2000) Q dC dI dA A xa oa ma σ393 1700 [(0, .ref b), (1, .ref xa), (2, .ref ma), (3, .ref oa), (4, .int x)] [] := by
          clear h
          intro σ393 h
          replace h := hJ394 σ393 h
          refine l_goto (tgt := 1827) hC dL_law_1700 (by decide) ?_
          refine l_widen (cells' := 64 + 16 * (k + 1)) (slots' := 8000 + 2000 * (k + 1)) (by omega) (by omega) ?_
          exact KJ4 σ393 h
        refine l_if_ne (tgt := 1700) hC dL_law_1685 (by decide) (fun q => ?_) (fun q => ?_)
        · replace h := h.1 q
          refine l_lvs [2, 3, 4, 5, 6] rfl ?_
          exact KJ394 ρ392 h
        · replace h := h.2 q
          refine l_aload_n hC dL_law_1688 rfl 5 rfl ?_
          refine l_iconst (v := 0) hC dL_law_1689 (by decide) ?_
          obtain ⟨c395, h⟩ := h
          refine l_lald hC c395 dL_law_1690 ?_
          refine l_iload hC dL_law_1691 0 rfl ?_
          refine l_i2l hC dL_law_1693 ?_
          refine l_lcmp_eq (tgt := 1700) hC dL_law_1694 dL_law_1695 (by decide) (fun q => ?_) (fun q => ?_)
          · replace h := h.1 q
            refine l_lvs [2, 3, 4, 5, 6] rfl ?_
            exact KJ394 ρ392 h
          · replace h := h.2 q
            refine l_iconst (v := 0) hC dL_law_1698 (by decide) ?_
            exact h.elim
      · replace h := h.2 q
        refine l_iconst (v := 0) hC dL_law_1681 (by decide) ?_
        exact h.elim
    · replace h := h.2.2.2.2.2.2.2.2.2.2.2.2.2.2.2.2.2.2.2.2.1 z
      rw [z]
      refine l_tin (tgt := 1703) (off := 1663) hC dL_law_40 (by decide) (by decide) (by decide +kernel) (by decide) ?_
      refine l_aload_n hC dL_law_1703 rfl 1 rfl ?_
      refine l_pcall hC (fun α sz => cm_X6_payDay l dC dI dA _ α _ _ h sz) gL_law_X6_payDay rfl ⟨rfl, rfl⟩ (by decide +kernel) ⟨Nat.le_of_ble_eq_true rfl, Nat.le_of_ble_eq_true rfl⟩ ⟨by show _ ≤ 601024; omega, by show _ ≤ 7293034; omega⟩ dL_law_1704 (fun y396 σ397 hn => ?_)
      clear h
      revert hn
      intro h
      refine l_topm (fun ρ398 qρ398 => ?_)
      replace h := h ρ398 qρ398
      refine l_aload_n hC dL_law_1707 rfl 2 rfl ?_
      refine l_mcalll (n := 0) hC [] [.long y396] (fun β sz => cm_X7_payDay l dC dI dA β _  _ h sz) gL_law_X7_payDay rfl ⟨rfl, rfl⟩ (by decide +kernel) ⟨Nat.le_of_ble_eq_true rfl, Nat.le_of_ble_eq_true rfl⟩ rfl rfl (Nat.le_of_ble_eq_true rfl) ⟨by show _ ≤ 601024; omega, by show _ ≤ 7293034; omega⟩ dL_law_1708 (fun y399 τ400 hn => ?_)
      clear h
      revert hn
      intro h
      refine l_topm (fun ρ401 qρ401 => ?_)
      replace h := h ρ401 qρ401
      refine l_lcmp_eq (tgt := 1827) hC dL_law_1711 dL_law_1712 (by decide) (fun q => ?_) (fun q => ?_)
      · replace h := h.1 q
        refine l_widen (cells' := 64 + 16 * (k + 1)) (slots' := 8000 + 2000 * (k + 1)) (by omega) (by omega) ?_
        exact KJ4 ρ401 h
      · replace h := h.2 q
        refine l_iconst (v := 0) hC dL_law_1715 (by decide) ?_
        exact h.elim
    · replace h := h.2.2.2.2.2.2.2.2.2.2.2.2.2.2.2.2.2.2.2.2.2.1 z
      rw [z]
      refine l_tin (tgt := 1717) (off := 1677) hC dL_law_40 (by decide) (by decide) (by decide +kernel) (by decide) ?_
      refine l_aload_n hC dL_law_1717 rfl 1 rfl ?_
      refine l_aload_n hC dL_law_1718 rfl 0 rfl ?_
      refine l_iload hC dL_law_1719 4 rfl ?_
      refine l_iconst (v := 1) hC dL_law_1721 (by decide) ?_
      refine l_iadd hC dL_law_1722 ?_
      obtain ⟨c402, h⟩ := h
      refine l_sld hC c402 dL_law_1723 ?_
      refine l_aload_n hC dL_law_1724 rfl 3 rfl ?_
      refine l_wcall (n := 3) hC [.ref xa, .int (xs (x + 1).toNatClampNeg), .ref oa] (fun α sz => cm_L_owed l hlf dC dI dA _ α _ (xs (x + 1).toNatClampNeg) _ h sz) (fun α h0 h17 => by rw [← h0, ← h17]; rfl) gL_law_L_owed rfl ⟨rfl, rfl⟩ (by decide +kernel) ⟨Nat.le_of_ble_eq_true rfl, Nat.le_of_ble_eq_true rfl⟩ rfl rfl ⟨by show _ ≤ 601024; omega, by show _ ≤ 7293034; omega⟩ dL_law_1725 (fun x403 σ404 L405 hn => ?_)
      clear h
      revert hn
      intro h
      refine l_topm (fun ρ406 qρ406 => ?_)
      replace h := h ρ406 qρ406
      refine l_istore (lv' := [(5, .int x403), (0, .ref b), (1, .ref xa), (2, .ref ma), (3, .ref oa), (4, .int x)]) hC dL_law_1728 (by decide) rfl ?_
      refine l_aload_n hC dL_law_1730 rfl 3 rfl ?_
      refine l_aload_n hC dL_law_1731 rfl 1 rfl ?_
      refine l_iload hC dL_law_1732 5 rfl ?_
      refine l_iconst (v := 1) hC dL_law_1734 (by decide) ?_
      refine l_iadd hC dL_law_1735 ?_
      obtain ⟨c407, h⟩ := h
      refine l_sld hC c407 dL_law_1736 ?_
      refine l_mcalll (n := 1) hC [.int (xs (x + 1).toNatClampNeg)] [] (fun β sz => cm_X7_owed l dC dI dA β _ (xs (x + 1).toNatClampNeg) _ h sz) gL_law_X7_owed rfl ⟨rfl, rfl⟩ (by decide +kernel) ⟨Nat.le_of_ble_eq_true rfl, Nat.le_of_ble_eq_true rfl⟩ rfl rfl (Nat.le_of_ble_eq_true rfl) ⟨by show _ ≤ 601024; omega, by show _ ≤ 7293034; omega⟩ dL_law_1737 (fun y408 τ409 hn => ?_)
      clear h
      revert hn
      intro h
      refine l_topm (fun ρ410 qρ410 => ?_)
      replace h := h ρ410 qρ410
      refine l_lstore (lv' := [(6, .long y408), (5, .int x403), (0, .ref b), (1, .ref xa), (2, .ref ma), (3, .ref oa), (4, .int x)]) hC dL_law_1740 (by decide) rfl ?_
      refine l_aload_n hC dL_law_1742 rfl 4 rfl ?_
      refine l_mcalli (n := 0) hC [] [] (fun β sz => cm_X7_thrown l dC dI dA β _  _ h sz) gL_law_X7_thrown rfl ⟨rfl, rfl⟩ (by decide +kernel) ⟨Nat.le_of_ble_eq_true rfl, Nat.le_of_ble_eq_true rfl⟩ rfl rfl (Nat.le_of_ble_eq_true rfl) ⟨by show _ ≤ 601024; omega, by show _ ≤ 7293034; omega⟩ dL_law_1743 (fun x411 τ412 hn => ?_)
      clear h
      revert hn
      intro h
      refine l_topm (fun ρ413 qρ413 => ?_)
      replace h := h ρ413 qρ413
      refine l_iload hC dL_law_1746 1 rfl ?_
      refine l_icmp_eq (tgt := 1753) hC dL_law_1748 (by decide) (fun q => ?_) (fun q => ?_)
      · replace h := h.1 q
        refine l_iload hC dL_law_1753 1 rfl ?_
        obtain ⟨J415, hJ415, h⟩ := h
        have KJ415 : ∀ (σ414 : Rh), J415 σ414 → GL p l e s m #[Value.ref b] below meth c (64 + 16 * k + 16) (8000 + 2000 * k + 2000) Q dC dI dA A xa oa ma σ414 1769 [(0, .ref b), (1, .ref xa), (2, .ref ma), (3, .ref oa), (4, .int x)] [] := by
          clear h
          intro σ414 h
          replace h := hJ415 σ414 h
          refine l_goto (tgt := 1827) hC dL_law_1769 (by decide) ?_
          refine l_widen (cells' := 64 + 16 * (k + 1)) (slots' := 8000 + 2000 * (k + 1)) (by omega) (by omega) ?_
          exact KJ4 σ414 h
        refine l_if_ne (tgt := 1769) hC dL_law_1755 (by decide) (fun q => ?_) (fun q => ?_)
        · replace h := h.1 q
          refine l_lvs [2, 3, 4, 5, 6] rfl ?_
          exact KJ415 ρ413 h
        · replace h := h.2 q
          refine l_aload_n hC dL_law_1758 rfl 5 rfl ?_
          refine l_iconst (v := 0) hC dL_law_1759 (by decide) ?_
          obtain ⟨c416, h⟩ := h
          refine l_lald hC c416 dL_law_1760 ?_
          refine l_lload hC dL_law_1761 0 rfl ?_
          refine l_lcmp_eq (tgt := 1769) hC dL_law_1763 dL_law_1764 (by decide) (fun q => ?_) (fun q => ?_)
          · replace h := h.1 q
            refine l_lvs [2, 3, 4, 5, 6] rfl ?_
            exact KJ415 ρ413 h
          · replace h := h.2 q
            refine l_iconst (v := 0) hC dL_law_1767 (by decide) ?_
            exact h.elim
      · replace h := h.2 q
        refine l_iconst (v := 0) hC dL_law_1751 (by decide) ?_
        exact h.elim
    · replace h := h.2.2.2.2.2.2.2.2.2.2.2.2.2.2.2.2.2.2.2.2.2.2.1 z
      rw [z]
      refine l_tin (tgt := 1772) (off := 1732) hC dL_law_40 (by decide) (by decide) (by decide +kernel) (by decide) ?_
      refine l_aload_n hC dL_law_1772 rfl 1 rfl ?_
      refine l_aload_n hC dL_law_1773 rfl 0 rfl ?_
      refine l_iload hC dL_law_1774 4 rfl ?_
      refine l_iconst (v := 1) hC dL_law_1776 (by decide) ?_
      refine l_iadd hC dL_law_1777 ?_
      obtain ⟨c417, h⟩ := h
      refine l_sld hC c417 dL_law_1778 ?_
      refine l_aload_n hC dL_law_1779 rfl 3 rfl ?_
      refine l_wcall (n := 3) hC [.ref xa, .int (xs (x + 1).toNatClampNeg), .ref oa] (fun α sz => cm_L_paid l hlf dC dI dA _ α _ (xs (x + 1).toNatClampNeg) _ h sz) (fun α h0 h17 => by rw [← h0, ← h17]; rfl) gL_law_L_paid rfl ⟨rfl, rfl⟩ (by decide +kernel) ⟨Nat.le_of_ble_eq_true rfl, Nat.le_of_ble_eq_true rfl⟩ rfl rfl ⟨by show _ ≤ 601024; omega, by show _ ≤ 7293034; omega⟩ dL_law_1780 (fun x418 σ419 L420 hn => ?_)
      clear h
      revert hn
      intro h
      refine l_topm (fun ρ421 qρ421 => ?_)
      replace h := h ρ421 qρ421
      refine l_istore (lv' := [(5, .int x418), (0, .ref b), (1, .ref xa), (2, .ref ma), (3, .ref oa), (4, .int x)]) hC dL_law_1783 (by decide) rfl ?_
      refine l_aload_n hC dL_law_1785 rfl 3 rfl ?_
      refine l_aload_n hC dL_law_1786 rfl 1 rfl ?_
      refine l_iload hC dL_law_1787 5 rfl ?_
      refine l_iconst (v := 1) hC dL_law_1789 (by decide) ?_
      refine l_iadd hC dL_law_1790 ?_
      obtain ⟨c422, h⟩ := h
      refine l_sld hC c422 dL_law_1791 ?_
      refine l_mcalll (n := 1) hC [.int (xs (x + 1).toNatClampNeg)] [] (fun β sz => cm_X7_paid l dC dI dA β _ (xs (x + 1).toNatClampNeg) _ h sz) gL_law_X7_paid rfl ⟨rfl, rfl⟩ (by decide +kernel) ⟨Nat.le_of_ble_eq_true rfl, Nat.le_of_ble_eq_true rfl⟩ rfl rfl (Nat.le_of_ble_eq_true rfl) ⟨by show _ ≤ 601024; omega, by show _ ≤ 7293034; omega⟩ dL_law_1792 (fun y423 τ424 hn => ?_)
      clear h
      revert hn
      intro h
      refine l_topm (fun ρ425 qρ425 => ?_)
      replace h := h ρ425 qρ425
      refine l_lstore (lv' := [(6, .long y423), (5, .int x418), (0, .ref b), (1, .ref xa), (2, .ref ma), (3, .ref oa), (4, .int x)]) hC dL_law_1795 (by decide) rfl ?_
      refine l_aload_n hC dL_law_1797 rfl 4 rfl ?_
      refine l_mcalli (n := 0) hC [] [] (fun β sz => cm_X7_thrown l dC dI dA β _  _ h sz) gL_law_X7_thrown rfl ⟨rfl, rfl⟩ (by decide +kernel) ⟨Nat.le_of_ble_eq_true rfl, Nat.le_of_ble_eq_true rfl⟩ rfl rfl (Nat.le_of_ble_eq_true rfl) ⟨by show _ ≤ 601024; omega, by show _ ≤ 7293034; omega⟩ dL_law_1798 (fun x426 τ427 hn => ?_)
      clear h
      revert hn
      intro h
      refine l_topm (fun ρ428 qρ428 => ?_)
      replace h := h ρ428 qρ428
      refine l_iload hC dL_law_1801 1 rfl ?_
      refine l_icmp_eq (tgt := 1808) hC dL_law_1803 (by decide) (fun q => ?_) (fun q => ?_)
      · replace h := h.1 q
        refine l_iload hC dL_law_1808 1 rfl ?_
        obtain ⟨J430, hJ430, h⟩ := h
        have KJ430 : ∀ (σ429 : Rh), J430 σ429 → GL p l e s m #[Value.ref b] below meth c (64 + 16 * k + 16) (8000 + 2000 * k + 2000) Q dC dI dA A xa oa ma σ429 1824 [(0, .ref b), (1, .ref xa), (2, .ref ma), (3, .ref oa), (4, .int x)] [] := by
          clear h
          intro σ429 h
          replace h := hJ430 σ429 h
          refine l_goto (tgt := 1827) hC dL_law_1824 (by decide) ?_
          refine l_widen (cells' := 64 + 16 * (k + 1)) (slots' := 8000 + 2000 * (k + 1)) (by omega) (by omega) ?_
          exact KJ4 σ429 h
        refine l_if_ne (tgt := 1824) hC dL_law_1810 (by decide) (fun q => ?_) (fun q => ?_)
        · replace h := h.1 q
          refine l_lvs [2, 3, 4, 5, 6] rfl ?_
          exact KJ430 ρ428 h
        · replace h := h.2 q
          refine l_aload_n hC dL_law_1813 rfl 5 rfl ?_
          refine l_iconst (v := 0) hC dL_law_1814 (by decide) ?_
          obtain ⟨c431, h⟩ := h
          refine l_lald hC c431 dL_law_1815 ?_
          refine l_lload hC dL_law_1816 0 rfl ?_
          refine l_lcmp_eq (tgt := 1824) hC dL_law_1818 dL_law_1819 (by decide) (fun q => ?_) (fun q => ?_)
          · replace h := h.1 q
            refine l_lvs [2, 3, 4, 5, 6] rfl ?_
            exact KJ430 ρ428 h
          · replace h := h.2 q
            refine l_iconst (v := 0) hC dL_law_1822 (by decide) ?_
            exact h.elim
      · replace h := h.2 q
        refine l_iconst (v := 0) hC dL_law_1806 (by decide) ?_
        exact h.elim
    · replace h := h.2.2.2.2.2.2.2.2.2.2.2.2.2.2.2.2.2.2.2.2.2.2.2 z
      refine l_tout (tgt := 1827) hC dL_law_40 z (by decide) ?_
      refine l_widen (cells' := 64 + 16 * (k + 1)) (slots' := 8000 + 2000 * (k + 1)) (by omega) (by omega) ?_
      exact KJ4 ρ h
