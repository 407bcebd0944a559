/-! PURE: what is one together, and how far numbers go -/
theorem pt_le {a : Int} {w : Nat → Int} {n : Nat} (ha : 0 ≤ a) (h0 : ∀ i : Nat, i < n → 0 ≤ w i) (hs : 0 < sm w n) {i : Nat} (hi : i < n) : pt a w n i ≤ a := by
  have h1 : sm (pt a w n) n = a := pt_all (by omega) hs
  have h2 := sm_part (f := pt a w n) (n := n) (fun k hk => pt_nn ha h0 hs hk) hi
  omega
theorem dkp_all {C : Cr} (hI : Inv C) {u : Nat} (hu : u < nU C) (m : Nat) : sm (dkp C u m) 20 = 100000000 := pt_all (by decide) (dk_all hI hu m).1
theorem dkp_rg {C : Cr} (hI : Inv C) {u : Nat} (hu : u < nU C) (m : Nat) {i : Nat} (hi : i < 20) : 0 ≤ dkp C u m i ∧ dkp C u m i ≤ 100000000 :=
  ⟨pt_nn (by decide) (fun i _ => dk_nn hI u m i) (dk_all hI hu m).1 hi, pt_le (by decide) (fun i _ => dk_nn hI u m i) (dk_all hI hu m).1 hi⟩
theorem dkp_two {C : Cr} (hI : Inv C) {u : Nat} (hu : u < nU C) (m : Nat) : sm (fun k => dkp C u m k + dkp C u m (10 + k)) 10 = 100000000 := by
  have h : sm (dkp C u m) 20 = sm (dkp C u m) 10 + sm (fun i => dkp C u m (10 + i)) 10 := sm_split (f := dkp C u m) 10 10
  rw [sm_add, ← h, dkp_all hI hu m]
/-- dues of a unit and month are its revenue less its costs -/
theorem ds_sum {C : Cr} (hI : Inv C) {u : Nat} (hu : u < nU C) {m : Nat} (b : Nat → Int) : sm (ds C u m b) 10 = rv C u m - co C u m := by
  have w := w2_rg hI hu m b
  have d := dk_all hI hu m
  have e1 : sm (pt (co C u m) (w2 C u m b) 10) 10 = co C u m := pt_all (by decide) w.2.1
  have e2 : sm (pt (sm (of C u m b) 10) (w2 C u m b) 10) 10 = sm (of C u m b) 10 := pt_all (by decide) w.2.1
  have e3 : sm (p3 C u m) 20 = rv C u m := pt_all (by decide) d.1
  have e5 : sm (p3 C u m) 20 = sm (p3 C u m) 10 + sm (fun i => p3 C u m (10 + i)) 10 := sm_split (f := p3 C u m) 10 10
  have e6 : sm (ds C u m b) 10 = sm (fun o => ((p3 C u m o + p3 C u m (10 + o)) + pt (sm (of C u m b) 10) (w2 C u m b) 10 o) - (pt (co C u m) (w2 C u m b) 10 o + of C u m b o)) 10 := sm_cong (fun o _ => by unfold ds; omega)
  rw [e6, sm_sub, sm_add, sm_add, sm_add, e1, e2]
  omega
theorem du_sum {C : Cr} (hI : Inv C) {u : Nat} (hu : u < nU C) (m : Nat) : sm (du C u m) 10 = rv C u m - co C u m := ds_sum hI hu _
theorem ds_rg {C : Cr} (hI : Inv C) {u : Nat} (hu : u < nU C) {m : Nat} (hm : m < 61) {b : Nat → Int} (hb : ∀ o, o < 10 → 0 ≤ b o) {o : Nat} (ho : o < 10) : -60000000 ≤ ds C u m b o ∧ ds C u m b o ≤ 180000000 := by
  have w := w2_rg hI hu m b
  have c := co_rg hI u hm
  have f := of_rg hI hu hm ho (hb o ho)
  have q := wh_rg hI hu hm hb
  have p := (p3_rg hI hu hm).1
  have p1 := p o (by omega)
  have p2 := p (10 + o) (by omega)
  have x1 := pt_nn (a := co C u m) (w := w2 C u m b) (n := 10) c.1 (fun i _ => w.1 i) w.2.1 ho
  have x2 := pt_le (a := co C u m) (w := w2 C u m b) (n := 10) c.1 (fun i _ => w.1 i) w.2.1 ho
  have x3 := pt_nn (a := sm (of C u m b) 10) (w := w2 C u m b) (n := 10) q.1 (fun i _ => w.1 i) w.2.1 ho
  have x4 := pt_le (a := sm (of C u m b) 10) (w := w2 C u m b) (n := 10) q.1 (fun i _ => w.1 i) w.2.1 ho
  unfold ds
  omega
theorem du_rg {C : Cr} (hI : Inv C) {u : Nat} (hu : u < nU C) {m : Nat} (h1 : um C u ≤ m) (h2 : m < 61) {o : Nat} (ho : o < 10) : -60000000 ≤ du C u m o ∧ du C u m o ≤ 180000000 :=
  ds_rg hI hu h2 (fun p hp => (bl_rg hI hu (m - um C u) (by omega) p hp).1) ho
/-- all dues of an owner -/
def DD (C : Cr) (o : Nat) : Int := sm (fun u => sm (fun j => du C u (um C u + j) o) (nN C + 1 - um C u)) (nU C)
theorem ow_D (C : Cr) (o : Nat) : ow C o = DD C o - C 223 o := by
  show -C 223 o + DD C o = _
  omega
theorem sm_rg {f : Nat → Int} {n : Nat} {a b : Int} (h : ∀ k, k < n → a ≤ f k ∧ f k ≤ b) : n * a ≤ sm f n ∧ sm f n ≤ n * b := by
  have h1 := sm_le (f := fun _ => a) (g := f) (n := n) (fun k hk => (h k hk).1)
  have h2 := sm_le (f := f) (g := fun _ => b) (n := n) (fun k hk => (h k hk).2)
  rw [sm_const] at h1 h2
  exact ⟨h1, h2⟩
theorem DD_rg {C : Cr} (hI : Inv C) {o : Nat} (ho : o < 10) : -20000000000 ≤ DD C o ∧ DD C o ≤ 40000000000 := by
  have hn := hI.now
  have hu := hI.nu
  have hnN : ((nN C : Nat) : Int) = C 200 0 := by unfold nN; omega
  have hnU : ((nU C : Nat) : Int) = C 200 18 := by unfold nU; omega
  have k : ∀ u, u < nU C → -3700000000 ≤ sm (fun j => du C u (um C u + j) o) (nN C + 1 - um C u) ∧ sm (fun j => du C u (um C u + j) o) (nN C + 1 - um C u) ≤ 11000000000 := fun u hlt => by
    have r := sm_rg (f := fun j => du C u (um C u + j) o) (n := nN C + 1 - um C u) (a := -60000000) (b := 180000000) (fun j hj => du_rg hI hlt (by omega) (by omega) ho)
    omega
  have r := sm_rg (f := fun u => sm (fun j => du C u (um C u + j) o) (nN C + 1 - um C u)) (n := nU C) k
  unfold DD
  omega
theorem DD_sum {C : Cr} (hI : Inv C) : sm (DD C) 10 = sm (fun u => sm (fun j => rv C u (um C u + j)) (nN C + 1 - um C u)) (nU C) - sm (fun u => sm (fun j => co C u (um C u + j)) (nN C + 1 - um C u)) (nU C) := by
  show sm (fun o => sm (fun u => sm (fun j => du C u (um C u + j) o) (nN C + 1 - um C u)) (nU C)) 10 = _
  rw [sm_swap, ← sm_sub]
  refine sm_cong (fun u hu => ?_)
  rw [sm_swap, ← sm_sub]
  exact sm_cong (fun j _ => du_sum hI hu _)
/-- what was paid -/
def PB (C : Cr) : Prop := ∀ o : Nat, o < 10 → 0 ≤ C 223 o ∧ C 223 o ≤ 40000000000
theorem ow_rg {C : Cr} (hI : Inv C) (hP : PB C) {o : Nat} (ho : o < 10) : -60000000000 ≤ ow C o ∧ ow C o ≤ 40000000000 := by
  have := DD_rg hI ho
  have := hP o ho
  rw [ow_D]
  omega
theorem py_iff {C : Cr} (hI : Inv C) (hP : PB C) {o : Nat} (ho : o < 10) : py C o ↔ C 222 o = 0 ∧ C 200 28 ≤ ow C o := by
  have := ow_rg hI hP ho
  unfold py
  rw [toInt_lZ (by omega) (by omega)]
theorem uPay_3 {C : Cr} (hI : Inv C) (hP : PB C) {o : Nat} (ho : o < 10) : uPay C 10 223 o = C 223 o + (if py C o then ow C o else 0) := by
  have := ow_rg hI hP ho
  have := hP o ho
  unfold uPay
  by_cases h : py C o
  · rw [if_pos ⟨rfl, ho, h⟩, if_pos h, toInt_lZ (by omega) (by omega)]
  · rw [if_neg (fun z => h z.2.2), if_neg h]; omega
theorem uPay_E (C : Cr) (n : Nat) : rowE C (uPay C n) := ⟨⟨uPay_o (by decide), uPay_o (by decide), uPay_o (by decide), uPay_o (by decide), uPay_o (by decide)⟩, fun k a b => funext (fun i => uPay_o (by omega))⟩
theorem DD_pay {C : Cr} {n i : Nat} (hi : i < 10) : DD (uPay C n) i = DD C i := by
  have e200 : ∀ i, uPay C n 200 i = C 200 i := fun i => uPay_o (by decide)
  have he := uPay_E C n
  have eN : nN (uPay C n) = nN C := by unfold nN; rw [e200]
  have eU : nU (uPay C n) = nU C := by unfold nU; rw [e200]
  unfold DD
  rw [eU, eN]
  refine sm_cong (fun u _ => ?_)
  rw [um_E he u]
  exact sm_cong (fun j _ => du_cong (n := um C u + j + 1) (um_E he u) (e200 27) (fun m _ _ => sM_E he u m) (by omega) (by omega) hi)
theorem PB_pay {C : Cr} (hI : Inv C) (hP : PB C) : PB (uPay C 10) := by
  intro o ho
  have r := hP o ho
  have hl := hI.lst
  have d := DD_rg hI ho
  rw [uPay_3 hI hP ho]
  by_cases h : py C o
  · rw [if_pos h]
    have := ((py_iff hI hP ho).mp h).2
    have e := ow_D C o
    omega
  · rw [if_neg h]; omega
/-- what a pay day pays -/
def TP (C : Cr) : Int := sm (fun o => if py C o then ow C o else 0) 10
theorem TP_rg {C : Cr} (hI : Inv C) (hP : PB C) : 0 ≤ TP C ∧ TP C ≤ 400000000000 := by
  have hl := hI.lst
  have r := sm_rg (f := fun o => if py C o then ow C o else 0) (n := 10) (a := 0) (b := 40000000000) (fun o ho => by
    have := ow_rg hI hP ho
    show 0 ≤ (if py C o then ow C o else 0) ∧ (if py C o then ow C o else 0) ≤ 40000000000
    by_cases h : py C o
    · rw [if_pos h]
      have := ((py_iff hI hP ho).mp h).2
      omega
    · rw [if_neg h]; omega)
  unfold TP
  omega
theorem paid_sum {C : Cr} (hI : Inv C) (hP : PB C) : sm (fun o => uPay C 10 223 o) 10 = sm (fun o => C 223 o) 10 + TP C := by
  unfold TP
  rw [← sm_add]
  exact sm_cong (fun o ho => uPay_3 hI hP ho)
/-- a second pay day on the same day pays nothing -/
theorem TP_two {C : Cr} (hI : Inv C) (hP : PB C) : TP (uPay C 10) = 0 := by
  have hI1 : Inv (uPay C 10) := Inv_pay hI
  have hP1 := PB_pay hI hP
  have hl := hI.lst
  unfold TP
  refine sm_zero (fun o ho => ?_)
  by_cases h1 : py (uPay C 10) o
  · rw [if_pos h1]
    have q := (py_iff hI1 hP1 ho).mp h1
    have e222 : uPay C 10 222 o = C 222 o := uPay_o (by decide)
    have e28 : uPay C 10 200 28 = C 200 28 := uPay_o (by decide)
    have e := ow_D (uPay C 10) o
    rw [DD_pay ho, uPay_3 hI hP ho] at e
    have e2 := ow_D C o
    rw [e222, e28] at q
    by_cases h : py C o
    · rw [if_pos h] at e
      omega
    · rw [if_neg h] at e
      exact absurd ((py_iff hI hP ho).mpr ⟨q.1, by omega⟩) h
  · rw [if_neg h1]
/-- costs stand in the months of their units alone -/
def ZC (C : Cr) : Prop := ∀ w m : Nat, w < nW C → m < 61 → C 219 (61 * w + m) ≠ 0 → C 215 (C 216 w).toNat ≤ m ∧ (m : Int) ≤ C 200 0
def OT (C : Cr) : Int := sm (fun i => C 219 i) 366
theorem sm_blk (f : Nat → Int) : ∀ n, sm f (61 * n) = sm (fun w => sm (fun m => f (61 * w + m)) 61) n
  | 0 => rfl
  | n + 1 => by
    rw [show 61 * (n + 1) = 61 * n + 61 from by omega, sm_split (61 * n) 61, sm_blk f n]
    rfl
theorem OT_w {C : Cr} (hI : Inv C) : OT C = sm (fun w => sm (fun m => C 219 (61 * w + m)) 61) (nW C) := by
  have hw := hI.nw
  have e : ((nW C : Nat) : Int) = C 200 20 := by unfold nW; omega
  have h1 : OT C = sm (fun w => sm (fun m => C 219 (61 * w + m)) 61) 6 := sm_blk (fun i => C 219 i) 6
  rw [h1, show 6 = nW C + (6 - nW C) from by omega, sm_split (nW C) (6 - nW C), sm_zero (n := 6 - nW C)]
  · omega
  · intro k hk
    exact sm_zero (fun m hm => (hI.wz (nW C + k) (by omega) (by omega) m hm).2.2)
theorem co_no {C : Cr} (hI : Inv C) (hZ : ZC C) {u m : Nat} (hu : u < nU C) (hm : m < 61) (h : m < um C u ∨ nN C < m) : co C u m = 0 := by
  have hn := hI.now
  have hun := um_eq hI hu
  have hnN : ((nN C : Nat) : Int) = C 200 0 := by unfold nN; omega
  refine sm_zero (fun w hw => ?_)
  by_cases e : C 216 w = u
  · rw [if_pos e]
    refine Classical.byContradiction (fun z => ?_)
    have := hZ w m hw hm z
    rw [e, Int.toNat_natCast] at this
    omega
  · rw [if_neg e]
theorem co_61 {C : Cr} (hI : Inv C) (hZ : ZC C) {u : Nat} (hu : u < nU C) : sm (fun j => co C u (um C u + j)) (nN C + 1 - um C u) = sm (fun m => co C u m) 61 := by
  have hn := hI.now
  have hun := um_eq hI hu
  have hu2 := hI.un u hu
  have hnN : ((nN C : Nat) : Int) = C 200 0 := by unfold nN; omega
  have e1 : sm (fun m => co C u m) 61 = sm (fun m => co C u m) (um C u + (nN C + 1 - um C u)) + sm (fun i => co C u (um C u + (nN C + 1 - um C u) + i)) (60 - nN C) := by
    have := sm_split (f := fun m => co C u m) (um C u + (nN C + 1 - um C u)) (60 - nN C)
    rw [← this]
    congr 1
    omega
  rw [e1, sm_split (um C u) (nN C + 1 - um C u), sm_zero (n := um C u) (fun m hm => co_no hI hZ hu (by omega) (Or.inl hm)), sm_zero (n := 60 - nN C) (fun i hi => co_no hI hZ hu (by omega) (Or.inr (by omega)))]
  omega
theorem co_all {C : Cr} (hI : Inv C) (hZ : ZC C) : sm (fun u => sm (fun j => co C u (um C u + j)) (nN C + 1 - um C u)) (nU C) = OT C := by
  have hu := hI.nu
  have hnU : ((nU C : Nat) : Int) = C 200 18 := by unfold nU; omega
  rw [OT_w hI, sm_cong (fun u hu => co_61 hI hZ hu), sm_swap]
  have e : ∀ m, sm (fun u => co C u m) (nU C) = sm (fun w => C 219 (61 * w + m)) (nW C) := fun m => by
    show sm (fun u : Nat => sm (fun w => if C 216 w = u then C 219 (61 * w + m) else 0) (nW C)) (nU C) = _
    rw [sm_swap]
    refine sm_cong (fun w hw => ?_)
    have := hI.we w hw
    rw [sm_oneI, if_pos (by omega)]
  rw [sm_cong (fun m _ => e m), sm_swap]
/-- revenue as it is asked for: 0 ahead of the unit's first month -/
def gq (C : Cr) (u m : Nat) : Int := if um C u ≤ m then rv C u m else 0
theorem gq_all {C : Cr} (hI : Inv C) {u : Nat} (hu : u < nU C) : sm (gq C u) (nN C + 1) = sm (fun j => rv C u (um C u + j)) (nN C + 1 - um C u) := by
  have hn := hI.now
  have hun := um_eq hI hu
  have hu2 := hI.un u hu
  have hnN : ((nN C : Nat) : Int) = C 200 0 := by unfold nN; omega
  have e := sm_split (f := gq C u) (um C u) (nN C + 1 - um C u)
  rw [show um C u + (nN C + 1 - um C u) = nN C + 1 from by omega] at e
  have z : sm (gq C u) (um C u) = 0 := sm_zero (fun m hm => if_neg (by omega))
  have y : sm (fun i => gq C u (um C u + i)) (nN C + 1 - um C u) = sm (fun j => rv C u (um C u + j)) (nN C + 1 - um C u) := sm_cong (fun j _ => if_pos (by omega))
  rw [e, z, y]
  omega
/-- all that is owed and was paid is all revenue less all costs -/
theorem all_eq {C : Cr} (hI : Inv C) (hZ : ZC C) : sm (fun o => ow C o + C 223 o) 10 = sm (fun u => sm (gq C u) (nN C + 1)) (nU C) - OT C := by
  rw [sm_cong (g := DD C) (fun o _ => by rw [ow_D]; omega), DD_sum hI, co_all hI hZ, sm_cong (f := fun u => sm (gq C u) (nN C + 1)) (fun u hu => gq_all hI hu)]
/-! what each telling does to that -/
theorem keepZ {C C' : Cr} (hZ : ZC C) (e0 : C 200 0 ≤ C' 200 0) (e20 : C' 200 20 = C 200 20) (e215 : C' 215 = C 215) (e216 : C' 216 = C 216) (e219 : C' 219 = C 219) : ZC C' := by
  intro w m hw hm hne
  unfold nW at hw
  rw [e20] at hw
  rw [e219] at hne
  rw [e215, e216]
  have := hZ w m hw hm hne
  exact ⟨this.1, by omega⟩
theorem keepP {C C' : Cr} (hP : PB C) (e : C' 223 = C 223) : PB C' := by
  intro o ho
  rw [e]; exact hP o ho
theorem keepO {C C' : Cr} (e : C' 219 = C 219) : OT C' = OT C := by
  unfold OT
  rw [e]
/-- all that must hold of the class's numbers -/
def GC (C : Cr) : Prop := Inv C ∧ PB C ∧ ZC C
theorem GC_of {C C' : Cr} (h : GC C) (hI : Inv C') (e0 : C 200 0 ≤ C' 200 0) (e20 : C' 200 20 = C 200 20) (e215 : C' 215 = C 215) (e216 : C' 216 = C 216) (e219 : C' 219 = C 219) (e223 : C' 223 = C 223) : GC C' :=
  ⟨hI, keepP h.2.1 e223, keepZ h.2.2 e0 e20 e215 e216 e219⟩
theorem GC_pass {C : Cr} (h : GC C) {a : Int} (h1 : 0 ≤ a) (h2 : C 200 0 + a ≤ 60) : GC (u2 C 200 0 (C 200 0 + a)) :=
  GC_of h (Inv_pass h.1 h1 h2) (show C 200 0 ≤ C 200 0 + a by omega) rfl rfl rfl rfl rfl
theorem GC_pen {C : Cr} (h : GC C) {a : Int} (h1 : 100 ≤ a ∧ a ≤ 500) : GC (u2 C 200 27 a) := GC_of h (Inv_pen h.1 h1) (Int.le_refl (C 200 0)) rfl rfl rfl rfl rfl
theorem GC_lst {C : Cr} (h : GC C) {a : Int} (h1 : 1 ≤ a ∧ a ≤ 100000) : GC (u2 C 200 28 a) := GC_of h (Inv_lst h.1 h1) (Int.le_refl (C 200 0)) rfl rfl rfl rfl rfl
theorem GC_sus {C : Cr} (h : GC C) {o : Nat} {a : Int} (h1 : a = 0 ∨ a = 1) : GC (u2 C 222 o a) := GC_of h (Inv_sus h.1 h1) (Int.le_refl (C 200 0)) rfl rfl rfl rfl rfl
theorem GC_tax {C : Cr} (h : GC C) {m : Nat} {a : Int} (h1 : 0 ≤ a ∧ a ≤ 50) : GC (u2 C 220 m a) := GC_of h (Inv_tax h.1 h1) (Int.le_refl (C 200 0)) rfl rfl rfl rfl rfl
theorem GC_con {C : Cr} (h : GC C) {a1 a2 v : Int} (h1 : dUO C a1 a2) (hv : v = 1 ∨ v = 2) : GC (u2 C 221 (iC C a1 a2) v) := GC_of h (Inv_con h.1 h1 hv) (Int.le_refl (C 200 0)) rfl rfl rfl rfl rfl
theorem GC_oil {C : Cr} (h : GC C) {a1 a2 a3 a4 : Int} (h1 : dWM C a1 a2) (h2 : dOil2 a3 a4) : GC (uOil C a1 a2 a3 a4) := GC_of h (Inv_oil h.1 h1 h2) (Int.le_refl (C 200 0)) rfl rfl rfl rfl rfl
theorem GC_tract {C : Cr} (h : GC C) {a o : Int} (h1 : dOw o) (h2 : 1 ≤ a ∧ a ≤ 1000) (h3 : C 200 1 < 8) : GC (uTract C a o) := GC_of h (Inv_tract h.1 h1 h2 h3) (Int.le_refl (C 200 0)) rfl rfl rfl rfl rfl
theorem GC_deed {C : Cr} (h : GC C) {a1 a2 a3 a4 a5 : Int} (h1 : dDe1 C a1 a2 a3 a5) (h2 : dDe2 a2 a3 a4) (h3 : dDe3 C a1 a2 a4 a5) : GC (uDeed C a1 a2 a3 a4 a5) := GC_of h (Inv_deed h.1 h1 h2 h3) (Int.le_refl (C 200 0)) rfl rfl rfl rfl rfl
theorem GC_lease {C : Cr} (h : GC C) {a1 a2 a3 a4 a5 : Int} (h1 : dLe1 C a1 a2 a3) (h2 : dLe2 a2 a3 a4 a5) (h3 : C 200 11 < 16) : GC (uLease C a1 a2 a3 a4 a5) := GC_of h (Inv_lease h.1 h1 h2 h3) (Int.le_refl (C 200 0)) rfl rfl rfl rfl rfl
theorem GC_pay {C : Cr} (h : GC C) : GC (uPay C 10) := ⟨Inv_pay h.1, PB_pay h.1 h.2.1, keepZ h.2.2 (by rw [uPay_o (by decide)]; exact Int.le_refl _) (uPay_o (by decide)) ((uPay_E C 10).2 215 (by decide) (by decide)) ((uPay_E C 10).2 216 (by decide) (by decide)) ((uPay_E C 10).2 219 (by decide) (by decide))⟩
theorem OT_pay {C : Cr} : OT (uPay C 10) = OT C := keepO ((uPay_E C 10).2 219 (by decide) (by decide))
theorem GC_well {C : Cr} (h : GC C) {a1 : Int} (h1 : dUn C a1) (h2 : C 200 20 < 6) : GC (uWell C a1) := by
  have hw := h.1.nw
  refine ⟨Inv_well h.1 h1 h2, keepP h.2.1 rfl, fun w m hlt hm hne => ?_⟩
  have hlt : w < (C 200 20 + 1).toNat := hlt
  have hne : C 219 (61 * w + m) ≠ 0 := hne
  show C 215 (u2 C 216 (nW C) a1 216 w).toNat ≤ m ∧ (m : Int) ≤ C 200 0
  by_cases e : w = nW C
  · have := h.1.wz w (by omega) (by omega) m hm
    exact absurd this.2.2 hne
  · rw [u2_o (Or.inr e)]
    exact h.2.2 w m (by unfold nW at e ⊢; omega) hm hne
theorem GC_unit {C : Cr} (h : GC C) {a : Int32} (h1 : dUn1 C a) (h2 : dUn2 C a) : GC (uUnit C a) := by
  have hu := h.1.nu
  refine ⟨Inv_unit h.1 h1 h2, keepP h.2.1 rfl, fun w m hlt hm hne => ?_⟩
  have hlt : w < nW C := hlt
  have hne : C 219 (61 * w + m) ≠ 0 := hne
  show u2 C 215 (nU C) (C 200 0) 215 (C 216 w).toNat ≤ m ∧ (m : Int) ≤ C 200 0
  have := h.1.we w hlt
  rw [u2_o (Or.inr (by unfold nU; omega))]
  exact h.2.2 w m hlt hm hne
theorem GC_cost {C : Cr} (h : GC C) {a1 a2 a3 : Int} (h1 : dWM C a1 a2) (h2 : 1 ≤ a3) (h3 : dCo3 C a1 a2 a3) : GC (uCost C a1 a2 a3) := by
  have hn := h.1.now
  refine ⟨Inv_cost h.1 h1 h2 h3, keepP h.2.1 rfl, fun w m hlt hm hne => ?_⟩
  have hlt : w < nW C := hlt
  show C 215 (C 216 w).toNat ≤ m ∧ (m : Int) ≤ C 200 0
  have hne : u2 C 219 (iW a1 a2) (C 219 (iW a1 a2) + a3) 219 (61 * w + m) ≠ 0 := hne
  by_cases e : 61 * w + m = iW a1 a2
  · have e1 : w = a1.toNat := by unfold iW at e; omega
    have e2 : m = a2.toNat := by unfold iW at e; omega
    have h31 : C 215 (C 216 a1.toNat).toNat ≤ a2 := h3.1
    rw [e1]
    omega
  · rw [u2_o (Or.inr e)] at hne
    exact h.2.2 w m hlt hm hne
theorem OT_cost {C : Cr} (hI : Inv C) {a1 a2 a3 : Int} (h1 : dWM C a1 a2) : OT (uCost C a1 a2 a3) = OT C + a3 := by
  have hn := hI.now
  have hw := hI.nw
  have hi : iW a1 a2 < 366 := by unfold iW; omega
  show sm (fun i => u2 C 219 (iW a1 a2) (C 219 (iW a1 a2) + a3) 219 i) 366 = _
  rw [sm_chg (f := fun i => C 219 i) hi (fun k _ hne => u2_o (Or.inr hne)), u2_y]
  unfold OT
  omega
