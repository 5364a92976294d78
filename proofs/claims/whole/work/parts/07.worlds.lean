/-! the worlds of the class and of the reference: cells by place, each over a row of ints -/
abbrev Sg : Type := Nat → Nat → Int32
def wd (cell : Nat → (Nat → Int32) → va_E) (ad : Nat → Nat) (n : Nat) (σ : Sg) : va_W := (List.range n).map (fun k => (ad k, cell k (σ k)))
theorem wd_at {cell : Nat → (Nat → Int32) → va_E} {ad : Nat → Nat} {n : Nat} {σ : Sg} {k : Nat} {e : va_E} (hk : k < n) (he : cell k (σ k) = e) : (wd cell ad n σ)[k]? = some (ad k, e) := by
  subst he
  simp [wd, hk]
theorem wd_set {cell : Nat → (Nat → Int32) → va_E} {ad : Nat → Nat} {n : Nat} {σ : Sg} {k : Nat} {e : va_E} {r : Nat → Int32} (hk : k < n) (he : e = cell k r) : (wd cell ad n σ).set k (ad k, e) = wd cell ad n (va_up σ k r) := by
  subst he
  apply List.ext_getElem?
  intro j
  by_cases hj : j = k
  · subst hj
    rw [List.getElem?_set_self (by simp [wd, hk])]
    simp [wd, hk, va_up]
  · rw [List.getElem?_set_ne (Ne.symm hj)]
    by_cases hn : j < n
    · simp [wd, hn, va_up, hj]
    · simp [wd, hn]
/-- one int of one row -/
def up2 (σ : Sg) (k i : Nat) (v : Int32) : Sg := va_up σ k (va_up (σ k) i v)
theorem up2_self (σ : Sg) (k i : Nat) (v : Int32) : up2 σ k i v k i = v := by simp [up2, va_up]
theorem up2_row (σ : Sg) (k : Nat) {i j : Nat} (v : Int32) (h : j ≠ i) : up2 σ k i v k j = σ k j := by simp [up2, va_up, h]
theorem up2_off (σ : Sg) {k l : Nat} {i j : Nat} (v : Int32) (h : l ≠ k) : up2 σ k i v l j = σ l j := by simp [up2, va_up, h]
/-- a reference out of a number: -1 none, else a safe -/
def rfa (ad : Nat → Nat) (v : Int32) : Option Nat := if v = -1 then none else some (ad (28 + v.toNatClampNeg))
theorem rfa_m1 (ad : Nat → Nat) : rfa ad (-1) = none := rfl
theorem rfa_ne {ad : Nat → Nat} {v : Int32} (h : ¬ v = -1) : rfa ad v = some (ad (28 + v.toNatClampNeg)) := if_neg h
theorem rf_cat (o : Option Nat) : (va_rf o).category = 1 := by cases o <;> rfl
/-- the class's cells: 0 the desk, 1 rooms, 2 plans, 3 the trace, 4 .. 9 the plans, 10 .. 27 their rows, 28 .. the safes -/
def cD (g : Gy) (ad : Nat → Nat) (k : Nat) (r : Nat → Int32) : va_E :=
  if k = 0 then .inr (4, [.ref (ad 1), .ref (ad 2), .ref (ad 3), .int (r 3), .int (r 4), .int (r 5), .int (r 6), .int (r 7), .int (r 8)])
  else if k = 1 then .inl (g.2.2.1, 8, .inr (.inr (.inr (.inr (fun i => if i < 8 then rfa ad (r i) else none)))))
  else if k = 2 then .inl (g.2.2.2, 6, .inr (.inr (.inr (.inr (fun i => if i < 6 then some (ad (4 + i)) else none)))))
  else if k = 3 then .inl (g.2.1, 120, .inl r)
  else if k < 10 then .inr (0, [.ref (ad (10 + 3 * (k - 4))), .ref (ad (10 + 3 * (k - 4) + 1)), .ref (ad (10 + 3 * (k - 4) + 2)), .int (r 3)])
  else if k < 28 then .inl (g.2.1, 12, .inl r)
  else .inr (if r 0 = 0 then 1 else if r 0 = 1 then 2 else 3, [.int (r 0), .int (r 1), .int (r 2), .int (r 3), .int (r 4), .int (r 5)])
abbrev wC (g : Gy) (ad : Nat → Nat) (n : Nat) (σ : Sg) : va_W := wd (cD g ad) ad n σ
theorem cD_0 (g : Gy) (ad : Nat → Nat) (r : Nat → Int32) : cD g ad 0 r = .inr (4, [.ref (ad 1), .ref (ad 2), .ref (ad 3), .int (r 3), .int (r 4), .int (r 5), .int (r 6), .int (r 7), .int (r 8)]) := rfl
theorem cD_1 (g : Gy) (ad : Nat → Nat) (r : Nat → Int32) : cD g ad 1 r = .inl (g.2.2.1, 8, .inr (.inr (.inr (.inr (fun i => if i < 8 then rfa ad (r i) else none))))) := rfl
theorem cD_2 (g : Gy) (ad : Nat → Nat) (r : Nat → Int32) : cD g ad 2 r = .inl (g.2.2.2, 6, .inr (.inr (.inr (.inr (fun i => if i < 6 then some (ad (4 + i)) else none))))) := rfl
theorem cD_3 (g : Gy) (ad : Nat → Nat) (r : Nat → Int32) : cD g ad 3 r = .inl (g.2.1, 120, .inl r) := rfl
theorem cD_p (g : Gy) (ad : Nat → Nat) {p : Nat} (hp : p < 6) (r : Nat → Int32) : cD g ad (4 + p) r = .inr (0, [.ref (ad (10 + 3 * p)), .ref (ad (10 + 3 * p + 1)), .ref (ad (10 + 3 * p + 2)), .int (r 3)]) := by
  have h0 : ¬ 4 + p = 0 := by omega
  have h1 : ¬ 4 + p = 1 := by omega
  have h2 : ¬ 4 + p = 2 := by omega
  have h3 : ¬ 4 + p = 3 := by omega
  have h4 : 4 + p < 10 := by omega
  have h5 : 4 + p - 4 = p := by omega
  simp only [cD, if_neg h0, if_neg h1, if_neg h2, if_neg h3, if_pos h4, h5]
theorem cD_r (g : Gy) (ad : Nat → Nat) {p q : Nat} (hp : p < 6) (hq : q < 3) (r : Nat → Int32) : cD g ad (10 + 3 * p + q) r = .inl (g.2.1, 12, .inl r) := by
  have h0 : ¬ 10 + 3 * p + q = 0 := by omega
  have h1 : ¬ 10 + 3 * p + q = 1 := by omega
  have h2 : ¬ 10 + 3 * p + q = 2 := by omega
  have h3 : ¬ 10 + 3 * p + q = 3 := by omega
  have h4 : ¬ 10 + 3 * p + q < 10 := by omega
  have h5 : 10 + 3 * p + q < 28 := by omega
  simp only [cD, if_neg h0, if_neg h1, if_neg h2, if_neg h3, if_neg h4, if_pos h5]
def kcl (v : Int32) : Nat := if v = 0 then 1 else if v = 1 then 2 else 3
theorem cD_s (g : Gy) (ad : Nat → Nat) {k : Nat} (hk : 28 ≤ k) (r : Nat → Int32) : cD g ad k r = .inr (kcl (r 0), [.int (r 0), .int (r 1), .int (r 2), .int (r 3), .int (r 4), .int (r 5)]) := by
  have h0 : ¬ k = 0 := by omega
  have h1 : ¬ k = 1 := by omega
  have h2 : ¬ k = 2 := by omega
  have h3 : ¬ k = 3 := by omega
  have h4 : ¬ k < 10 := by omega
  have h5 : ¬ k < 28 := by omega
  simp only [cD, if_neg h0, if_neg h1, if_neg h2, if_neg h3, if_neg h4, if_neg h5, kcl]
theorem kcl_123 (v : Int32) : kcl v = 1 ∨ kcl v = 2 ∨ kcl v = 3 := by
  unfold kcl
  split
  · exact Or.inl rfl
  · split
    · exact Or.inr (Or.inl rfl)
    · exact Or.inr (Or.inr rfl)
theorem upd_va (f : Nat → Int32) (k : Nat) (v : Int32) : upd f k v = va_up f k v := rfl
/-- the reference's cells: 0 the object, 1 .. 17 its arrays -/
def mln (k : Nat) : Nat := if k < 7 then 4200 else if k = 7 then 8 else if k = 8 then 6 else if k < 12 then 72 else if k = 12 then 120 else 80
def cM (g : Gy) (ad : Nat → Nat) (k : Nat) (r : Nat → Int32) : va_E :=
  if k = 0 then .inr (5, [.int (r 0), .ref (ad 1), .ref (ad 2), .ref (ad 3), .ref (ad 4), .ref (ad 5), .ref (ad 6), .ref (ad 7), .ref (ad 8), .ref (ad 9), .ref (ad 10), .ref (ad 11), .int (r 12), .int (r 13), .int (r 14), .int (r 15), .int (r 16), .int (r 17), .int (r 18), .ref (ad 12), .int (r 20), .ref (ad 13), .ref (ad 14), .ref (ad 15), .ref (ad 16), .ref (ad 17)])
  else .inl (g.2.1, mln k, .inl r)
abbrev wM (g : Gy) (ad : Nat → Nat) (σ : Sg) : va_W := wd (cM g ad) ad 18 σ
theorem cM_0 (g : Gy) (ad : Nat → Nat) (r : Nat → Int32) : cM g ad 0 r = .inr (5, [.int (r 0), .ref (ad 1), .ref (ad 2), .ref (ad 3), .ref (ad 4), .ref (ad 5), .ref (ad 6), .ref (ad 7), .ref (ad 8), .ref (ad 9), .ref (ad 10), .ref (ad 11), .int (r 12), .int (r 13), .int (r 14), .int (r 15), .int (r 16), .int (r 17), .int (r 18), .ref (ad 12), .int (r 20), .ref (ad 13), .ref (ad 14), .ref (ad 15), .ref (ad 16), .ref (ad 17)]) := rfl
theorem cM_a (g : Gy) (ad : Nat → Nat) {k : Nat} (hk : 0 < k) (r : Nat → Int32) : cM g ad k r = .inl (g.2.1, mln k, .inl r) := by
  have h0 : ¬ k = 0 := by omega
  simp only [cM, if_neg h0]
theorem iX0 : ∀ w ∈ u_ws RX0 TX0 4, w ∈ gd_tbl := by decide +kernel
theorem iX1 : ∀ w ∈ u_ws RX1 TX1 6, w ∈ gd_tbl := by decide +kernel
theorem iX2 : ∀ w ∈ u_ws RX2 TX2 6, w ∈ gd_tbl := by decide +kernel
theorem iX3 : ∀ w ∈ u_ws RX3 TX3 6, w ∈ gd_tbl := by decide +kernel
theorem iX4 : ∀ w ∈ u_ws RX4 TX4 9, w ∈ gd_tbl := by decide +kernel
theorem iX5 : ∀ w ∈ u_ws RX5 TX5 26, w ∈ gd_tbl := by decide +kernel
section JW
variable {x : Cx} {cc : ByteArray} {own : String} {ret : Option FieldType} {cells slots pc : Nat} {lv : List (Nat × Value)} {st : List Value} {ad : Nat → Nat} {n index : Nat} {σ : Sg}

theorem J_Dg3 (h : Ok x cc own ret) (hn : 0 < n) (hlink : Cond.fieldLink own index RX4 (TX4 3).2.1 (TX4 3).2.2.1 ∈ gd_tbl) (v : Int32) (hv : σ 0 3 = v) (d : decode cc pc = .ok (.getfield index, 3)) (k : J x cells slots (wC (xG x) ad n σ) (pc + 3) lv (.int v :: st)) : J x cells slots (wC (xG x) ad n σ) pc lv (.ref (ad 0) :: st) := J_get h (q0 := 0) (kf := 3) iX4 (wd_at hn (cD_0 _ _ _)) rfl (by decide) hlink (fun _ q => q) (by rw [← hv]; rfl) d k
theorem J_Dp3 (h : Ok x cc own ret) {v : Int32} (hn : 0 < n) (hlink : Cond.fieldLink own index RX4 (TX4 3).2.1 (TX4 3).2.2.1 ∈ gd_tbl) (d : decode cc pc = .ok (.putfield index, 3)) (k : J x cells slots (wC (xG x) ad n (up2 σ 0 3 v)) (pc + 3) lv st) : J x cells slots (wC (xG x) ad n σ) pc lv (.int v :: .ref (ad 0) :: st) := J_put h (q0 := 0) (kf := 3) (ty := .int) _ iX4 tyX4_ok nmX4 (wd_at hn (cD_0 _ _ _)) rfl (by decide) hlink (fun _ q => q) rfl (by decide +kernel) rfl rfl (Nat.le_of_ble_eq_true rfl) (wd_set hn (by rw [cD_0]; rfl)) d k
theorem J_Dg4 (h : Ok x cc own ret) (hn : 0 < n) (hlink : Cond.fieldLink own index RX4 (TX4 4).2.1 (TX4 4).2.2.1 ∈ gd_tbl) (v : Int32) (hv : σ 0 4 = v) (d : decode cc pc = .ok (.getfield index, 3)) (k : J x cells slots (wC (xG x) ad n σ) (pc + 3) lv (.int v :: st)) : J x cells slots (wC (xG x) ad n σ) pc lv (.ref (ad 0) :: st) := J_get h (q0 := 0) (kf := 4) iX4 (wd_at hn (cD_0 _ _ _)) rfl (by decide) hlink (fun _ q => q) (by rw [← hv]; rfl) d k
theorem J_Dp4 (h : Ok x cc own ret) {v : Int32} (hn : 0 < n) (hlink : Cond.fieldLink own index RX4 (TX4 4).2.1 (TX4 4).2.2.1 ∈ gd_tbl) (d : decode cc pc = .ok (.putfield index, 3)) (k : J x cells slots (wC (xG x) ad n (up2 σ 0 4 v)) (pc + 3) lv st) : J x cells slots (wC (xG x) ad n σ) pc lv (.int v :: .ref (ad 0) :: st) := J_put h (q0 := 0) (kf := 4) (ty := .int) _ iX4 tyX4_ok nmX4 (wd_at hn (cD_0 _ _ _)) rfl (by decide) hlink (fun _ q => q) rfl (by decide +kernel) rfl rfl (Nat.le_of_ble_eq_true rfl) (wd_set hn (by rw [cD_0]; rfl)) d k
theorem J_Dg5 (h : Ok x cc own ret) (hn : 0 < n) (hlink : Cond.fieldLink own index RX4 (TX4 5).2.1 (TX4 5).2.2.1 ∈ gd_tbl) (v : Int32) (hv : σ 0 5 = v) (d : decode cc pc = .ok (.getfield index, 3)) (k : J x cells slots (wC (xG x) ad n σ) (pc + 3) lv (.int v :: st)) : J x cells slots (wC (xG x) ad n σ) pc lv (.ref (ad 0) :: st) := J_get h (q0 := 0) (kf := 5) iX4 (wd_at hn (cD_0 _ _ _)) rfl (by decide) hlink (fun _ q => q) (by rw [← hv]; rfl) d k
theorem J_Dp5 (h : Ok x cc own ret) {v : Int32} (hn : 0 < n) (hlink : Cond.fieldLink own index RX4 (TX4 5).2.1 (TX4 5).2.2.1 ∈ gd_tbl) (d : decode cc pc = .ok (.putfield index, 3)) (k : J x cells slots (wC (xG x) ad n (up2 σ 0 5 v)) (pc + 3) lv st) : J x cells slots (wC (xG x) ad n σ) pc lv (.int v :: .ref (ad 0) :: st) := J_put h (q0 := 0) (kf := 5) (ty := .int) _ iX4 tyX4_ok nmX4 (wd_at hn (cD_0 _ _ _)) rfl (by decide) hlink (fun _ q => q) rfl (by decide +kernel) rfl rfl (Nat.le_of_ble_eq_true rfl) (wd_set hn (by rw [cD_0]; rfl)) d k
theorem J_Dg6 (h : Ok x cc own ret) (hn : 0 < n) (hlink : Cond.fieldLink own index RX4 (TX4 6).2.1 (TX4 6).2.2.1 ∈ gd_tbl) (v : Int32) (hv : σ 0 6 = v) (d : decode cc pc = .ok (.getfield index, 3)) (k : J x cells slots (wC (xG x) ad n σ) (pc + 3) lv (.int v :: st)) : J x cells slots (wC (xG x) ad n σ) pc lv (.ref (ad 0) :: st) := J_get h (q0 := 0) (kf := 6) iX4 (wd_at hn (cD_0 _ _ _)) rfl (by decide) hlink (fun _ q => q) (by rw [← hv]; rfl) d k
theorem J_Dp6 (h : Ok x cc own ret) {v : Int32} (hn : 0 < n) (hlink : Cond.fieldLink own index RX4 (TX4 6).2.1 (TX4 6).2.2.1 ∈ gd_tbl) (d : decode cc pc = .ok (.putfield index, 3)) (k : J x cells slots (wC (xG x) ad n (up2 σ 0 6 v)) (pc + 3) lv st) : J x cells slots (wC (xG x) ad n σ) pc lv (.int v :: .ref (ad 0) :: st) := J_put h (q0 := 0) (kf := 6) (ty := .int) _ iX4 tyX4_ok nmX4 (wd_at hn (cD_0 _ _ _)) rfl (by decide) hlink (fun _ q => q) rfl (by decide +kernel) rfl rfl (Nat.le_of_ble_eq_true rfl) (wd_set hn (by rw [cD_0]; rfl)) d k
theorem J_Dg7 (h : Ok x cc own ret) (hn : 0 < n) (hlink : Cond.fieldLink own index RX4 (TX4 7).2.1 (TX4 7).2.2.1 ∈ gd_tbl) (v : Int32) (hv : σ 0 7 = v) (d : decode cc pc = .ok (.getfield index, 3)) (k : J x cells slots (wC (xG x) ad n σ) (pc + 3) lv (.int v :: st)) : J x cells slots (wC (xG x) ad n σ) pc lv (.ref (ad 0) :: st) := J_get h (q0 := 0) (kf := 7) iX4 (wd_at hn (cD_0 _ _ _)) rfl (by decide) hlink (fun _ q => q) (by rw [← hv]; rfl) d k
theorem J_Dp7 (h : Ok x cc own ret) {v : Int32} (hn : 0 < n) (hlink : Cond.fieldLink own index RX4 (TX4 7).2.1 (TX4 7).2.2.1 ∈ gd_tbl) (d : decode cc pc = .ok (.putfield index, 3)) (k : J x cells slots (wC (xG x) ad n (up2 σ 0 7 v)) (pc + 3) lv st) : J x cells slots (wC (xG x) ad n σ) pc lv (.int v :: .ref (ad 0) :: st) := J_put h (q0 := 0) (kf := 7) (ty := .int) _ iX4 tyX4_ok nmX4 (wd_at hn (cD_0 _ _ _)) rfl (by decide) hlink (fun _ q => q) rfl (by decide +kernel) rfl rfl (Nat.le_of_ble_eq_true rfl) (wd_set hn (by rw [cD_0]; rfl)) d k
theorem J_Dg8 (h : Ok x cc own ret) (hn : 0 < n) (hlink : Cond.fieldLink own index RX4 (TX4 8).2.1 (TX4 8).2.2.1 ∈ gd_tbl) (v : Int32) (hv : σ 0 8 = v) (d : decode cc pc = .ok (.getfield index, 3)) (k : J x cells slots (wC (xG x) ad n σ) (pc + 3) lv (.int v :: st)) : J x cells slots (wC (xG x) ad n σ) pc lv (.ref (ad 0) :: st) := J_get h (q0 := 0) (kf := 8) iX4 (wd_at hn (cD_0 _ _ _)) rfl (by decide) hlink (fun _ q => q) (by rw [← hv]; rfl) d k
theorem J_Dp8 (h : Ok x cc own ret) {v : Int32} (hn : 0 < n) (hlink : Cond.fieldLink own index RX4 (TX4 8).2.1 (TX4 8).2.2.1 ∈ gd_tbl) (d : decode cc pc = .ok (.putfield index, 3)) (k : J x cells slots (wC (xG x) ad n (up2 σ 0 8 v)) (pc + 3) lv st) : J x cells slots (wC (xG x) ad n σ) pc lv (.int v :: .ref (ad 0) :: st) := J_put h (q0 := 0) (kf := 8) (ty := .int) _ iX4 tyX4_ok nmX4 (wd_at hn (cD_0 _ _ _)) rfl (by decide) hlink (fun _ q => q) rfl (by decide +kernel) rfl rfl (Nat.le_of_ble_eq_true rfl) (wd_set hn (by rw [cD_0]; rfl)) d k
theorem J_Dr0 (h : Ok x cc own ret) (hn : 0 < n) (hlink : Cond.fieldLink own index RX4 (TX4 0).2.1 (TX4 0).2.2.1 ∈ gd_tbl) (d : decode cc pc = .ok (.getfield index, 3)) (k : J x cells slots (wC (xG x) ad n σ) (pc + 3) lv (.ref (ad 1) :: st)) : J x cells slots (wC (xG x) ad n σ) pc lv (.ref (ad 0) :: st) := J_get h (q0 := 0) (kf := 0) iX4 (wd_at hn (cD_0 _ _ _)) rfl (by decide) hlink (fun _ q => q) rfl d k
theorem J_Dr1 (h : Ok x cc own ret) (hn : 0 < n) (hlink : Cond.fieldLink own index RX4 (TX4 1).2.1 (TX4 1).2.2.1 ∈ gd_tbl) (d : decode cc pc = .ok (.getfield index, 3)) (k : J x cells slots (wC (xG x) ad n σ) (pc + 3) lv (.ref (ad 2) :: st)) : J x cells slots (wC (xG x) ad n σ) pc lv (.ref (ad 0) :: st) := J_get h (q0 := 0) (kf := 1) iX4 (wd_at hn (cD_0 _ _ _)) rfl (by decide) hlink (fun _ q => q) rfl d k
theorem J_Dr2 (h : Ok x cc own ret) (hn : 0 < n) (hlink : Cond.fieldLink own index RX4 (TX4 2).2.1 (TX4 2).2.2.1 ∈ gd_tbl) (d : decode cc pc = .ok (.getfield index, 3)) (k : J x cells slots (wC (xG x) ad n σ) (pc + 3) lv (.ref (ad 3) :: st)) : J x cells slots (wC (xG x) ad n σ) pc lv (.ref (ad 0) :: st) := J_get h (q0 := 0) (kf := 2) iX4 (wd_at hn (cD_0 _ _ _)) rfl (by decide) hlink (fun _ q => q) rfl d k
theorem J_Ra (h : Ok x cc own ret) {i : Int32} (hn : 1 < n) (hin : vp_in i 8) (v : Int32) (hv : σ 1 i.toNatClampNeg = v) (d : decode cc pc = .ok (.aaload, 1)) (k : J x cells slots (wC (xG x) ad n σ) (pc + 1) lv (va_rf (rfa ad v) :: st)) : J x cells slots (wC (xG x) ad n σ) pc lv (.int i :: .ref (ad 1) :: st) := J_aald h (q0 := 1) (t0 := 1) (wd_at hn (cD_1 _ _ _)) rfl hin d (by rw [if_pos (Nat.not_le.mp fun q => hin (Or.inr q)), hv]; exact k)
theorem J_Pa (h : Ok x cc own ret) {i : Int32} (hn : 2 < n) (hin : vp_in i 6) (d : decode cc pc = .ok (.aaload, 1)) (k : J x cells slots (wC (xG x) ad n σ) (pc + 1) lv (.ref (ad (4 + i.toNatClampNeg)) :: st)) : J x cells slots (wC (xG x) ad n σ) pc lv (.int i :: .ref (ad 2) :: st) := J_aald h (q0 := 2) (t0 := 2) (wd_at hn (cD_2 _ _ _)) rfl hin d (by rw [if_pos (Nat.not_le.mp fun q => hin (Or.inr q))]; exact k)
theorem J_Ta (h : Ok x cc own ret) {i : Int32} (hn : 3 < n) (hin : vp_in i 120) (v : Int32) (hv : σ 3 i.toNatClampNeg = v) (d : decode cc pc = .ok (.iaload, 1)) (k : J x cells slots (wC (xG x) ad n σ) (pc + 1) lv (.int v :: st)) : J x cells slots (wC (xG x) ad n σ) pc lv (.int i :: .ref (ad 3) :: st) := J_iald h (q0 := 3) (wd_at hn (cD_3 _ _ _)) hin d (by rw [hv]; exact k)
theorem J_Ts (h : Ok x cc own ret) {i v : Int32} (hn : 3 < n) (hin : vp_in i 120) (d : decode cc pc = .ok (.iastore, 1)) (k : J x cells slots (wC (xG x) ad n (up2 σ 3 i.toNatClampNeg v)) (pc + 1) lv st) : J x cells slots (wC (xG x) ad n σ) pc lv (.int v :: .int i :: .ref (ad 3) :: st) := J_iast h (q0 := 3) _ (wd_at hn (cD_3 _ _ _)) hin (wd_set hn (by rw [cD_3]; rfl)) d k
theorem J_Ia (h : Ok x cc own ret) {i : Int32} {p q : Nat} (hp : p < 6) (hq : q < 3) (hn : 27 < n) (hin : vp_in i 12) (v : Int32) (hv : σ (10 + 3 * p + q) i.toNatClampNeg = v) (d : decode cc pc = .ok (.iaload, 1)) (k : J x cells slots (wC (xG x) ad n σ) (pc + 1) lv (.int v :: st)) : J x cells slots (wC (xG x) ad n σ) pc lv (.int i :: .ref (ad (10 + 3 * p + q)) :: st) := J_iald h (q0 := 10 + 3 * p + q) (wd_at (by omega) (cD_r _ _ hp hq _)) hin d (by rw [hv]; exact k)
theorem J_Is (h : Ok x cc own ret) {i v : Int32} {p q : Nat} (hp : p < 6) (hq : q < 3) (hn : 27 < n) (hin : vp_in i 12) (d : decode cc pc = .ok (.iastore, 1)) (k : J x cells slots (wC (xG x) ad n (up2 σ (10 + 3 * p + q) i.toNatClampNeg v)) (pc + 1) lv st) : J x cells slots (wC (xG x) ad n σ) pc lv (.int v :: .int i :: .ref (ad (10 + 3 * p + q)) :: st) := J_iast h (q0 := 10 + 3 * p + q) _ (wd_at (by omega) (cD_r _ _ hp hq _)) hin (wd_set (by omega) (by rw [cD_r _ _ hp hq]; rfl)) d k
theorem J_Pr0 (h : Ok x cc own ret) {p : Nat} (hp : p < 6) (hn : 27 < n) (hlink : Cond.fieldLink own index RX0 (TX0 0).2.1 (TX0 0).2.2.1 ∈ gd_tbl) (d : decode cc pc = .ok (.getfield index, 3)) (k : J x cells slots (wC (xG x) ad n σ) (pc + 3) lv (.ref (ad (10 + 3 * p + 0)) :: st)) : J x cells slots (wC (xG x) ad n σ) pc lv (.ref (ad (4 + p)) :: st) := J_get h (q0 := 4 + p) (kf := 0) iX0 (wd_at (by omega) (cD_p _ _ hp _)) rfl (by decide) hlink (fun _ q => q) rfl d k
theorem J_Pr1 (h : Ok x cc own ret) {p : Nat} (hp : p < 6) (hn : 27 < n) (hlink : Cond.fieldLink own index RX0 (TX0 1).2.1 (TX0 1).2.2.1 ∈ gd_tbl) (d : decode cc pc = .ok (.getfield index, 3)) (k : J x cells slots (wC (xG x) ad n σ) (pc + 3) lv (.ref (ad (10 + 3 * p + 1)) :: st)) : J x cells slots (wC (xG x) ad n σ) pc lv (.ref (ad (4 + p)) :: st) := J_get h (q0 := 4 + p) (kf := 1) iX0 (wd_at (by omega) (cD_p _ _ hp _)) rfl (by decide) hlink (fun _ q => q) rfl d k
theorem J_Pr2 (h : Ok x cc own ret) {p : Nat} (hp : p < 6) (hn : 27 < n) (hlink : Cond.fieldLink own index RX0 (TX0 2).2.1 (TX0 2).2.2.1 ∈ gd_tbl) (d : decode cc pc = .ok (.getfield index, 3)) (k : J x cells slots (wC (xG x) ad n σ) (pc + 3) lv (.ref (ad (10 + 3 * p + 2)) :: st)) : J x cells slots (wC (xG x) ad n σ) pc lv (.ref (ad (4 + p)) :: st) := J_get h (q0 := 4 + p) (kf := 2) iX0 (wd_at (by omega) (cD_p _ _ hp _)) rfl (by decide) hlink (fun _ q => q) rfl d k
theorem J_Pz (h : Ok x cc own ret) {p : Nat} (hp : p < 6) (hn : 27 < n) (hlink : Cond.fieldLink own index RX0 (TX0 3).2.1 (TX0 3).2.2.1 ∈ gd_tbl) (v : Int32) (hv : σ (4 + p) 3 = v) (d : decode cc pc = .ok (.getfield index, 3)) (k : J x cells slots (wC (xG x) ad n σ) (pc + 3) lv (.int v :: st)) : J x cells slots (wC (xG x) ad n σ) pc lv (.ref (ad (4 + p)) :: st) := J_get h (q0 := 4 + p) (kf := 3) iX0 (wd_at (by omega) (cD_p _ _ hp _)) rfl (by decide) hlink (fun _ q => q) (by rw [← hv]; rfl) d k
theorem J_Pzp (h : Ok x cc own ret) {p : Nat} {v : Int32} (hp : p < 6) (hn : 27 < n) (hlink : Cond.fieldLink own index RX0 (TX0 3).2.1 (TX0 3).2.2.1 ∈ gd_tbl) (d : decode cc pc = .ok (.putfield index, 3)) (k : J x cells slots (wC (xG x) ad n (up2 σ (4 + p) 3 v)) (pc + 3) lv st) : J x cells slots (wC (xG x) ad n σ) pc lv (.int v :: .ref (ad (4 + p)) :: st) := J_put h (q0 := 4 + p) (kf := 3) (ty := .int) _ iX0 tyX0_ok nmX0 (wd_at (by omega) (cD_p _ _ hp _)) rfl (by decide) hlink (fun _ q => q) rfl (by decide +kernel) rfl rfl (Nat.le_of_ble_eq_true rfl) (wd_set (by omega) (by rw [cD_p _ _ hp]; rfl)) d k
theorem J_Rs (h : Ok x cc own ret) {i v : Int32} (hn : 1 < n) (hin : vp_in i 8) (hv : v = -1 ∨ 28 + v.toNatClampNeg < n) (d : decode cc pc = .ok (.aastore, 1)) (k : J x cells slots (wC (xG x) ad n (up2 σ 1 i.toNatClampNeg v)) (pc + 1) lv st) : J x cells slots (wC (xG x) ad n σ) pc lv (va_rf (rfa ad v) :: .int i :: .ref (ad 1) :: st) := by
  have hlt8 : i.toNatClampNeg < 8 := Nat.not_le.mp fun q => hin (Or.inr q)
  have key : ∀ o : Option Nat, o = rfa ad v → (wd (cD (xG x) ad) ad n σ).set 1 (ad 1, .inl ((xG x).2.2.1, 8, .inr (.inr (.inr (.inr (va_up (fun i => if i < 8 then rfa ad (σ 1 i) else none) i.toNatClampNeg o)))))) = wd (cD (xG x) ad) ad n (up2 σ 1 i.toNatClampNeg v) := by
    intro o ho
    refine wd_set hn ?_
    rw [cD_1]
    congr 7
    funext j
    by_cases hj : j = i.toNatClampNeg
    · simp [va_up, hj, ho, hlt8]
    · simp [va_up, hj]
  by_cases hm : v = -1
  · have e : rfa ad v = none := by simp [rfa, hm]
    have key := key none e.symm
    rw [e]
    exact J_aastN h (q0 := 1) (t0 := 1) _ (wd_at hn (cD_1 _ _ _)) rfl hin key d k
  · have e : rfa ad v = some (ad (28 + v.toNatClampNeg)) := by simp [rfa, hm]
    have hlt : 28 + v.toNatClampNeg < n := hv.resolve_left hm
    have key := key _ e.symm
    rw [e]
    have hcell := cD_s (xG x) ad (k := 28 + v.toNatClampNeg) (by omega) (σ (28 + v.toNatClampNeg))
    rcases kcl_123 (σ (28 + v.toNatClampNeg) 0) with hc | hc | hc
    · rw [hc] at hcell
      exact J_aast h (q0 := 1) (t0 := 1) (qk := 28 + v.toNatClampNeg) (r := (RX1, TX1, 6)) _ (wd_at hn (cD_1 _ _ _)) rfl (wd_at hlt hcell) rfl hin key d k
    · rw [hc] at hcell
      exact J_aastO h (q0 := 1) (t0 := 1) (qk := 28 + v.toNatClampNeg) (r := (RX2, TX2, 6)) _ (wd_at hn (cD_1 _ _ _)) rfl h.2.2.2.2.2.2.1.2.2.2.2.1 (wd_at hlt hcell) rfl hin key d k
    · rw [hc] at hcell
      exact J_aastO h (q0 := 1) (t0 := 1) (qk := 28 + v.toNatClampNeg) (r := (RX3, TX3, 6)) _ (wd_at hn (cD_1 _ _ _)) rfl h.2.2.2.2.2.2.1.2.2.2.2.2 (wd_at hlt hcell) rfl hin key d k
theorem J_Sg0 (h : Ok x cc own ret) {j : Nat} {rf : String} (hk : 28 ≤ j) (hn : j < n) (hlink : Cond.fieldLink own index rf (TX1 0).2.1 (TX1 0).2.2.1 ∈ gd_tbl) (hsame : ∀ y, (xS x).fieldFound? (TX1 0).1 (TX1 0).2.1 (TX1 0).2.2.1 = some y → (xS x).fieldFound? rf (TX1 0).2.1 (TX1 0).2.2.1 = some y) (v : Int32) (hv : σ j 0 = v) (d : decode cc pc = .ok (.getfield index, 3)) (k : J x cells slots (wC (xG x) ad n σ) (pc + 3) lv (.int v :: st)) : J x cells slots (wC (xG x) ad n σ) pc lv (.ref (ad j) :: st) := by
  subst hv
  have hcell := cD_s (xG x) ad hk (σ j)
  rcases kcl_123 (σ j 0) with hc | hc | hc <;> rw [hc] at hcell
  · exact J_get h (q0 := j) (kf := 0) iX1 (wd_at hn hcell) rfl (by decide) hlink hsame rfl d k
  · exact J_get h (q0 := j) (kf := 0) iX2 (wd_at hn hcell) rfl (by decide) hlink hsame rfl d k
  · exact J_get h (q0 := j) (kf := 0) iX3 (wd_at hn hcell) rfl (by decide) hlink hsame rfl d k
theorem J_Sg1 (h : Ok x cc own ret) {j : Nat} {rf : String} (hk : 28 ≤ j) (hn : j < n) (hlink : Cond.fieldLink own index rf (TX1 1).2.1 (TX1 1).2.2.1 ∈ gd_tbl) (hsame : ∀ y, (xS x).fieldFound? (TX1 1).1 (TX1 1).2.1 (TX1 1).2.2.1 = some y → (xS x).fieldFound? rf (TX1 1).2.1 (TX1 1).2.2.1 = some y) (v : Int32) (hv : σ j 1 = v) (d : decode cc pc = .ok (.getfield index, 3)) (k : J x cells slots (wC (xG x) ad n σ) (pc + 3) lv (.int v :: st)) : J x cells slots (wC (xG x) ad n σ) pc lv (.ref (ad j) :: st) := by
  subst hv
  have hcell := cD_s (xG x) ad hk (σ j)
  rcases kcl_123 (σ j 0) with hc | hc | hc <;> rw [hc] at hcell
  · exact J_get h (q0 := j) (kf := 1) iX1 (wd_at hn hcell) rfl (by decide) hlink hsame rfl d k
  · exact J_get h (q0 := j) (kf := 1) iX2 (wd_at hn hcell) rfl (by decide) hlink hsame rfl d k
  · exact J_get h (q0 := j) (kf := 1) iX3 (wd_at hn hcell) rfl (by decide) hlink hsame rfl d k
theorem J_Sp1 (h : Ok x cc own ret) {j : Nat} {rf : String} {v : Int32} (hk : 28 ≤ j) (hn : j < n) (hlink : Cond.fieldLink own index rf (TX1 1).2.1 (TX1 1).2.2.1 ∈ gd_tbl) (hsame : ∀ y, (xS x).fieldFound? (TX1 1).1 (TX1 1).2.1 (TX1 1).2.2.1 = some y → (xS x).fieldFound? rf (TX1 1).2.1 (TX1 1).2.2.1 = some y) (d : decode cc pc = .ok (.putfield index, 3)) (k : J x cells slots (wC (xG x) ad n (up2 σ j 1 v)) (pc + 3) lv st) : J x cells slots (wC (xG x) ad n σ) pc lv (.int v :: .ref (ad j) :: st) := by
  have hcell := cD_s (xG x) ad hk (σ j)
  have hcell2 := cD_s (xG x) ad hk (va_up (σ j) 1 v)
  have e0 : va_up (σ j) 1 v 0 = σ j 0 := rfl
  rw [e0] at hcell2
  rcases kcl_123 (σ j 0) with hc | hc | hc <;> rw [hc] at hcell hcell2
  · exact J_put h (q0 := j) (kf := 1) (ty := .int) _ iX1 tyX1_ok nmX1 (wd_at hn hcell) rfl (by decide) hlink hsame rfl (by decide +kernel) rfl rfl (Nat.le_of_ble_eq_true rfl) (wd_set hn (hcell2.symm ▸ rfl)) d k
  · exact J_put h (q0 := j) (kf := 1) (ty := .int) _ iX2 tyX2_ok nmX2 (wd_at hn hcell) rfl (by decide) hlink hsame rfl (by decide +kernel) rfl rfl (Nat.le_of_ble_eq_true rfl) (wd_set hn (hcell2.symm ▸ rfl)) d k
  · exact J_put h (q0 := j) (kf := 1) (ty := .int) _ iX3 tyX3_ok nmX3 (wd_at hn hcell) rfl (by decide) hlink hsame rfl (by decide +kernel) rfl rfl (Nat.le_of_ble_eq_true rfl) (wd_set hn (hcell2.symm ▸ rfl)) d k
theorem J_Sg2 (h : Ok x cc own ret) {j : Nat} {rf : String} (hk : 28 ≤ j) (hn : j < n) (hlink : Cond.fieldLink own index rf (TX1 2).2.1 (TX1 2).2.2.1 ∈ gd_tbl) (hsame : ∀ y, (xS x).fieldFound? (TX1 2).1 (TX1 2).2.1 (TX1 2).2.2.1 = some y → (xS x).fieldFound? rf (TX1 2).2.1 (TX1 2).2.2.1 = some y) (v : Int32) (hv : σ j 2 = v) (d : decode cc pc = .ok (.getfield index, 3)) (k : J x cells slots (wC (xG x) ad n σ) (pc + 3) lv (.int v :: st)) : J x cells slots (wC (xG x) ad n σ) pc lv (.ref (ad j) :: st) := by
  subst hv
  have hcell := cD_s (xG x) ad hk (σ j)
  rcases kcl_123 (σ j 0) with hc | hc | hc <;> rw [hc] at hcell
  · exact J_get h (q0 := j) (kf := 2) iX1 (wd_at hn hcell) rfl (by decide) hlink hsame rfl d k
  · exact J_get h (q0 := j) (kf := 2) iX2 (wd_at hn hcell) rfl (by decide) hlink hsame rfl d k
  · exact J_get h (q0 := j) (kf := 2) iX3 (wd_at hn hcell) rfl (by decide) hlink hsame rfl d k
theorem J_Sp2 (h : Ok x cc own ret) {j : Nat} {rf : String} {v : Int32} (hk : 28 ≤ j) (hn : j < n) (hlink : Cond.fieldLink own index rf (TX1 2).2.1 (TX1 2).2.2.1 ∈ gd_tbl) (hsame : ∀ y, (xS x).fieldFound? (TX1 2).1 (TX1 2).2.1 (TX1 2).2.2.1 = some y → (xS x).fieldFound? rf (TX1 2).2.1 (TX1 2).2.2.1 = some y) (d : decode cc pc = .ok (.putfield index, 3)) (k : J x cells slots (wC (xG x) ad n (up2 σ j 2 v)) (pc + 3) lv st) : J x cells slots (wC (xG x) ad n σ) pc lv (.int v :: .ref (ad j) :: st) := by
  have hcell := cD_s (xG x) ad hk (σ j)
  have hcell2 := cD_s (xG x) ad hk (va_up (σ j) 2 v)
  have e0 : va_up (σ j) 2 v 0 = σ j 0 := rfl
  rw [e0] at hcell2
  rcases kcl_123 (σ j 0) with hc | hc | hc <;> rw [hc] at hcell hcell2
  · exact J_put h (q0 := j) (kf := 2) (ty := .int) _ iX1 tyX1_ok nmX1 (wd_at hn hcell) rfl (by decide) hlink hsame rfl (by decide +kernel) rfl rfl (Nat.le_of_ble_eq_true rfl) (wd_set hn (hcell2.symm ▸ rfl)) d k
  · exact J_put h (q0 := j) (kf := 2) (ty := .int) _ iX2 tyX2_ok nmX2 (wd_at hn hcell) rfl (by decide) hlink hsame rfl (by decide +kernel) rfl rfl (Nat.le_of_ble_eq_true rfl) (wd_set hn (hcell2.symm ▸ rfl)) d k
  · exact J_put h (q0 := j) (kf := 2) (ty := .int) _ iX3 tyX3_ok nmX3 (wd_at hn hcell) rfl (by decide) hlink hsame rfl (by decide +kernel) rfl rfl (Nat.le_of_ble_eq_true rfl) (wd_set hn (hcell2.symm ▸ rfl)) d k
theorem J_Sg3 (h : Ok x cc own ret) {j : Nat} {rf : String} (hk : 28 ≤ j) (hn : j < n) (hlink : Cond.fieldLink own index rf (TX1 3).2.1 (TX1 3).2.2.1 ∈ gd_tbl) (hsame : ∀ y, (xS x).fieldFound? (TX1 3).1 (TX1 3).2.1 (TX1 3).2.2.1 = some y → (xS x).fieldFound? rf (TX1 3).2.1 (TX1 3).2.2.1 = some y) (v : Int32) (hv : σ j 3 = v) (d : decode cc pc = .ok (.getfield index, 3)) (k : J x cells slots (wC (xG x) ad n σ) (pc + 3) lv (.int v :: st)) : J x cells slots (wC (xG x) ad n σ) pc lv (.ref (ad j) :: st) := by
  subst hv
  have hcell := cD_s (xG x) ad hk (σ j)
  rcases kcl_123 (σ j 0) with hc | hc | hc <;> rw [hc] at hcell
  · exact J_get h (q0 := j) (kf := 3) iX1 (wd_at hn hcell) rfl (by decide) hlink hsame rfl d k
  · exact J_get h (q0 := j) (kf := 3) iX2 (wd_at hn hcell) rfl (by decide) hlink hsame rfl d k
  · exact J_get h (q0 := j) (kf := 3) iX3 (wd_at hn hcell) rfl (by decide) hlink hsame rfl d k
theorem J_Sp3 (h : Ok x cc own ret) {j : Nat} {rf : String} {v : Int32} (hk : 28 ≤ j) (hn : j < n) (hlink : Cond.fieldLink own index rf (TX1 3).2.1 (TX1 3).2.2.1 ∈ gd_tbl) (hsame : ∀ y, (xS x).fieldFound? (TX1 3).1 (TX1 3).2.1 (TX1 3).2.2.1 = some y → (xS x).fieldFound? rf (TX1 3).2.1 (TX1 3).2.2.1 = some y) (d : decode cc pc = .ok (.putfield index, 3)) (k : J x cells slots (wC (xG x) ad n (up2 σ j 3 v)) (pc + 3) lv st) : J x cells slots (wC (xG x) ad n σ) pc lv (.int v :: .ref (ad j) :: st) := by
  have hcell := cD_s (xG x) ad hk (σ j)
  have hcell2 := cD_s (xG x) ad hk (va_up (σ j) 3 v)
  have e0 : va_up (σ j) 3 v 0 = σ j 0 := rfl
  rw [e0] at hcell2
  rcases kcl_123 (σ j 0) with hc | hc | hc <;> rw [hc] at hcell hcell2
  · exact J_put h (q0 := j) (kf := 3) (ty := .int) _ iX1 tyX1_ok nmX1 (wd_at hn hcell) rfl (by decide) hlink hsame rfl (by decide +kernel) rfl rfl (Nat.le_of_ble_eq_true rfl) (wd_set hn (hcell2.symm ▸ rfl)) d k
  · exact J_put h (q0 := j) (kf := 3) (ty := .int) _ iX2 tyX2_ok nmX2 (wd_at hn hcell) rfl (by decide) hlink hsame rfl (by decide +kernel) rfl rfl (Nat.le_of_ble_eq_true rfl) (wd_set hn (hcell2.symm ▸ rfl)) d k
  · exact J_put h (q0 := j) (kf := 3) (ty := .int) _ iX3 tyX3_ok nmX3 (wd_at hn hcell) rfl (by decide) hlink hsame rfl (by decide +kernel) rfl rfl (Nat.le_of_ble_eq_true rfl) (wd_set hn (hcell2.symm ▸ rfl)) d k
theorem J_Sg4 (h : Ok x cc own ret) {j : Nat} {rf : String} (hk : 28 ≤ j) (hn : j < n) (hlink : Cond.fieldLink own index rf (TX1 4).2.1 (TX1 4).2.2.1 ∈ gd_tbl) (hsame : ∀ y, (xS x).fieldFound? (TX1 4).1 (TX1 4).2.1 (TX1 4).2.2.1 = some y → (xS x).fieldFound? rf (TX1 4).2.1 (TX1 4).2.2.1 = some y) (v : Int32) (hv : σ j 4 = v) (d : decode cc pc = .ok (.getfield index, 3)) (k : J x cells slots (wC (xG x) ad n σ) (pc + 3) lv (.int v :: st)) : J x cells slots (wC (xG x) ad n σ) pc lv (.ref (ad j) :: st) := by
  subst hv
  have hcell := cD_s (xG x) ad hk (σ j)
  rcases kcl_123 (σ j 0) with hc | hc | hc <;> rw [hc] at hcell
  · exact J_get h (q0 := j) (kf := 4) iX1 (wd_at hn hcell) rfl (by decide) hlink hsame rfl d k
  · exact J_get h (q0 := j) (kf := 4) iX2 (wd_at hn hcell) rfl (by decide) hlink hsame rfl d k
  · exact J_get h (q0 := j) (kf := 4) iX3 (wd_at hn hcell) rfl (by decide) hlink hsame rfl d k
theorem J_Sp4 (h : Ok x cc own ret) {j : Nat} {rf : String} {v : Int32} (hk : 28 ≤ j) (hn : j < n) (hlink : Cond.fieldLink own index rf (TX1 4).2.1 (TX1 4).2.2.1 ∈ gd_tbl) (hsame : ∀ y, (xS x).fieldFound? (TX1 4).1 (TX1 4).2.1 (TX1 4).2.2.1 = some y → (xS x).fieldFound? rf (TX1 4).2.1 (TX1 4).2.2.1 = some y) (d : decode cc pc = .ok (.putfield index, 3)) (k : J x cells slots (wC (xG x) ad n (up2 σ j 4 v)) (pc + 3) lv st) : J x cells slots (wC (xG x) ad n σ) pc lv (.int v :: .ref (ad j) :: st) := by
  have hcell := cD_s (xG x) ad hk (σ j)
  have hcell2 := cD_s (xG x) ad hk (va_up (σ j) 4 v)
  have e0 : va_up (σ j) 4 v 0 = σ j 0 := rfl
  rw [e0] at hcell2
  rcases kcl_123 (σ j 0) with hc | hc | hc <;> rw [hc] at hcell hcell2
  · exact J_put h (q0 := j) (kf := 4) (ty := .int) _ iX1 tyX1_ok nmX1 (wd_at hn hcell) rfl (by decide) hlink hsame rfl (by decide +kernel) rfl rfl (Nat.le_of_ble_eq_true rfl) (wd_set hn (hcell2.symm ▸ rfl)) d k
  · exact J_put h (q0 := j) (kf := 4) (ty := .int) _ iX2 tyX2_ok nmX2 (wd_at hn hcell) rfl (by decide) hlink hsame rfl (by decide +kernel) rfl rfl (Nat.le_of_ble_eq_true rfl) (wd_set hn (hcell2.symm ▸ rfl)) d k
  · exact J_put h (q0 := j) (kf := 4) (ty := .int) _ iX3 tyX3_ok nmX3 (wd_at hn hcell) rfl (by decide) hlink hsame rfl (by decide +kernel) rfl rfl (Nat.le_of_ble_eq_true rfl) (wd_set hn (hcell2.symm ▸ rfl)) d k
theorem J_Sg5 (h : Ok x cc own ret) {j : Nat} {rf : String} (hk : 28 ≤ j) (hn : j < n) (hlink : Cond.fieldLink own index rf (TX1 5).2.1 (TX1 5).2.2.1 ∈ gd_tbl) (hsame : ∀ y, (xS x).fieldFound? (TX1 5).1 (TX1 5).2.1 (TX1 5).2.2.1 = some y → (xS x).fieldFound? rf (TX1 5).2.1 (TX1 5).2.2.1 = some y) (v : Int32) (hv : σ j 5 = v) (d : decode cc pc = .ok (.getfield index, 3)) (k : J x cells slots (wC (xG x) ad n σ) (pc + 3) lv (.int v :: st)) : J x cells slots (wC (xG x) ad n σ) pc lv (.ref (ad j) :: st) := by
  subst hv
  have hcell := cD_s (xG x) ad hk (σ j)
  rcases kcl_123 (σ j 0) with hc | hc | hc <;> rw [hc] at hcell
  · exact J_get h (q0 := j) (kf := 5) iX1 (wd_at hn hcell) rfl (by decide) hlink hsame rfl d k
  · exact J_get h (q0 := j) (kf := 5) iX2 (wd_at hn hcell) rfl (by decide) hlink hsame rfl d k
  · exact J_get h (q0 := j) (kf := 5) iX3 (wd_at hn hcell) rfl (by decide) hlink hsame rfl d k
theorem J_Sp5 (h : Ok x cc own ret) {j : Nat} {rf : String} {v : Int32} (hk : 28 ≤ j) (hn : j < n) (hlink : Cond.fieldLink own index rf (TX1 5).2.1 (TX1 5).2.2.1 ∈ gd_tbl) (hsame : ∀ y, (xS x).fieldFound? (TX1 5).1 (TX1 5).2.1 (TX1 5).2.2.1 = some y → (xS x).fieldFound? rf (TX1 5).2.1 (TX1 5).2.2.1 = some y) (d : decode cc pc = .ok (.putfield index, 3)) (k : J x cells slots (wC (xG x) ad n (up2 σ j 5 v)) (pc + 3) lv st) : J x cells slots (wC (xG x) ad n σ) pc lv (.int v :: .ref (ad j) :: st) := by
  have hcell := cD_s (xG x) ad hk (σ j)
  have hcell2 := cD_s (xG x) ad hk (va_up (σ j) 5 v)
  have e0 : va_up (σ j) 5 v 0 = σ j 0 := rfl
  rw [e0] at hcell2
  rcases kcl_123 (σ j 0) with hc | hc | hc <;> rw [hc] at hcell hcell2
  · exact J_put h (q0 := j) (kf := 5) (ty := .int) _ iX1 tyX1_ok nmX1 (wd_at hn hcell) rfl (by decide) hlink hsame rfl (by decide +kernel) rfl rfl (Nat.le_of_ble_eq_true rfl) (wd_set hn (hcell2.symm ▸ rfl)) d k
  · exact J_put h (q0 := j) (kf := 5) (ty := .int) _ iX2 tyX2_ok nmX2 (wd_at hn hcell) rfl (by decide) hlink hsame rfl (by decide +kernel) rfl rfl (Nat.le_of_ble_eq_true rfl) (wd_set hn (hcell2.symm ▸ rfl)) d k
  · exact J_put h (q0 := j) (kf := 5) (ty := .int) _ iX3 tyX3_ok nmX3 (wd_at hn hcell) rfl (by decide) hlink hsame rfl (by decide +kernel) rfl rfl (Nat.le_of_ble_eq_true rfl) (wd_set hn (hcell2.symm ▸ rfl)) d k
theorem J_Mg0 (h : Ok x cc own ret) (hlink : Cond.fieldLink own index RX5 (TX5 0).2.1 (TX5 0).2.2.1 ∈ gd_tbl) (v : Int32) (hv : σ 0 0 = v) (d : decode cc pc = .ok (.getfield index, 3)) (k : J x cells slots (wM (xG x) ad σ) (pc + 3) lv (.int v :: st)) : J x cells slots (wM (xG x) ad σ) pc lv (.ref (ad 0) :: st) := J_get h (q0 := 0) (kf := 0) iX5 (wd_at (by decide) (cM_0 _ _ _)) rfl (by decide) hlink (fun _ q => q) (by rw [← hv]; rfl) d k
theorem J_Mp0 (h : Ok x cc own ret) {v : Int32} (hlink : Cond.fieldLink own index RX5 (TX5 0).2.1 (TX5 0).2.2.1 ∈ gd_tbl) (d : decode cc pc = .ok (.putfield index, 3)) (k : J x cells slots (wM (xG x) ad (up2 σ 0 0 v)) (pc + 3) lv st) : J x cells slots (wM (xG x) ad σ) pc lv (.int v :: .ref (ad 0) :: st) := J_put h (q0 := 0) (kf := 0) (ty := .int) _ iX5 tyX5_ok nmX5 (wd_at (by decide) (cM_0 _ _ _)) rfl (by decide) hlink (fun _ q => q) rfl (by decide +kernel) rfl rfl (Nat.le_of_ble_eq_true rfl) (wd_set (by decide) (by rw [cM_0]; rfl)) d k
theorem J_Mg12 (h : Ok x cc own ret) (hlink : Cond.fieldLink own index RX5 (TX5 12).2.1 (TX5 12).2.2.1 ∈ gd_tbl) (v : Int32) (hv : σ 0 12 = v) (d : decode cc pc = .ok (.getfield index, 3)) (k : J x cells slots (wM (xG x) ad σ) (pc + 3) lv (.int v :: st)) : J x cells slots (wM (xG x) ad σ) pc lv (.ref (ad 0) :: st) := J_get h (q0 := 0) (kf := 12) iX5 (wd_at (by decide) (cM_0 _ _ _)) rfl (by decide) hlink (fun _ q => q) (by rw [← hv]; rfl) d k
theorem J_Mp12 (h : Ok x cc own ret) {v : Int32} (hlink : Cond.fieldLink own index RX5 (TX5 12).2.1 (TX5 12).2.2.1 ∈ gd_tbl) (d : decode cc pc = .ok (.putfield index, 3)) (k : J x cells slots (wM (xG x) ad (up2 σ 0 12 v)) (pc + 3) lv st) : J x cells slots (wM (xG x) ad σ) pc lv (.int v :: .ref (ad 0) :: st) := J_put h (q0 := 0) (kf := 12) (ty := .int) _ iX5 tyX5_ok nmX5 (wd_at (by decide) (cM_0 _ _ _)) rfl (by decide) hlink (fun _ q => q) rfl (by decide +kernel) rfl rfl (Nat.le_of_ble_eq_true rfl) (wd_set (by decide) (by rw [cM_0]; rfl)) d k
theorem J_Mg13 (h : Ok x cc own ret) (hlink : Cond.fieldLink own index RX5 (TX5 13).2.1 (TX5 13).2.2.1 ∈ gd_tbl) (v : Int32) (hv : σ 0 13 = v) (d : decode cc pc = .ok (.getfield index, 3)) (k : J x cells slots (wM (xG x) ad σ) (pc + 3) lv (.int v :: st)) : J x cells slots (wM (xG x) ad σ) pc lv (.ref (ad 0) :: st) := J_get h (q0 := 0) (kf := 13) iX5 (wd_at (by decide) (cM_0 _ _ _)) rfl (by decide) hlink (fun _ q => q) (by rw [← hv]; rfl) d k
theorem J_Mp13 (h : Ok x cc own ret) {v : Int32} (hlink : Cond.fieldLink own index RX5 (TX5 13).2.1 (TX5 13).2.2.1 ∈ gd_tbl) (d : decode cc pc = .ok (.putfield index, 3)) (k : J x cells slots (wM (xG x) ad (up2 σ 0 13 v)) (pc + 3) lv st) : J x cells slots (wM (xG x) ad σ) pc lv (.int v :: .ref (ad 0) :: st) := J_put h (q0 := 0) (kf := 13) (ty := .int) _ iX5 tyX5_ok nmX5 (wd_at (by decide) (cM_0 _ _ _)) rfl (by decide) hlink (fun _ q => q) rfl (by decide +kernel) rfl rfl (Nat.le_of_ble_eq_true rfl) (wd_set (by decide) (by rw [cM_0]; rfl)) d k
theorem J_Mg14 (h : Ok x cc own ret) (hlink : Cond.fieldLink own index RX5 (TX5 14).2.1 (TX5 14).2.2.1 ∈ gd_tbl) (v : Int32) (hv : σ 0 14 = v) (d : decode cc pc = .ok (.getfield index, 3)) (k : J x cells slots (wM (xG x) ad σ) (pc + 3) lv (.int v :: st)) : J x cells slots (wM (xG x) ad σ) pc lv (.ref (ad 0) :: st) := J_get h (q0 := 0) (kf := 14) iX5 (wd_at (by decide) (cM_0 _ _ _)) rfl (by decide) hlink (fun _ q => q) (by rw [← hv]; rfl) d k
theorem J_Mp14 (h : Ok x cc own ret) {v : Int32} (hlink : Cond.fieldLink own index RX5 (TX5 14).2.1 (TX5 14).2.2.1 ∈ gd_tbl) (d : decode cc pc = .ok (.putfield index, 3)) (k : J x cells slots (wM (xG x) ad (up2 σ 0 14 v)) (pc + 3) lv st) : J x cells slots (wM (xG x) ad σ) pc lv (.int v :: .ref (ad 0) :: st) := J_put h (q0 := 0) (kf := 14) (ty := .int) _ iX5 tyX5_ok nmX5 (wd_at (by decide) (cM_0 _ _ _)) rfl (by decide) hlink (fun _ q => q) rfl (by decide +kernel) rfl rfl (Nat.le_of_ble_eq_true rfl) (wd_set (by decide) (by rw [cM_0]; rfl)) d k
theorem J_Mg15 (h : Ok x cc own ret) (hlink : Cond.fieldLink own index RX5 (TX5 15).2.1 (TX5 15).2.2.1 ∈ gd_tbl) (v : Int32) (hv : σ 0 15 = v) (d : decode cc pc = .ok (.getfield index, 3)) (k : J x cells slots (wM (xG x) ad σ) (pc + 3) lv (.int v :: st)) : J x cells slots (wM (xG x) ad σ) pc lv (.ref (ad 0) :: st) := J_get h (q0 := 0) (kf := 15) iX5 (wd_at (by decide) (cM_0 _ _ _)) rfl (by decide) hlink (fun _ q => q) (by rw [← hv]; rfl) d k
theorem J_Mp15 (h : Ok x cc own ret) {v : Int32} (hlink : Cond.fieldLink own index RX5 (TX5 15).2.1 (TX5 15).2.2.1 ∈ gd_tbl) (d : decode cc pc = .ok (.putfield index, 3)) (k : J x cells slots (wM (xG x) ad (up2 σ 0 15 v)) (pc + 3) lv st) : J x cells slots (wM (xG x) ad σ) pc lv (.int v :: .ref (ad 0) :: st) := J_put h (q0 := 0) (kf := 15) (ty := .int) _ iX5 tyX5_ok nmX5 (wd_at (by decide) (cM_0 _ _ _)) rfl (by decide) hlink (fun _ q => q) rfl (by decide +kernel) rfl rfl (Nat.le_of_ble_eq_true rfl) (wd_set (by decide) (by rw [cM_0]; rfl)) d k
theorem J_Mg16 (h : Ok x cc own ret) (hlink : Cond.fieldLink own index RX5 (TX5 16).2.1 (TX5 16).2.2.1 ∈ gd_tbl) (v : Int32) (hv : σ 0 16 = v) (d : decode cc pc = .ok (.getfield index, 3)) (k : J x cells slots (wM (xG x) ad σ) (pc + 3) lv (.int v :: st)) : J x cells slots (wM (xG x) ad σ) pc lv (.ref (ad 0) :: st) := J_get h (q0 := 0) (kf := 16) iX5 (wd_at (by decide) (cM_0 _ _ _)) rfl (by decide) hlink (fun _ q => q) (by rw [← hv]; rfl) d k
theorem J_Mp16 (h : Ok x cc own ret) {v : Int32} (hlink : Cond.fieldLink own index RX5 (TX5 16).2.1 (TX5 16).2.2.1 ∈ gd_tbl) (d : decode cc pc = .ok (.putfield index, 3)) (k : J x cells slots (wM (xG x) ad (up2 σ 0 16 v)) (pc + 3) lv st) : J x cells slots (wM (xG x) ad σ) pc lv (.int v :: .ref (ad 0) :: st) := J_put h (q0 := 0) (kf := 16) (ty := .int) _ iX5 tyX5_ok nmX5 (wd_at (by decide) (cM_0 _ _ _)) rfl (by decide) hlink (fun _ q => q) rfl (by decide +kernel) rfl rfl (Nat.le_of_ble_eq_true rfl) (wd_set (by decide) (by rw [cM_0]; rfl)) d k
theorem J_Mg17 (h : Ok x cc own ret) (hlink : Cond.fieldLink own index RX5 (TX5 17).2.1 (TX5 17).2.2.1 ∈ gd_tbl) (v : Int32) (hv : σ 0 17 = v) (d : decode cc pc = .ok (.getfield index, 3)) (k : J x cells slots (wM (xG x) ad σ) (pc + 3) lv (.int v :: st)) : J x cells slots (wM (xG x) ad σ) pc lv (.ref (ad 0) :: st) := J_get h (q0 := 0) (kf := 17) iX5 (wd_at (by decide) (cM_0 _ _ _)) rfl (by decide) hlink (fun _ q => q) (by rw [← hv]; rfl) d k
theorem J_Mp17 (h : Ok x cc own ret) {v : Int32} (hlink : Cond.fieldLink own index RX5 (TX5 17).2.1 (TX5 17).2.2.1 ∈ gd_tbl) (d : decode cc pc = .ok (.putfield index, 3)) (k : J x cells slots (wM (xG x) ad (up2 σ 0 17 v)) (pc + 3) lv st) : J x cells slots (wM (xG x) ad σ) pc lv (.int v :: .ref (ad 0) :: st) := J_put h (q0 := 0) (kf := 17) (ty := .int) _ iX5 tyX5_ok nmX5 (wd_at (by decide) (cM_0 _ _ _)) rfl (by decide) hlink (fun _ q => q) rfl (by decide +kernel) rfl rfl (Nat.le_of_ble_eq_true rfl) (wd_set (by decide) (by rw [cM_0]; rfl)) d k
theorem J_Mg18 (h : Ok x cc own ret) (hlink : Cond.fieldLink own index RX5 (TX5 18).2.1 (TX5 18).2.2.1 ∈ gd_tbl) (v : Int32) (hv : σ 0 18 = v) (d : decode cc pc = .ok (.getfield index, 3)) (k : J x cells slots (wM (xG x) ad σ) (pc + 3) lv (.int v :: st)) : J x cells slots (wM (xG x) ad σ) pc lv (.ref (ad 0) :: st) := J_get h (q0 := 0) (kf := 18) iX5 (wd_at (by decide) (cM_0 _ _ _)) rfl (by decide) hlink (fun _ q => q) (by rw [← hv]; rfl) d k
theorem J_Mp18 (h : Ok x cc own ret) {v : Int32} (hlink : Cond.fieldLink own index RX5 (TX5 18).2.1 (TX5 18).2.2.1 ∈ gd_tbl) (d : decode cc pc = .ok (.putfield index, 3)) (k : J x cells slots (wM (xG x) ad (up2 σ 0 18 v)) (pc + 3) lv st) : J x cells slots (wM (xG x) ad σ) pc lv (.int v :: .ref (ad 0) :: st) := J_put h (q0 := 0) (kf := 18) (ty := .int) _ iX5 tyX5_ok nmX5 (wd_at (by decide) (cM_0 _ _ _)) rfl (by decide) hlink (fun _ q => q) rfl (by decide +kernel) rfl rfl (Nat.le_of_ble_eq_true rfl) (wd_set (by decide) (by rw [cM_0]; rfl)) d k
theorem J_Mg20 (h : Ok x cc own ret) (hlink : Cond.fieldLink own index RX5 (TX5 20).2.1 (TX5 20).2.2.1 ∈ gd_tbl) (v : Int32) (hv : σ 0 20 = v) (d : decode cc pc = .ok (.getfield index, 3)) (k : J x cells slots (wM (xG x) ad σ) (pc + 3) lv (.int v :: st)) : J x cells slots (wM (xG x) ad σ) pc lv (.ref (ad 0) :: st) := J_get h (q0 := 0) (kf := 20) iX5 (wd_at (by decide) (cM_0 _ _ _)) rfl (by decide) hlink (fun _ q => q) (by rw [← hv]; rfl) d k
theorem J_Mp20 (h : Ok x cc own ret) {v : Int32} (hlink : Cond.fieldLink own index RX5 (TX5 20).2.1 (TX5 20).2.2.1 ∈ gd_tbl) (d : decode cc pc = .ok (.putfield index, 3)) (k : J x cells slots (wM (xG x) ad (up2 σ 0 20 v)) (pc + 3) lv st) : J x cells slots (wM (xG x) ad σ) pc lv (.int v :: .ref (ad 0) :: st) := J_put h (q0 := 0) (kf := 20) (ty := .int) _ iX5 tyX5_ok nmX5 (wd_at (by decide) (cM_0 _ _ _)) rfl (by decide) hlink (fun _ q => q) rfl (by decide +kernel) rfl rfl (Nat.le_of_ble_eq_true rfl) (wd_set (by decide) (by rw [cM_0]; rfl)) d k
theorem J_Mr1 (h : Ok x cc own ret) (hlink : Cond.fieldLink own index RX5 (TX5 1).2.1 (TX5 1).2.2.1 ∈ gd_tbl) (d : decode cc pc = .ok (.getfield index, 3)) (k : J x cells slots (wM (xG x) ad σ) (pc + 3) lv (.ref (ad 1) :: st)) : J x cells slots (wM (xG x) ad σ) pc lv (.ref (ad 0) :: st) := J_get h (q0 := 0) (kf := 1) iX5 (wd_at (by decide) (cM_0 _ _ _)) rfl (by decide) hlink (fun _ q => q) rfl d k
theorem J_Mr2 (h : Ok x cc own ret) (hlink : Cond.fieldLink own index RX5 (TX5 2).2.1 (TX5 2).2.2.1 ∈ gd_tbl) (d : decode cc pc = .ok (.getfield index, 3)) (k : J x cells slots (wM (xG x) ad σ) (pc + 3) lv (.ref (ad 2) :: st)) : J x cells slots (wM (xG x) ad σ) pc lv (.ref (ad 0) :: st) := J_get h (q0 := 0) (kf := 2) iX5 (wd_at (by decide) (cM_0 _ _ _)) rfl (by decide) hlink (fun _ q => q) rfl d k
theorem J_Mr3 (h : Ok x cc own ret) (hlink : Cond.fieldLink own index RX5 (TX5 3).2.1 (TX5 3).2.2.1 ∈ gd_tbl) (d : decode cc pc = .ok (.getfield index, 3)) (k : J x cells slots (wM (xG x) ad σ) (pc + 3) lv (.ref (ad 3) :: st)) : J x cells slots (wM (xG x) ad σ) pc lv (.ref (ad 0) :: st) := J_get h (q0 := 0) (kf := 3) iX5 (wd_at (by decide) (cM_0 _ _ _)) rfl (by decide) hlink (fun _ q => q) rfl d k
theorem J_Mr4 (h : Ok x cc own ret) (hlink : Cond.fieldLink own index RX5 (TX5 4).2.1 (TX5 4).2.2.1 ∈ gd_tbl) (d : decode cc pc = .ok (.getfield index, 3)) (k : J x cells slots (wM (xG x) ad σ) (pc + 3) lv (.ref (ad 4) :: st)) : J x cells slots (wM (xG x) ad σ) pc lv (.ref (ad 0) :: st) := J_get h (q0 := 0) (kf := 4) iX5 (wd_at (by decide) (cM_0 _ _ _)) rfl (by decide) hlink (fun _ q => q) rfl d k
theorem J_Mr5 (h : Ok x cc own ret) (hlink : Cond.fieldLink own index RX5 (TX5 5).2.1 (TX5 5).2.2.1 ∈ gd_tbl) (d : decode cc pc = .ok (.getfield index, 3)) (k : J x cells slots (wM (xG x) ad σ) (pc + 3) lv (.ref (ad 5) :: st)) : J x cells slots (wM (xG x) ad σ) pc lv (.ref (ad 0) :: st) := J_get h (q0 := 0) (kf := 5) iX5 (wd_at (by decide) (cM_0 _ _ _)) rfl (by decide) hlink (fun _ q => q) rfl d k
theorem J_Mr6 (h : Ok x cc own ret) (hlink : Cond.fieldLink own index RX5 (TX5 6).2.1 (TX5 6).2.2.1 ∈ gd_tbl) (d : decode cc pc = .ok (.getfield index, 3)) (k : J x cells slots (wM (xG x) ad σ) (pc + 3) lv (.ref (ad 6) :: st)) : J x cells slots (wM (xG x) ad σ) pc lv (.ref (ad 0) :: st) := J_get h (q0 := 0) (kf := 6) iX5 (wd_at (by decide) (cM_0 _ _ _)) rfl (by decide) hlink (fun _ q => q) rfl d k
theorem J_Mr7 (h : Ok x cc own ret) (hlink : Cond.fieldLink own index RX5 (TX5 7).2.1 (TX5 7).2.2.1 ∈ gd_tbl) (d : decode cc pc = .ok (.getfield index, 3)) (k : J x cells slots (wM (xG x) ad σ) (pc + 3) lv (.ref (ad 7) :: st)) : J x cells slots (wM (xG x) ad σ) pc lv (.ref (ad 0) :: st) := J_get h (q0 := 0) (kf := 7) iX5 (wd_at (by decide) (cM_0 _ _ _)) rfl (by decide) hlink (fun _ q => q) rfl d k
theorem J_Mr8 (h : Ok x cc own ret) (hlink : Cond.fieldLink own index RX5 (TX5 8).2.1 (TX5 8).2.2.1 ∈ gd_tbl) (d : decode cc pc = .ok (.getfield index, 3)) (k : J x cells slots (wM (xG x) ad σ) (pc + 3) lv (.ref (ad 8) :: st)) : J x cells slots (wM (xG x) ad σ) pc lv (.ref (ad 0) :: st) := J_get h (q0 := 0) (kf := 8) iX5 (wd_at (by decide) (cM_0 _ _ _)) rfl (by decide) hlink (fun _ q => q) rfl d k
theorem J_Mr9 (h : Ok x cc own ret) (hlink : Cond.fieldLink own index RX5 (TX5 9).2.1 (TX5 9).2.2.1 ∈ gd_tbl) (d : decode cc pc = .ok (.getfield index, 3)) (k : J x cells slots (wM (xG x) ad σ) (pc + 3) lv (.ref (ad 9) :: st)) : J x cells slots (wM (xG x) ad σ) pc lv (.ref (ad 0) :: st) := J_get h (q0 := 0) (kf := 9) iX5 (wd_at (by decide) (cM_0 _ _ _)) rfl (by decide) hlink (fun _ q => q) rfl d k
theorem J_Mr10 (h : Ok x cc own ret) (hlink : Cond.fieldLink own index RX5 (TX5 10).2.1 (TX5 10).2.2.1 ∈ gd_tbl) (d : decode cc pc = .ok (.getfield index, 3)) (k : J x cells slots (wM (xG x) ad σ) (pc + 3) lv (.ref (ad 10) :: st)) : J x cells slots (wM (xG x) ad σ) pc lv (.ref (ad 0) :: st) := J_get h (q0 := 0) (kf := 10) iX5 (wd_at (by decide) (cM_0 _ _ _)) rfl (by decide) hlink (fun _ q => q) rfl d k
theorem J_Mr11 (h : Ok x cc own ret) (hlink : Cond.fieldLink own index RX5 (TX5 11).2.1 (TX5 11).2.2.1 ∈ gd_tbl) (d : decode cc pc = .ok (.getfield index, 3)) (k : J x cells slots (wM (xG x) ad σ) (pc + 3) lv (.ref (ad 11) :: st)) : J x cells slots (wM (xG x) ad σ) pc lv (.ref (ad 0) :: st) := J_get h (q0 := 0) (kf := 11) iX5 (wd_at (by decide) (cM_0 _ _ _)) rfl (by decide) hlink (fun _ q => q) rfl d k
theorem J_Mr19 (h : Ok x cc own ret) (hlink : Cond.fieldLink own index RX5 (TX5 19).2.1 (TX5 19).2.2.1 ∈ gd_tbl) (d : decode cc pc = .ok (.getfield index, 3)) (k : J x cells slots (wM (xG x) ad σ) (pc + 3) lv (.ref (ad 12) :: st)) : J x cells slots (wM (xG x) ad σ) pc lv (.ref (ad 0) :: st) := J_get h (q0 := 0) (kf := 19) iX5 (wd_at (by decide) (cM_0 _ _ _)) rfl (by decide) hlink (fun _ q => q) rfl d k
theorem J_Mr21 (h : Ok x cc own ret) (hlink : Cond.fieldLink own index RX5 (TX5 21).2.1 (TX5 21).2.2.1 ∈ gd_tbl) (d : decode cc pc = .ok (.getfield index, 3)) (k : J x cells slots (wM (xG x) ad σ) (pc + 3) lv (.ref (ad 13) :: st)) : J x cells slots (wM (xG x) ad σ) pc lv (.ref (ad 0) :: st) := J_get h (q0 := 0) (kf := 21) iX5 (wd_at (by decide) (cM_0 _ _ _)) rfl (by decide) hlink (fun _ q => q) rfl d k
theorem J_Mr22 (h : Ok x cc own ret) (hlink : Cond.fieldLink own index RX5 (TX5 22).2.1 (TX5 22).2.2.1 ∈ gd_tbl) (d : decode cc pc = .ok (.getfield index, 3)) (k : J x cells slots (wM (xG x) ad σ) (pc + 3) lv (.ref (ad 14) :: st)) : J x cells slots (wM (xG x) ad σ) pc lv (.ref (ad 0) :: st) := J_get h (q0 := 0) (kf := 22) iX5 (wd_at (by decide) (cM_0 _ _ _)) rfl (by decide) hlink (fun _ q => q) rfl d k
theorem J_Mr23 (h : Ok x cc own ret) (hlink : Cond.fieldLink own index RX5 (TX5 23).2.1 (TX5 23).2.2.1 ∈ gd_tbl) (d : decode cc pc = .ok (.getfield index, 3)) (k : J x cells slots (wM (xG x) ad σ) (pc + 3) lv (.ref (ad 15) :: st)) : J x cells slots (wM (xG x) ad σ) pc lv (.ref (ad 0) :: st) := J_get h (q0 := 0) (kf := 23) iX5 (wd_at (by decide) (cM_0 _ _ _)) rfl (by decide) hlink (fun _ q => q) rfl d k
theorem J_Mr24 (h : Ok x cc own ret) (hlink : Cond.fieldLink own index RX5 (TX5 24).2.1 (TX5 24).2.2.1 ∈ gd_tbl) (d : decode cc pc = .ok (.getfield index, 3)) (k : J x cells slots (wM (xG x) ad σ) (pc + 3) lv (.ref (ad 16) :: st)) : J x cells slots (wM (xG x) ad σ) pc lv (.ref (ad 0) :: st) := J_get h (q0 := 0) (kf := 24) iX5 (wd_at (by decide) (cM_0 _ _ _)) rfl (by decide) hlink (fun _ q => q) rfl d k
theorem J_Mr25 (h : Ok x cc own ret) (hlink : Cond.fieldLink own index RX5 (TX5 25).2.1 (TX5 25).2.2.1 ∈ gd_tbl) (d : decode cc pc = .ok (.getfield index, 3)) (k : J x cells slots (wM (xG x) ad σ) (pc + 3) lv (.ref (ad 17) :: st)) : J x cells slots (wM (xG x) ad σ) pc lv (.ref (ad 0) :: st) := J_get h (q0 := 0) (kf := 25) iX5 (wd_at (by decide) (cM_0 _ _ _)) rfl (by decide) hlink (fun _ q => q) rfl d k
theorem J_Ma (h : Ok x cc own ret) {i : Int32} (q : Nat) (L : Nat) (hq : 0 < q ∧ q < 18) (hL : mln q = L) (hin : vp_in i L) (v : Int32) (hv : σ q i.toNatClampNeg = v) (d : decode cc pc = .ok (.iaload, 1)) (k : J x cells slots (wM (xG x) ad σ) (pc + 1) lv (.int v :: st)) : J x cells slots (wM (xG x) ad σ) pc lv (.int i :: .ref (ad q) :: st) := J_iald h (q0 := q) (wd_at hq.2 (cM_a _ _ hq.1 _)) (by rw [hL]; exact hin) d (by rw [hv]; exact k)
theorem J_Ms (h : Ok x cc own ret) {i v : Int32} (q : Nat) (L : Nat) (hq : 0 < q ∧ q < 18) (hL : mln q = L) (hin : vp_in i L) (d : decode cc pc = .ok (.iastore, 1)) (k : J x cells slots (wM (xG x) ad (up2 σ q i.toNatClampNeg v)) (pc + 1) lv st) : J x cells slots (wM (xG x) ad σ) pc lv (.int v :: .int i :: .ref (ad q) :: st) := J_iast h (q0 := q) _ (wd_at hq.2 (cM_a _ _ hq.1 _)) (by rw [hL]; exact hin) (wd_set hq.2 (by rw [cM_a _ _ hq.1]; rfl)) d k
end JW
