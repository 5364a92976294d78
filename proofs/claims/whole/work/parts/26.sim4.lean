theorem MI.fr {σ0 τ τ' : Sg} {B : Nat} (h : MI σ0 B τ) (e : ∀ k, k ≠ 2 ∧ k ≠ 3 ∧ k ≠ 4 ∧ k ≠ 5 ∧ k ≠ 6 → τ' k = τ k) : MI σ0 B τ' := h.of (fun k hk => e k (by omega)) (by rw [e 0 (by decide)]) (by rw [e 0 (by decide)]) (by rw [e 0 (by decide)]) (by rw [e 0 (by decide)])
theorem Stk.fr {τ τ' : Sg} {B : Nat} (e : ∀ k, k ≠ 2 ∧ k ≠ 3 ∧ k ≠ 4 ∧ k ≠ 5 ∧ k ≠ 6 → τ' k = τ k) : Stk B τ τ' := Stk.rows (fun k h1 _ => e k (by omega))
/-- a plan's steps, d levels deep: the reference does what the class does -/
def SIM (n : Nat) (σ0 : Sg) (d : Nat) : Prop := ∀ (w p : Nat) (a b : Int32) (σ τ : Sg) (B : Nat), CR n σ0 d w p a b σ → RR σ τ → MI σ0 B τ → Tp B p a b τ → B + d < 78 → a.toInt ≤ b.toInt → OUT σ0 B τ (gS d p a b σ) b
section STEP
variable {n : Nat} {σ0 σ τ τs : Sg} {d w p B : Nat} {i b nx : Int32}
/-- kinds 2, 3, 4, 7 -/
theorem sim_safe {kd u v : Int32} (hI : ITm B τ) (hk : kd = 2 ∨ kd = 3 ∨ kd = 4 ∨ kd = 7) (hu : vp_in u 8) (hr : RR σ τs) (hm : MI σ0 B τs) (hs : Stk B τ τs) (hn : τs 15 B = nx) (e : f_X5_it τ = f_X5_withSafe kd (τs 7 u.toNatClampNeg) v τs) : OUT σ0 B τ (f_X4_doWithSafe kd (f_X4_safeIn u σ) v σ) nx := by
  have hw : f_X4_safeIn u σ = τs 7 u.toNatClampNeg := (safeIn_at hu).trans (hr.2.1 _)
  rw [hw]
  generalize τs 7 u.toNatClampNeg = x at e
  by_cases c : x = -1
  · have e1 : f_X4_doWithSafe kd x v σ = (1, σ) := if_pos c
    rw [e1]
    exact OUT.fail hI (e.trans (if_pos c)) (show ¬ (1 : Int32) = 0 by decide) (show ¬ (1 : Int32) = -1 by decide) hr hm hs
  · rcases hk with rfl | rfl | rfl | rfl
    · have e1 : f_X4_doWithSafe 2 x v σ = f_vput (28 + x.toNatClampNeg) v σ := if_neg c
      have e2 : f_X5_withSafe 2 x v τs = if (f_X5_put x v τs).1 = 0 then f_X5_fails 30 (f_X5_put x v τs).2 else (f_X5_put x v τs).2 := if_neg c
      rw [e1]
      rw [e2] at e
      have h1 := hr.vput (s := x) (v := v) (i := x.toNatClampNeg) rfl
      have f1 : ∀ k, k ≠ 2 ∧ k ≠ 3 ∧ k ≠ 4 ∧ k ≠ 5 ∧ k ≠ 6 → (f_X5_put x v τs).2 k = τs k := fun k hk => fr5_put hk
      rcases h1.1 with q | q
      · exact OUT.done hI (e.trans (if_neg (by rw [q.2]; decide))) q.1 h1.2 (hm.fr f1) (hs.trans (Stk.fr f1)) (by rw [f1 15 (by decide)]; exact hn)
      · refine OUT.fail hI ?_ (by rw [q.1]; decide) (by rw [q.1]; decide) h1.2 (hm.fr f1) (hs.trans (Stk.fr f1))
        rw [q.1]
        exact e.trans (if_pos q.2)
    · have e1 : f_X4_doWithSafe 3 x v σ = (0, up2 (f_vworth (28 + x.toNatClampNeg) σ).2 0 4 (f_vworth (28 + x.toNatClampNeg) σ).1) := if_neg c
      have e2 : f_X5_withSafe 3 x v τs = up2 (f_X5_worth x τs).2 0 12 (f_X5_worth x τs).1 := if_neg c
      rw [e1]
      have h1 := hr.worth (s := x) (i := x.toNatClampNeg) rfl (hm.2.2.2.1 _)
      have f1 : ∀ k, k ≠ 2 ∧ k ≠ 3 ∧ k ≠ 4 ∧ k ≠ 5 ∧ k ≠ 6 → (f_X5_worth x τs).2 k = τs k := fun k hk => fr5_worth hk.2.2
      refine OUT.done hI (e.trans e2) rfl ?_ ((hm.fr f1).up0 (by decide) _) ((hs.trans (Stk.fr f1)).trans (Stk.up (by decide))) (by rw [row_off (by decide), f1 15 (by decide)]; exact hn)
      rw [← h1.1]
      exact h1.2.g4 _
    · have e1 : f_X4_doWithSafe 4 x v σ = f_X1_give (28 + x.toNatClampNeg) (σ 0 4) (f_X4_safeIn (f_J9_floorMod_7cf53 v 8) σ) σ := if_neg c
      have e2 : f_X5_withSafe 4 x v τs = if (f_X5_give x (τs 7 ((v &&& 7).toNatClampNeg)) (τs 0 12) τs).1 = 0 then (f_X5_give x (τs 7 ((v &&& 7).toNatClampNeg)) (τs 0 12) τs).2 else f_X5_fails (f_X5_give x (τs 7 ((v &&& 7).toNatClampNeg)) (τs 0 12) τs).1 (f_X5_give x (τs 7 ((v &&& 7).toNatClampNeg)) (τs 0 12) τs).2 := if_neg c
      rw [e1, safeIn_fm, hr.2.1, hr.2.2.2.2.1]
      rw [e2] at e
      generalize τs 7 ((v &&& 7).toNatClampNeg) = y at e
      generalize τs 0 12 = z at e
      have h1 := hr.give (s := x) (v := z) (i := x.toNatClampNeg) rfl y
      have f1 : ∀ k, k ≠ 2 ∧ k ≠ 3 ∧ k ≠ 4 ∧ k ≠ 5 ∧ k ≠ 6 → (f_X5_give x y z τs).2 k = τs k := fun k hk => fr5_give hk
      have hv3 : (f_X5_give x y z τs).1 = 0 ∨ (f_X5_give x y z τs).1 = 1 ∨ (f_X5_give x y z τs).1 = 30 := by
        unfold f_X5_give
        repeat' split
        · exact Or.inr (Or.inr rfl)
        · exact Or.inr (Or.inl rfl)
        · exact Or.inr (Or.inr rfl)
        · exact Or.inl rfl
      by_cases c0 : (f_X5_give x y z τs).1 = 0
      · exact OUT.done hI (e.trans (if_pos c0)) (h1.1.trans c0) h1.2 (hm.fr f1) (hs.trans (Stk.fr f1)) (by rw [f1 15 (by decide)]; exact hn)
      · refine OUT.fail hI ?_ (by rw [h1.1]; exact c0) ?_ h1.2 (hm.fr f1) (hs.trans (Stk.fr f1))
        · rw [h1.1]; exact e.trans (if_neg c0)
        · rw [h1.1]
          rcases hv3 with q | q | q
          · exact absurd q c0
          · rw [q]; decide
          · rw [q]; decide
    · have e1 : f_X4_doWithSafe 7 x v σ = (0, up2 σ 0 4 (σ (28 + x.toNatClampNeg) 4)) := if_neg c
      have e2 : f_X5_withSafe 7 x v τs = up2 τs 0 12 (τs 5 x.toNatClampNeg) := if_neg c
      rw [e1]
      refine OUT.done hI (e.trans e2) rfl ?_ (hm.up0 (by decide) _) (hs.trans (Stk.up (by decide))) (by rw [row_off (by decide)]; exact hn)
      rw [← hr.1 x.toNatClampNeg 4 (by decide)]
      exact hr.g4 _
/-- kinds 5, 6, 13 -/
theorem sim_rooms {kd u v : Int32} (hI : ITm B τ) (hk : kd = 5 ∨ kd = 6 ∨ kd = 13) (hu : vp_in u 8) (hr : RR σ τs) (hm : MI σ0 B τs) (hs : Stk B τ τs) (hn : τs 15 B = nx) (e : f_X5_it τ = f_X5_does kd u v τs) : OUT σ0 B τ (f_X4_doWithRooms kd u v σ) nx := by
  have hset : ∀ (x : Int32) (ρ : Sg), f_X4_setRoom u x ρ = up2 ρ 1 u.toNatClampNeg x := fun x ρ => if_neg (isRoom_1 hu)
  rcases hk with rfl | rfl | rfl
  · have e1 : f_X4_doWithRooms 5 u v σ = (0, f_X4_setRoom u (f_X4_safeIn (f_J9_floorMod_7cf53 v 8) σ) σ) := rfl
    have e2 : f_X5_does 5 u v τs = up2 τs 7 u.toNatClampNeg (τs 7 ((v &&& 7).toNatClampNeg)) := rfl
    rw [e1, safeIn_fm, hset, hr.2.1]
    exact OUT.done hI (e.trans e2) rfl (hr.r _ _) (hm.room (hm.2.2.1 _ (vp_lt (and7 v)))) (hs.trans (Stk.up (by decide))) (by rw [row_off (by decide)]; exact hn)
  · have e1 : f_X4_doWithRooms 6 u v σ = (0, f_X4_setRoom u (-1) σ) := rfl
    have e2 : f_X5_does 6 u v τs = up2 τs 7 u.toNatClampNeg (-1) := rfl
    rw [e1, hset]
    exact OUT.done hI (e.trans e2) rfl (hr.r _ _) (hm.room (Or.inl rfl)) (hs.trans (Stk.up (by decide))) (by rw [row_off (by decide)]; exact hn)
  · have e1 : f_X4_doWithRooms 13 u v σ = (0, up2 (f_X4_seek u v σ).2 0 4 (f_X4_seek u v σ).1) := rfl
    have e2 : f_X5_does 13 u v τs = f_X5_seek u v τs := rfl
    have e3 : f_X5_seek u v τs = lf_X5_seek (9 - u.toNatClampNeg) u.toNatClampNeg v (up2 τs 0 12 (-1)) := rfl
    have e4 : f_X4_seek u v σ = lf_X4_seek (9 - u.toNatClampNeg) u.toNatClampNeg v σ := rfl
    have hu8 := vp_lt hu
    have h1 := RR.seek (b := v) (9 - u.toNatClampNeg) u.toNatClampNeg _ _ (hr.g4 (-1)) (up2_self _ _ _ _) (by omega) (by omega)
    rw [sk_v] at h1
    have h2 : RR (up2 (up2 (lf_X4_seek (9 - u.toNatClampNeg) u.toNatClampNeg v σ).2 0 4 (-1)) 0 4 (lf_X4_seek (9 - u.toNatClampNeg) u.toNatClampNeg v σ).1) (lf_X5_seek (9 - u.toNatClampNeg) u.toNatClampNeg v (up2 τs 0 12 (-1))) := h1
    rw [up2_up2] at h2
    rw [e1, e4]
    refine OUT.done hI (e.trans (e2.trans e3)) rfl h2 ?_ ?_ ?_
    · refine (hm.up0 (i := 12) (by decide) (-1)).of (fun k hk => fr5_sk (by omega) _ _ _) (fr5_sk0 (by decide) _ _ _) (fr5_sk0 (by decide) _ _ _) (fr5_sk0 (by decide) _ _ _) (fr5_sk0 (by decide) _ _ _)
    · exact (hs.trans (Stk.up (by decide))).trans (Stk.rows (fun k h1 _ => fr5_sk (by omega) _ _ _))
    · rw [fr5_sk (by decide), row_off (by decide)]; exact hn
/-- kinds 8 .. 11 -/
theorem sim_value {kd u v : Int32} (hI : ITm B τ) (hk : kd = 8 ∨ kd = 9 ∨ kd = 10 ∨ kd = 11) (h9 : kd = 9 → ¬ u = 0 ∧ ¬ u = -1) (hr : RR σ τs) (hm : MI σ0 B τs) (hs : Stk B τ τs) (hn : τs 15 B = nx) (e : f_X5_it τ = f_X5_does kd u v τs) : OUT σ0 B τ (f_X4_doWithValue kd u σ) nx := by
  rcases hk with rfl | rfl | rfl | rfl
  · have e1 : f_X4_doWithValue 8 u σ = if u = 0 then (6, σ) else (0, up2 σ 0 4 ((σ 0 4) / u)) := rfl
    have e2 : f_X5_does 8 u v τs = if u = 0 then f_X5_fails 6 τs else up2 τs 0 12 ((τs 0 12) / u) := rfl
    rw [e1]
    rw [e2] at e
    by_cases c : u = 0
    · rw [if_pos c]
      rw [if_pos c] at e
      exact OUT.fail hI e (show ¬ (6 : Int32) = 0 by decide) (show ¬ (6 : Int32) = -1 by decide) hr hm hs
    · rw [if_neg c, hr.2.2.2.2.1]
      rw [if_neg c] at e
      exact OUT.done hI e rfl (hr.g4 _) (hm.up0 (by decide) _) (hs.trans (Stk.up (by decide))) (by rw [row_off (by decide)]; exact hn)
  · have e1 : f_X4_doWithValue 9 u σ = (u, σ) := rfl
    have e2 : f_X5_does 9 u v τs = f_X5_fails u τs := rfl
    rw [e1]
    exact OUT.fail hI (e.trans e2) (h9 rfl).1 (h9 rfl).2 hr hm hs
  · have e1 : f_X4_doWithValue 10 u σ = (-1, up2 σ 0 4 u) := rfl
    have e2 : f_X5_does 10 u v τs = BK (up2 τs 0 12 u) := by
      have e3 : f_X5_does 10 u v τs = lf_X5_back (τs 0 20).toNatClampNeg (up2 τs 0 12 u) := rfl
      rw [e3]
      unfold BK
      rw [up2_row _ _ _ (by decide)]
    rw [e1]
    exact OUT.back hI (e.trans e2) rfl (hr.g4 _) (hm.up0 (by decide) _) (hs.trans (Stk.up (by decide)))
  · have e1 : f_X4_doWithValue 11 u σ = (0, up2 σ 0 4 ((σ 0 4) + u)) := rfl
    have e2 : f_X5_does 11 u v τs = up2 τs 0 12 ((τs 0 12) + u) := rfl
    rw [e1, hr.2.2.2.2.1]
    exact OUT.done hI (e.trans e2) rfl (hr.g4 _) (hm.up0 (by decide) _) (hs.trans (Stk.up (by decide))) (by rw [row_off (by decide)]; exact hn)
end STEP
