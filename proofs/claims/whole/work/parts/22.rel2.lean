theorem up2_up2 (σ : Sg) (k i : Nat) (v w : Int32) : up2 (up2 σ k i v) k i w = up2 σ k i w := by
  funext a b
  rw [up2_eq, up2_eq, up2_eq]
  by_cases c : a = k ∧ b = i
  · rw [if_pos c, if_pos c]
  · rw [if_neg c, if_neg c, if_neg c]
theorem sub11 (a : Int32) : a - 1 - 1 = a - (1 + 1) := by
  rw [Int32.sub_eq_add_neg, Int32.sub_eq_add_neg, Int32.sub_eq_add_neg, Int32.add_assoc]
  rfl
theorem sub111 (a : Int32) : a - 1 - 1 - 1 = a - (2 + 1) := by
  rw [Int32.sub_eq_add_neg, Int32.sub_eq_add_neg, Int32.sub_eq_add_neg, Int32.sub_eq_add_neg, Int32.add_assoc, Int32.add_assoc]
  rfl
theorem lfw_n {m k : Nat} {s : Int32} {σ : Sg} (h : ¬ σ 1 s.toNatClampNeg < nI k) : lf_X5_worth (m + 1) k s σ = lf_X5_worth m (k + 1) s (f_X5_enter s σ) := if_neg h
theorem lfw_0 {m k : Nat} {s : Int32} {σ : Sg} (h : σ 1 s.toNatClampNeg < nI k) (h0 : σ 1 s.toNatClampNeg = 0) : lf_X5_worth (m + 1) k s σ = (σ 2 s.toNatClampNeg, up2 σ 5 s.toNatClampNeg ((σ 5 s.toNatClampNeg) - ((σ 1 s.toNatClampNeg) + 1))) := (if_pos h).trans ((if_pos (by rw [h0]; decide)).trans (if_neg (by rw [h0]; decide)))
theorem lfw_1 {m k : Nat} {s : Int32} {σ : Sg} (h : σ 1 s.toNatClampNeg < nI k) (h0 : σ 1 s.toNatClampNeg = 1) : lf_X5_worth (m + 1) k s σ = ((σ 2 s.toNatClampNeg) + (σ 3 s.toNatClampNeg), up2 σ 5 s.toNatClampNeg ((σ 5 s.toNatClampNeg) - ((σ 1 s.toNatClampNeg) + 1))) := (if_pos h).trans ((if_neg (by rw [h0]; decide)).trans (if_neg (by rw [h0]; decide)))
theorem lfw_2 {m k : Nat} {s : Int32} {σ : Sg} (h : σ 1 s.toNatClampNeg < nI k) (h0 : σ 1 s.toNatClampNeg = 2) : lf_X5_worth (m + 1) k s σ = (2 * ((σ 2 s.toNatClampNeg) + (σ 3 s.toNatClampNeg)), up2 σ 5 s.toNatClampNeg ((σ 5 s.toNatClampNeg) - ((σ 1 s.toNatClampNeg) + 1))) := (if_pos h).trans ((if_neg (by rw [h0]; decide)).trans (if_pos h0))
section WORTH
variable {σ τ : Sg} {i : Nat} {s : Int32}
theorem RR.worth (h : RR σ τ) (hs : s.toNatClampNeg = i) (hk : τ 1 i = 0 ∨ τ 1 i = 1 ∨ τ 1 i = 2) : (f_vworth (28 + i) σ).1 = (f_X5_worth s τ).1 ∧ RR (f_vworth (28 + i) σ).2 (f_X5_worth s τ).2 := by
  have r1 : ∀ ρ : Sg, (f_X5_enter s ρ) 1 s.toNatClampNeg = ρ 1 s.toNatClampNeg := fun ρ => by rw [fr5_enter (by decide)]
  have e0 := h.1 i 0 (by decide)
  have h1 := h.enter hs
  have h2 := h1.enter hs
  have h3 := h2.enter hs
  have rd : ∀ (ρ : Sg) (f : Nat), f ≠ 4 → (f_X1_leave (28 + i) ρ) (28 + i) f = ρ (28 + i) f := fun ρ f hf => by
    unfold f_X1_leave
    rw [up2_row _ _ _ hf]
  rcases hk with k0 | k0 | k0
  · have e1 : f_vworth (28 + i) σ = f_X1_worth (28 + i) σ := if_pos (by rw [e0]; exact k0)
    have z0 : τ 1 s.toNatClampNeg = 0 := by rw [hs]; exact k0
    have e2 : f_X5_worth s τ = _ := (lfw_n (by rw [z0]; decide)).trans (lfw_0 (by rw [r1, z0]; decide) (by rw [r1]; exact z0))
    rw [e1, e2]
    refine ⟨by rw [hs]; exact h1.1 i 1 (by decide), ?_⟩
    rw [r1, z0, hs]
    exact h1.lv rfl
  · have e1 : f_vworth (28 + i) σ = f_X2_worth (28 + i) σ := (if_neg (by rw [e0, k0]; decide)).trans (if_pos (by rw [e0]; exact k0))
    have z0 : τ 1 s.toNatClampNeg = 1 := by rw [hs]; exact k0
    have e2 : f_X5_worth s τ = _ := (lfw_n (by rw [z0]; decide)).trans ((lfw_n (by rw [r1, z0]; decide)).trans (lfw_1 (by rw [r1, r1, z0]; decide) (by rw [r1, r1]; exact z0)))
    rw [e1, e2]
    constructor
    · show (f_X1_worth (28 + i) (f_X1_enter (28 + i) σ)).1 + (f_X1_worth (28 + i) (f_X1_enter (28 + i) σ)).2 (28 + i) 2 = _
      show (f_X1_enter (28 + i) (f_X1_enter (28 + i) σ)) (28 + i) 1 + (f_X1_leave (28 + i) (f_X1_enter (28 + i) (f_X1_enter (28 + i) σ))) (28 + i) 2 = _
      rw [rd _ 2 (by decide), h2.1 i 1 (by decide), h2.1 i 2 (by decide), hs]
    · rw [r1, r1, z0, hs]
      have h4 := ((h2.lv rfl).lv (q := (f_X5_enter s (f_X5_enter s τ)) 5 i - 1) (up2_self _ _ _ _))
      rw [up2_up2, sub11] at h4
      exact h4
  · have e1 : f_vworth (28 + i) σ = f_X3_worth (28 + i) σ := (if_neg (by rw [e0, k0]; decide)).trans (if_neg (by rw [e0, k0]; decide))
    have z0 : τ 1 s.toNatClampNeg = 2 := by rw [hs]; exact k0
    have e2 : f_X5_worth s τ = _ := (lfw_n (by rw [z0]; decide)).trans ((lfw_n (by rw [r1, z0]; decide)).trans ((lfw_n (by rw [r1, r1, z0]; decide)).trans (lfw_2 (by rw [r1, r1, r1, z0]; decide) (by rw [r1, r1, r1]; exact z0))))
    rw [e1, e2]
    constructor
    · show 2 * ((f_X1_enter (28 + i) (f_X1_enter (28 + i) (f_X1_enter (28 + i) σ))) (28 + i) 1 + (f_X1_leave (28 + i) (f_X1_enter (28 + i) (f_X1_enter (28 + i) (f_X1_enter (28 + i) σ)))) (28 + i) 2) = _
      rw [rd _ 2 (by decide), h3.1 i 1 (by decide), h3.1 i 2 (by decide), hs]
    · rw [r1, r1, r1, z0, hs]
      have h4 := ((h3.lv rfl).lv (q := (f_X5_enter s (f_X5_enter s (f_X5_enter s τ))) 5 i - 1) (up2_self _ _ _ _)).lv (q := (f_X5_enter s (f_X5_enter s (f_X5_enter s τ))) 5 i - 1 - 1) (up2_self _ _ _ _)
      rw [up2_up2, up2_up2, sub111] at h4
      exact h4
end WORTH
theorem isRoom_1 {a : Int32} (h : vp_in a 8) : ¬ f_X4_isRoom a = 0 := by
  have h2 := vp_in_iff.mp h
  have c1 : ¬ a < 0 := by rw [i_lt, ti0]; omega
  have c2 : ¬ (8 : Int32) ≤ a := by rw [i_le, show (8 : Int32).toInt = 8 from rfl]; omega
  unfold f_X4_isRoom
  rw [if_neg c1, if_neg c2]
  decide
theorem safeIn_at {a : Int32} {σ : Sg} (h : vp_in a 8) : f_X4_safeIn a σ = σ 1 a.toNatClampNeg := if_neg (isRoom_1 h)
theorem sk_done {b : Int32} {τ : Sg} (h : 0 ≤ τ 0 12) : ∀ (m k : Nat), lf_X5_seek m k b τ = τ := by
  intro m k
  cases m with
  | zero => rfl
  | succ m =>
    unfold lf_X5_seek
    by_cases c : (8 : Int32) ≤ nI k
    · rw [if_pos c]
    · rw [if_neg c, if_pos h]
theorem RR.seek {b : Int32} : ∀ (m k : Nat) (σ τ : Sg), RR σ τ → σ 0 4 = -1 → k ≤ 8 → k + m = 9 → RR (up2 (lf_X4_seek m k b σ).2 0 4 (lf_X4_seek m k b σ).1) (lf_X5_seek m k b τ) := by
  intro m
  induction m with
  | zero => intro k σ τ h hv hk hm; omega
  | succ m ih =>
    intro k σ τ h hv hk hm
    have t12 : τ 0 12 = -1 := by rw [← h.2.2.2.2.1]; exact hv
    unfold lf_X4_seek lf_X5_seek
    by_cases c : (8 : Int32) ≤ nI k
    · rw [if_pos c, if_pos c]
      show RR (up2 σ 0 4 (-1)) τ
      rw [up2_noop hv]
      exact h
    · have hk8 := ltn (k := k) (b := 8) (N := 8) rfl (by omega) c
      have hin : vp_in (nI k) 8 := vp_in_nI hk8 (by decide)
      have t0 : ¬ (0 : Int32) ≤ τ 0 12 := by rw [t12]; decide
      rw [if_neg c, if_neg c, if_neg t0, safeIn_at hin, h.2.1]
      generalize hw : τ 7 (nI k).toNatClampNeg = w
      by_cases cw : w = -1
      · rw [if_pos cw, if_pos cw]
        exact ih (k + 1) σ τ h hv (by omega) (by omega)
      · rw [if_neg cw, if_neg cw]
        have h1 := h.enter (s := w) (i := w.toNatClampNeg) rfl
        have v1 : (f_X1_enter (28 + w.toNatClampNeg) σ) 0 4 = -1 := by rw [fr_enter (by omega)]; exact hv
        have v2 : (f_X1_leave (28 + w.toNatClampNeg) (f_X1_enter (28 + w.toNatClampNeg) σ)) 0 4 = -1 := by rw [fr_leave (by omega)]; exact v1
        have h2 := h1.lv (i := w.toNatClampNeg) rfl
        rw [h1.1 w.toNatClampNeg 1 (by decide)]
        by_cases cb : (f_X5_enter w τ) 2 w.toNatClampNeg < b
        · rw [if_pos cb, if_pos cb, up2_noop (show _ = (-1 : Int32) from by rw [← h2.2.2.2.2.1]; exact v2)]
          exact ih (k + 1) _ _ h2 v2 (by omega) (by omega)
        · rw [if_neg cb, if_neg cb]
          have h3 := h2.g4 (nI k)
          rw [sk_done (by rw [up2_self]; exact nI_pos' (by omega))]
          exact h3
