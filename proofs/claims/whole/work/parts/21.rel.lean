theorem up2_eq (σ : Sg) (k i : Nat) (v : Int32) (k' i' : Nat) : up2 σ k i v k' i' = if k' = k ∧ i' = i then v else σ k' i' := by
  by_cases hk : k' = k
  · subst hk
    by_cases hi : i' = i
    · subst hi; simp [up2_self]
    · rw [up2_row _ _ _ hi, if_neg (fun q => hi q.2)]
  · rw [up2_off _ _ hk, if_neg (fun q => hk q.1)]
theorem up2_noop {σ : Sg} {k i : Nat} {v : Int32} (h : σ k i = v) : up2 σ k i v = σ := by
  funext a b
  rw [up2_eq]
  split
  · rename_i q; rw [q.1, q.2, h]
  · rfl
/-- the class's ints and the reference's, while a run goes on -/
def RR (σ τ : Sg) : Prop := (∀ i f, f < 6 → σ (28 + i) f = τ (f + 1) i) ∧ (∀ r, σ 1 r = τ 7 r) ∧ (∀ i, σ 3 i = τ 12 i) ∧ σ 0 3 = τ 0 18 ∧ σ 0 4 = τ 0 12 ∧ σ 0 5 = τ 0 13 ∧ σ 0 7 = τ 0 16 ∧ σ 0 8 = τ 0 17
theorem RR.s {σ τ : Sg} (h : RR σ τ) {i f : Nat} (hf : f < 6) (v : Int32) : RR (up2 σ (28 + i) f v) (up2 τ (f + 1) i v) := by
  have o1 : ∀ k j, k < 28 → up2 σ (28 + i) f v k j = σ k j := fun k j hk => up2_off _ _ (by omega)
  have o2 : ∀ k j, k ≠ f + 1 → up2 τ (f + 1) i v k j = τ k j := fun k j hk => up2_off _ _ hk
  refine ⟨fun i' f' hf' => ?_, fun r => ?_, fun j => ?_, ?_, ?_, ?_, ?_, ?_⟩
  · rw [up2_eq, up2_eq]
    by_cases c : i' = i ∧ f' = f
    · rw [if_pos (by omega), if_pos (by omega)]
    · rw [if_neg (by omega), if_neg (by omega)]; exact h.1 i' f' hf'
  · rw [o1 _ _ (by decide), o2 _ _ (by omega)]; exact h.2.1 r
  · rw [o1 _ _ (by decide), o2 _ _ (by omega)]; exact h.2.2.1 j
  · rw [o1 _ _ (by decide), o2 _ _ (by omega)]; exact h.2.2.2.1
  · rw [o1 _ _ (by decide), o2 _ _ (by omega)]; exact h.2.2.2.2.1
  · rw [o1 _ _ (by decide), o2 _ _ (by omega)]; exact h.2.2.2.2.2.1
  · rw [o1 _ _ (by decide), o2 _ _ (by omega)]; exact h.2.2.2.2.2.2.1
  · rw [o1 _ _ (by decide), o2 _ _ (by omega)]; exact h.2.2.2.2.2.2.2
theorem RR.g3 {σ τ : Sg} (h : RR σ τ) (v : Int32) : RR (up2 σ 0 3 v) (up2 τ 0 18 v) := by
  refine ⟨fun i' f' hf' => ?_, fun r => ?_, fun j => ?_, ?_, ?_, ?_, ?_, ?_⟩
  · rw [up2_off _ _ (by omega), up2_off _ _ (by omega)]; exact h.1 i' f' hf'
  · rw [up2_off _ _ (by decide), up2_off _ _ (by decide)]; exact h.2.1 r
  · rw [up2_off _ _ (by decide), up2_off _ _ (by decide)]; exact h.2.2.1 j
  · rw [up2_self, up2_self]
  · rw [up2_row _ _ _ (by decide), up2_row _ _ _ (by decide)]; exact h.2.2.2.2.1
  · rw [up2_row _ _ _ (by decide), up2_row _ _ _ (by decide)]; exact h.2.2.2.2.2.1
  · rw [up2_row _ _ _ (by decide), up2_row _ _ _ (by decide)]; exact h.2.2.2.2.2.2.1
  · rw [up2_row _ _ _ (by decide), up2_row _ _ _ (by decide)]; exact h.2.2.2.2.2.2.2
theorem RR.g4 {σ τ : Sg} (h : RR σ τ) (v : Int32) : RR (up2 σ 0 4 v) (up2 τ 0 12 v) := by
  refine ⟨fun i' f' hf' => ?_, fun r => ?_, fun j => ?_, ?_, ?_, ?_, ?_, ?_⟩
  · rw [up2_off _ _ (by omega), up2_off _ _ (by omega)]; exact h.1 i' f' hf'
  · rw [up2_off _ _ (by decide), up2_off _ _ (by decide)]; exact h.2.1 r
  · rw [up2_off _ _ (by decide), up2_off _ _ (by decide)]; exact h.2.2.1 j
  · rw [up2_row _ _ _ (by decide), up2_row _ _ _ (by decide)]; exact h.2.2.2.1
  · rw [up2_self, up2_self]
  · rw [up2_row _ _ _ (by decide), up2_row _ _ _ (by decide)]; exact h.2.2.2.2.2.1
  · rw [up2_row _ _ _ (by decide), up2_row _ _ _ (by decide)]; exact h.2.2.2.2.2.2.1
  · rw [up2_row _ _ _ (by decide), up2_row _ _ _ (by decide)]; exact h.2.2.2.2.2.2.2
theorem RR.g5 {σ τ : Sg} (h : RR σ τ) (v : Int32) : RR (up2 σ 0 5 v) (up2 τ 0 13 v) := by
  refine ⟨fun i' f' hf' => ?_, fun r => ?_, fun j => ?_, ?_, ?_, ?_, ?_, ?_⟩
  · rw [up2_off _ _ (by omega), up2_off _ _ (by omega)]; exact h.1 i' f' hf'
  · rw [up2_off _ _ (by decide), up2_off _ _ (by decide)]; exact h.2.1 r
  · rw [up2_off _ _ (by decide), up2_off _ _ (by decide)]; exact h.2.2.1 j
  · rw [up2_row _ _ _ (by decide), up2_row _ _ _ (by decide)]; exact h.2.2.2.1
  · rw [up2_row _ _ _ (by decide), up2_row _ _ _ (by decide)]; exact h.2.2.2.2.1
  · rw [up2_self, up2_self]
  · rw [up2_row _ _ _ (by decide), up2_row _ _ _ (by decide)]; exact h.2.2.2.2.2.2.1
  · rw [up2_row _ _ _ (by decide), up2_row _ _ _ (by decide)]; exact h.2.2.2.2.2.2.2
theorem RR.g7 {σ τ : Sg} (h : RR σ τ) (v : Int32) : RR (up2 σ 0 7 v) (up2 τ 0 16 v) := by
  refine ⟨fun i' f' hf' => ?_, fun r => ?_, fun j => ?_, ?_, ?_, ?_, ?_, ?_⟩
  · rw [up2_off _ _ (by omega), up2_off _ _ (by omega)]; exact h.1 i' f' hf'
  · rw [up2_off _ _ (by decide), up2_off _ _ (by decide)]; exact h.2.1 r
  · rw [up2_off _ _ (by decide), up2_off _ _ (by decide)]; exact h.2.2.1 j
  · rw [up2_row _ _ _ (by decide), up2_row _ _ _ (by decide)]; exact h.2.2.2.1
  · rw [up2_row _ _ _ (by decide), up2_row _ _ _ (by decide)]; exact h.2.2.2.2.1
  · rw [up2_row _ _ _ (by decide), up2_row _ _ _ (by decide)]; exact h.2.2.2.2.2.1
  · rw [up2_self, up2_self]
  · rw [up2_row _ _ _ (by decide), up2_row _ _ _ (by decide)]; exact h.2.2.2.2.2.2.2
theorem RR.g8 {σ τ : Sg} (h : RR σ τ) (v : Int32) : RR (up2 σ 0 8 v) (up2 τ 0 17 v) := by
  refine ⟨fun i' f' hf' => ?_, fun r => ?_, fun j => ?_, ?_, ?_, ?_, ?_, ?_⟩
  · rw [up2_off _ _ (by omega), up2_off _ _ (by omega)]; exact h.1 i' f' hf'
  · rw [up2_off _ _ (by decide), up2_off _ _ (by decide)]; exact h.2.1 r
  · rw [up2_off _ _ (by decide), up2_off _ _ (by decide)]; exact h.2.2.1 j
  · rw [up2_row _ _ _ (by decide), up2_row _ _ _ (by decide)]; exact h.2.2.2.1
  · rw [up2_row _ _ _ (by decide), up2_row _ _ _ (by decide)]; exact h.2.2.2.2.1
  · rw [up2_row _ _ _ (by decide), up2_row _ _ _ (by decide)]; exact h.2.2.2.2.2.1
  · rw [up2_row _ _ _ (by decide), up2_row _ _ _ (by decide)]; exact h.2.2.2.2.2.2.1
  · rw [up2_self, up2_self]
theorem RR.r {σ τ : Sg} (h : RR σ τ) (r : Nat) (v : Int32) : RR (up2 σ 1 r v) (up2 τ 7 r v) := by
  refine ⟨fun i' f' hf' => ?_, fun r' => ?_, fun j => ?_, ?_, ?_, ?_, ?_, ?_⟩
  · rw [up2_off _ _ (by omega), up2_off _ _ (by omega)]; exact h.1 i' f' hf'
  · rw [up2_eq, up2_eq]
    by_cases c : r' = r
    · rw [if_pos ⟨rfl, c⟩, if_pos ⟨rfl, c⟩]
    · rw [if_neg (fun q => c q.2), if_neg (fun q => c q.2)]; exact h.2.1 r'
  all_goals rw [up2_off _ _ (by decide), up2_off _ _ (by decide)]
  · exact h.2.2.1 j
  · exact h.2.2.2.1
  · exact h.2.2.2.2.1
  · exact h.2.2.2.2.2.1
  · exact h.2.2.2.2.2.2.1
  · exact h.2.2.2.2.2.2.2
theorem RR.t {σ τ : Sg} (h : RR σ τ) (r : Nat) (v : Int32) : RR (up2 σ 3 r v) (up2 τ 12 r v) := by
  refine ⟨fun i' f' hf' => ?_, fun r' => ?_, fun j => ?_, ?_, ?_, ?_, ?_, ?_⟩
  · rw [up2_off _ _ (by omega), up2_off _ _ (by omega)]; exact h.1 i' f' hf'
  · rw [up2_off _ _ (by decide), up2_off _ _ (by decide)]; exact h.2.1 r'
  · rw [up2_eq, up2_eq]
    by_cases c : j = r
    · rw [if_pos ⟨rfl, c⟩, if_pos ⟨rfl, c⟩]
    · rw [if_neg (fun q => c q.2), if_neg (fun q => c q.2)]; exact h.2.2.1 j
  all_goals rw [up2_off _ _ (by decide), up2_off _ _ (by decide)]
  · exact h.2.2.2.1
  · exact h.2.2.2.2.1
  · exact h.2.2.2.2.2.1
  · exact h.2.2.2.2.2.2.1
  · exact h.2.2.2.2.2.2.2
/-- what the relation reads of the reference -/
theorem RR.mo {σ τ τ' : Sg} (h : RR σ τ) (e : ∀ k i, 0 < k → k < 13 → τ' k i = τ k i) (e0 : ∀ i, i = 18 ∨ i = 12 ∨ i = 13 ∨ i = 16 ∨ i = 17 → τ' 0 i = τ 0 i) : RR σ τ' := by
  refine ⟨fun i' f' hf' => ?_, fun r' => ?_, fun j => ?_, ?_, ?_, ?_, ?_, ?_⟩
  · rw [e _ _ (by omega) (by omega)]; exact h.1 i' f' hf'
  · rw [e _ _ (by omega) (by omega)]; exact h.2.1 r'
  · rw [e _ _ (by omega) (by omega)]; exact h.2.2.1 j
  · rw [e0 _ (by omega)]; exact h.2.2.2.1
  · rw [e0 _ (by omega)]; exact h.2.2.2.2.1
  · rw [e0 _ (by omega)]; exact h.2.2.2.2.2.1
  · rw [e0 _ (by omega)]; exact h.2.2.2.2.2.2.1
  · rw [e0 _ (by omega)]; exact h.2.2.2.2.2.2.2
theorem RR.mr {σ τ : Sg} (h : RR σ τ) {k i : Nat} {v : Int32} (hk : 13 ≤ k) : RR σ (up2 τ k i v) := h.mo (fun k' i' h1 h2 => up2_off _ _ (by omega)) (fun i' h1 => up2_off _ _ (by omega))
theorem RR.m0 {σ τ : Sg} (h : RR σ τ) {i : Nat} {v : Int32} (hi : i = 20 ∨ i = 14) : RR σ (up2 τ 0 i v) := h.mo (fun k' i' h1 h2 => up2_off _ _ (by omega)) (fun i' h1 => up2_row _ _ _ (by omega))
section SAFE
variable {σ τ : Sg} {i : Nat} {s v : Int32}
theorem RR.enter (h : RR σ τ) (hs : s.toNatClampNeg = i) : RR (f_X1_enter (28 + i) σ) (f_X5_enter s τ) := by
  have e3 := h.1 i 3 (by decide)
  have e4 := h.1 i 4 (by decide)
  have e5 := h.1 i 5 (by decide)
  unfold f_X1_enter f_X5_enter
  rw [hs, e3, e4, e5]
  have h2 := (h.s (i := i) (f := 4) (by decide) ((τ 5 i) + 1)).s (i := i) (f := 3) (by decide) ((τ 4 i) + 1)
  by_cases c : (τ 5 i) + 1 ≤ τ 6 i
  · rw [if_pos c, if_pos c, up2_noop (v := τ 6 i) (by rw [up2_off _ _ (by decide), up2_off _ _ (by decide)])]
    exact h2
  · rw [if_neg c, if_neg c]
    exact h2.s (by decide) _
theorem RR.lv (h : RR σ τ) {q : Int32} (hq : τ 5 i = q) : RR (f_X1_leave (28 + i) σ) (up2 τ 5 i (q - 1)) := by
  unfold f_X1_leave
  rw [h.1 i 4 (by decide), hq]
  exact h.s (by decide) _
/-- done, or short -/
def RP (c m : Int32) : Prop := (c = 0 ∧ m = 1) ∨ (c = 30 ∧ m = 0)
theorem RR.put1 (h : RR σ τ) (hs : s.toNatClampNeg = i) : RP (f_X1_put (28 + i) v σ).1 (f_X5_putPlain s v τ).1 ∧ RR (f_X1_put (28 + i) v σ).2 (f_X5_putPlain s v τ).2 := by
  have h1 := h.enter hs
  unfold f_X1_put f_X5_putPlain
  rw [hs]
  generalize f_X1_enter (28 + i) σ = σ1 at h1
  generalize f_X5_enter s τ = τ1 at h1
  rw [h1.1 i 1 (by decide)]
  by_cases c1 : lg_cmp (((τ1 2 i).toInt64) + v.toInt64) 0 < 0
  · rw [if_pos c1, if_pos c1, up2_noop (rfl)]
    exact ⟨Or.inr ⟨rfl, rfl⟩, h1.lv rfl⟩
  · rw [if_neg c1, if_neg c1]
    by_cases c2 : 0 < lg_cmp (((τ1 2 i).toInt64) + v.toInt64) 1000000
    · rw [if_pos c2, if_pos c2, up2_noop (rfl)]
      exact ⟨Or.inr ⟨rfl, rfl⟩, h1.lv rfl⟩
    · rw [if_neg c2, if_neg c2]
      exact ⟨Or.inl ⟨rfl, rfl⟩, (h1.s (f := 1) (by decide) _).lv (up2_off _ _ (by decide))⟩
theorem RR.put2 (h : RR σ τ) (hs : s.toNatClampNeg = i) : RP (f_X2_put (28 + i) v σ).1 (f_X5_putTimed s v τ).1 ∧ RR (f_X2_put (28 + i) v σ).2 (f_X5_putTimed s v τ).2 := by
  have h1 := h.enter hs
  unfold f_X2_put f_X5_putTimed
  rw [hs]
  generalize f_X1_enter (28 + i) σ = σ1 at h1
  generalize f_X5_enter s τ = τ1 at h1
  rw [h1.1 i 2 (by decide)]
  have h2 := (h1.s (i := i) (f := 2) (by decide) ((τ1 3 i) + 1)).put1 (v := v) hs
  exact ⟨h2.1, h2.2.lv rfl⟩
theorem RP.z {c m : Int32} (h : RP c m) : c = 0 ↔ ¬ m = 0 := by
  rcases h with ⟨rfl, rfl⟩ | ⟨rfl, rfl⟩ <;> decide
theorem RR.put3 (h : RR σ τ) (hs : s.toNatClampNeg = i) (h0 : ¬ τ 1 i = 0) (h1' : ¬ τ 1 i = 1) : RP (f_X3_put (28 + i) v σ).1 (f_X5_put s v τ).1 ∧ RR (f_X3_put (28 + i) v σ).2 (f_X5_put s v τ).2 := by
  have h1 := h.enter hs
  unfold f_X3_put f_X5_put
  rw [hs, if_neg h0, if_neg h1']
  generalize f_X1_enter (28 + i) σ = σ1 at h1
  generalize f_X5_enter s τ = τ1 at h1
  have h2 := h1.put2 (v := v) hs
  by_cases c : (f_X2_put (28 + i) v σ1).1 = 0
  · rw [if_pos c, if_neg (h2.1.z.mp c)]
    have h3 := h2.2.put2 (v := v) hs
    by_cases c3 : (f_X5_putTimed s v (f_X5_putTimed s v τ1).2).1 = 0
    · rw [if_pos c3]
      refine ⟨?_, h3.2.lv rfl⟩
      have h4 := h3.1
      rw [c3] at h4
      exact h4
    · rw [if_neg c3]
      refine ⟨?_, h3.2.lv rfl⟩
      rcases h3.1 with q | q
      · exact Or.inl ⟨q.1, rfl⟩
      · exact absurd q.2 c3
  · have c2 : (f_X5_putTimed s v τ1).1 = 0 := Decidable.byContradiction fun q => c (h2.1.z.mpr q)
    rw [if_neg c, if_pos c2]
    refine ⟨?_, h2.2.lv rfl⟩
    have h4 := h2.1
    rw [c2] at h4
    exact h4
theorem RR.vput (h : RR σ τ) (hs : s.toNatClampNeg = i) : RP (f_vput (28 + i) v σ).1 (f_X5_put s v τ).1 ∧ RR (f_vput (28 + i) v σ).2 (f_X5_put s v τ).2 := by
  have e0 := h.1 i 0 (by decide)
  by_cases c0 : τ 1 i = 0
  · have e1 : f_vput (28 + i) v σ = f_X1_put (28 + i) v σ := if_pos (by rw [e0]; exact c0)
    have e2 : f_X5_put s v τ = f_X5_putPlain s v τ := if_pos (by rw [hs]; exact c0)
    rw [e1, e2]
    exact h.put1 hs
  · by_cases c1 : τ 1 i = 1
    · have e1 : f_vput (28 + i) v σ = f_X2_put (28 + i) v σ := (if_neg (by rw [e0]; exact c0)).trans (if_pos (by rw [e0]; exact c1))
      have e2 : f_X5_put s v τ = f_X5_putTimed s v τ := (if_neg (by rw [hs]; exact c0)).trans (if_pos (by rw [hs]; exact c1))
      rw [e1, e2]
      exact h.put2 hs
    · have e1 : f_vput (28 + i) v σ = f_X3_put (28 + i) v σ := (if_neg (by rw [e0]; exact c0)).trans (if_neg (by rw [e0]; exact c1))
      rw [e1]
      exact h.put3 hs c0 c1
theorem RR.give (h : RR σ τ) (hs : s.toNatClampNeg = i) (w : Int32) : (f_X1_give (28 + i) v w σ).1 = (f_X5_give s w v τ).1 ∧ RR (f_X1_give (28 + i) v w σ).2 (f_X5_give s w v τ).2 := by
  have h1 := h.enter hs
  unfold f_X1_give f_X5_give
  rw [hs]
  generalize f_X1_enter (28 + i) σ = σ1 at h1
  generalize f_X5_enter s τ = τ1 at h1
  have h2 := h1.vput (v := -v) hs
  generalize f_vput (28 + i) (-v) σ1 = a2 at h2
  generalize f_X5_put s (-v) τ1 = b2 at h2
  by_cases c : a2.1 = 0
  · rw [if_pos c, if_neg (h2.1.z.mp c)]
    by_cases cw : w = -1
    · rw [if_pos cw, if_pos cw]
      have h3 := h2.2.vput (v := v) hs
      exact ⟨rfl, h3.2.lv rfl⟩
    · rw [if_neg cw, if_neg cw]
      have h3 := h2.2.vput (v := v) (s := w) (i := w.toNatClampNeg) rfl
      generalize f_vput (28 + w.toNatClampNeg) v a2.2 = a3 at h3
      generalize f_X5_put w v b2.2 = b3 at h3
      by_cases c3 : a3.1 = 0
      · rw [if_pos c3, if_neg (h3.1.z.mp c3)]
        exact ⟨c3, h3.2.lv rfl⟩
      · have c4 : b3.1 = 0 := Decidable.byContradiction fun q => c3 (h3.1.z.mpr q)
        rw [if_neg c3, if_pos c4]
        have h4 := h3.2.vput (v := v) hs
        refine ⟨?_, h4.2.lv rfl⟩
        rcases h3.1 with q | q
        · exact absurd q.1 c3
        · exact q.1
  · have c4 : b2.1 = 0 := Decidable.byContradiction fun q => c (h2.1.z.mpr q)
    rw [if_neg c, if_pos c4]
    refine ⟨?_, h2.2.lv rfl⟩
    rcases h2.1 with q | q
    · exact absurd q.1 c
    · exact q.1
end SAFE
theorem RR.trace {σ τ : Sg} (h : RR σ τ) (a : Int32) : RR (f_X4_leaveInTrace a σ) (f_X5_leave a τ) := by
  unfold f_X4_leaveInTrace f_X5_leave
  rw [h.2.2.2.1]
  by_cases c : (120 : Int32) ≤ τ 0 18
  · rw [if_pos c, if_pos c]; exact h
  · rw [if_neg c, if_neg c]
    exact (h.t _ _).g3 _
