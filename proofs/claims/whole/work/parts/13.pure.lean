theorem i_lt {a b : Int32} : a < b ↔ a.toInt < b.toInt := Int32.lt_iff_toInt_lt
theorem i_le {a b : Int32} : a ≤ b ↔ a.toInt ≤ b.toInt := Int32.le_iff_toInt_le
theorem ti0 : (0 : Int32).toInt = 0 := rfl
theorem toInt_succ {i : Int32} (h0 : 0 ≤ i.toInt) (h : i.toInt < 2147483647) : (i + 1).toInt = i.toInt + 1 := by
  have hn : ¬ i < 0 := by rw [i_lt, ti0]; omega
  obtain ⟨j, hj, rfl⟩ := nI_of hn
  rw [nI_toInt hj] at h ⊢
  rw [nI_1, nI_toInt (by omega)]
  omega
theorem nat_toInt {i : Int32} (h0 : 0 ≤ i.toInt) : (i.toNatClampNeg : Int) = i.toInt := by
  have hn : ¬ i < 0 := by rw [i_lt, ti0]; omega
  obtain ⟨j, hj, rfl⟩ := nI_of hn
  rw [nI_toInt hj, nI_clamp hj]
/-- what holds of the class's ints while a run goes on: rooms, trace; the plans are those of σ0 -/
def DI (n : Nat) (σ0 σ : Sg) : Prop := RI n σ ∧ (¬ σ 0 3 < 0 ∧ σ 0 3 ≤ 120) ∧ ∀ k, 4 ≤ k → k < 28 → σ k = σ0 k
def Sm (n : Nat) (σ0 σ σ' : Sg) : Prop := DI n σ0 σ' ∧ σ' 0 7 = σ 0 7
theorem Sm.refl {n : Nat} {σ0 σ : Sg} (h : DI n σ0 σ) : Sm n σ0 σ σ := ⟨h, rfl⟩
theorem Sm.trans {n : Nat} {σ0 σ σ1 σ2 : Sg} (h : Sm n σ0 σ σ1) (h2 : Sm n σ0 σ1 σ2) : Sm n σ0 σ σ2 := ⟨h2.1, h2.2.trans h.2⟩
theorem Sm.low {n : Nat} {σ0 σ σ1 σ2 : Sg} (h : Sm n σ0 σ σ1) (e : ∀ k, k < 28 → σ2 k = σ1 k) : Sm n σ0 σ σ2 := by
  refine ⟨⟨h.1.1.of1 (e 1 (by decide)), ?_, fun k h1 h2 => (e k h2).trans (h.1.2.2 k h1 h2)⟩, ?_⟩
  · rw [e 0 (by decide)]; exact h.1.2.1
  · rw [e 0 (by decide)]; exact h.2
theorem Sm.up0 {n : Nat} {σ0 σ σ1 : Sg} (h : Sm n σ0 σ σ1) {i : Nat} (hi : i ≠ 3 ∧ i ≠ 7) (v : Int32) : Sm n σ0 σ (up2 σ1 0 i v) := by
  have e : ∀ k j, k ≠ 0 → up2 σ1 0 i v k j = σ1 k j := fun k j hk => up2_off _ _ hk
  refine ⟨⟨fun r hr => ?_, ?_, fun k h1 h2 => ?_⟩, ?_⟩
  · rw [e 1 r (by decide)]; exact h.1.1 r hr
  · rw [up2_row _ _ _ (Ne.symm hi.1)]; exact h.1.2.1
  · rw [← h.1.2.2 k h1 h2]; funext j; exact e k j (by omega)
  · rw [up2_row _ _ _ (Ne.symm hi.2)]; exact h.2
theorem Sm.enter {n : Nat} {σ0 σ σ1 : Sg} {j : Nat} (h : Sm n σ0 σ σ1) (hj : 28 ≤ j) : Sm n σ0 σ (f_X1_enter j σ1) := h.low (fun k hk => fr_enter (by omega) _)
theorem Sm.leave {n : Nat} {σ0 σ σ1 : Sg} {j : Nat} (h : Sm n σ0 σ σ1) (hj : 28 ≤ j) : Sm n σ0 σ (f_X1_leave j σ1) := h.low (fun k hk => fr_leave (by omega) _)
theorem Sm.trace {n : Nat} {σ0 σ σ1 : Sg} (h : Sm n σ0 σ σ1) (a : Int32) : Sm n σ0 σ (f_X4_leaveInTrace a σ1) := by
  unfold f_X4_leaveInTrace
  by_cases c : (120 : Int32) ≤ σ1 0 3
  · rw [if_pos c]; exact h
  · rw [if_neg c]
    have t0 := h.1.2.1.1
    rw [i_lt, ti0] at t0
    rw [i_le] at c
    have t120 : (120 : Int32).toInt = 120 := rfl
    rw [t120] at c
    have e := toInt_succ (i := σ1 0 3) (by omega) (by omega)
    refine ⟨⟨fun r hr => ?_, ?_, fun k h1 h2 => ?_⟩, ?_⟩
    · rw [up2_off _ _ (by decide), up2_off _ _ (by decide)]; exact h.1.1 r hr
    · rw [up2_self, i_lt, i_le, e, ti0, t120]; omega
    · rw [← h.1.2.2 k h1 h2]; funext j; rw [up2_off _ _ (by omega), up2_off _ _ (by omega)]
    · rw [up2_row _ _ _ (by decide), up2_off _ _ (by decide)]; exact h.2
theorem Sm.room {n : Nat} {σ0 σ σ1 : Sg} (h : Sm n σ0 σ σ1) (a : Int32) {w : Int32} (hw : w = -1 ∨ 28 + w.toNatClampNeg < n) : Sm n σ0 σ (f_X4_setRoom a w σ1) := by
  unfold f_X4_setRoom
  split
  · exact h
  · refine ⟨⟨fun r hr => ?_, ?_, fun k h1 h2 => ?_⟩, ?_⟩
    · by_cases e : r = a.toNatClampNeg
      · rw [e, up2_self]; exact hw
      · rw [up2_row _ _ _ e]; exact h.1.1 r hr
    · rw [up2_off _ _ (by decide)]; exact h.1.2.1
    · rw [← h.1.2.2 k h1 h2]; funext j; rw [up2_off _ _ (by omega)]
    · rw [up2_off _ _ (by decide)]; exact h.2
theorem Sm.vput {n : Nat} {σ0 σ σ1 : Sg} {j : Nat} (h : Sm n σ0 σ σ1) (hj : 28 ≤ j) (v : Int32) : Sm n σ0 σ (f_vput j v σ1).2 := h.low (fun k hk => fr_vput (by omega) _ _)
theorem Sm.vworth {n : Nat} {σ0 σ σ1 : Sg} {j : Nat} (h : Sm n σ0 σ σ1) (hj : 28 ≤ j) : Sm n σ0 σ (f_vworth j σ1).2 := h.low (fun k hk => fr_vworth (by omega) _)
theorem Sm.give {n : Nat} {σ0 σ σ1 : Sg} {j : Nat} {w : Int32} (h : Sm n σ0 σ σ1) (hj : 28 ≤ j) (v : Int32) : Sm n σ0 σ (f_X1_give j v w σ1).2 := h.low (fun k hk => fr_give (by omega) (by omega) _ _)
theorem Sm.ite {n : Nat} {σ0 σ : Sg} {c : Prop} [Decidable c] {y z : Int32 × Sg} (hy : Sm n σ0 σ y.2) (hz : Sm n σ0 σ z.2) : Sm n σ0 σ (if c then y else z).2 := by
  by_cases h : c
  · rw [if_pos h]; exact hy
  · rw [if_neg h]; exact hz
theorem Sm.seek {n : Nat} {σ0 σ : Sg} {b : Int32} : ∀ (m k : Nat) (σ1 : Sg), Sm n σ0 σ σ1 → Sm n σ0 σ (lf_X4_seek m k b σ1).2 := by
  intro m
  induction m with
  | zero => intro k σ1 h; exact h
  | succ m ih =>
    intro k σ1 h
    unfold lf_X4_seek
    repeat' split
    all_goals first | exact h | exact ih _ _ h | exact (h.enter (Nat.le_add_right _ _)).leave (Nat.le_add_right _ _) | exact ih _ _ ((h.enter (Nat.le_add_right _ _)).leave (Nat.le_add_right _ _))
theorem Sm.withRooms {n : Nat} {σ0 σ σ1 : Sg} (h : Sm n σ0 σ σ1) (kd a b : Int32) : Sm n σ0 σ (f_X4_doWithRooms kd a b σ1).2 := by
  unfold f_X4_doWithRooms
  split
  · exact h.room a (safeIn_ok h.1.1 _)
  · split
    · exact h.room a (Or.inl rfl)
    · exact Sm.up0 (Sm.seek _ _ _ h) (by decide) _
theorem Sm.withSafe {n : Nat} {σ0 σ σ1 : Sg} (h : Sm n σ0 σ σ1) (kd w b : Int32) : Sm n σ0 σ (f_X4_doWithSafe kd w b σ1).2 := by
  exact Sm.ite h (Sm.ite (h.vput (Nat.le_add_right _ _) _) (Sm.ite (Sm.up0 (h.vworth (Nat.le_add_right _ _)) (by decide) _) (Sm.ite (h.give (Nat.le_add_right _ _) _) (h.up0 (by decide) _))))
theorem Sm.withValue {n : Nat} {σ0 σ σ1 : Sg} (h : Sm n σ0 σ σ1) (kd a : Int32) : Sm n σ0 σ (f_X4_doWithValue kd a σ1).2 := by
  exact Sm.ite (Sm.ite h (h.up0 (by decide) _)) (Sm.ite h (Sm.ite (h.up0 (by decide) _) (h.up0 (by decide) _)))
/-- the plans: how many steps, and each as it was told -/
def PI (σ0 : Sg) : Prop := ∀ p, p < 6 → (0 ≤ (σ0 (4 + p) 3).toInt ∧ (σ0 (4 + p) 3).toInt ≤ 12) ∧ ∀ i : Nat, (i : Int) < (σ0 (4 + p) 3).toInt → ¬ f_X4_isStep (σ0 (10 + 3 * p + 0) i) (σ0 (10 + 3 * p + 1) i) (σ0 (10 + 3 * p + 2) i) = 0
/-- what a call of doSteps asks: plan p, from a to b, w plans at work, d enough -/
def CR (n : Nat) (σ0 : Sg) (d w p : Nat) (a b : Int32) (σ : Sg) : Prop := p < 6 ∧ 0 ≤ a.toInt ∧ b.toInt ≤ (σ0 (4 + p) 3).toInt ∧ DI n σ0 σ ∧ σ 0 7 = nI w ∧ w ≤ 4 ∧ (4 - w) * 13 + (b.toInt - a.toInt).toNat < d
theorem CR.di {n : Nat} {σ0 : Sg} {d w p : Nat} {a b : Int32} {σ : Sg} (h : CR n σ0 d w p a b σ) : DI n σ0 σ := h.2.2.2.1
theorem CR.of {n : Nat} {σ0 : Sg} {d w p : Nat} {a b : Int32} {σ σ' : Sg} (h : CR n σ0 d w p a b σ) (s : Sm n σ0 σ σ') : CR n σ0 d w p a b σ' := ⟨h.1, h.2.1, h.2.2.1, s.1, s.2.trans h.2.2.2.2.1, h.2.2.2.2.2⟩
abbrev RecT : Type := Nat → Int32 → Int32 → Sg → Int32 × Sg
def RS (n : Nat) (σ0 : Sg) (d : Nat) (rec : RecT) : Prop := ∀ (w p : Nat) (a b : Int32) (σ : Sg), CR n σ0 d w p a b σ → Sm n σ0 σ (rec p a b σ).2
theorem step_room {kd a b : Int32} (hv : ¬ f_X4_isStep kd a b = 0) (hk : kd = 5 ∨ kd = 6 ∨ kd = 13) : vp_in a 8 := by
  apply isRoom_in
  intro q
  apply hv
  rcases hk with rfl | rfl | rfl <;> exact q
theorem behind_le {p : Nat} {i b : Int32} {σ : Sg} (h0 : 0 ≤ i.toInt) (hb : i.toInt < b.toInt) (hb2 : b.toInt ≤ 12) : (f_X0_behind p i b σ).toInt ≤ b.toInt := by
  have e := toInt_succ h0 (by omega)
  have hm : ∀ c : Int32, (f_J9_min_7cf53 c b).toInt ≤ b.toInt := by
    intro c
    unfold f_J9_min_7cf53
    split
    · omega
    · rename_i q
      rw [i_lt] at q
      omega
  unfold f_X0_behind
  by_cases c1 : σ (10 + 3 * p + 0) i.toNatClampNeg = 0
  · rw [if_pos c1]; exact hm _
  · rw [if_neg c1]
    by_cases c2 : σ (10 + 3 * p + 0) i.toNatClampNeg = 1
    · rw [if_pos c2]; exact hm _
    · rw [if_neg c2, e]; omega
