def Tp (B p : Nat) (i b : Int32) (τ : Sg) : Prop := τ 14 B = nI p ∧ τ 15 B = i ∧ τ 16 B = b
theorem at_eq {p : Nat} {i : Int32} (h0 : 0 ≤ i.toInt) : (12 * nI p) + i = nI (12 * p + i.toNatClampNeg) := by
  have hn : ¬ i < 0 := by rw [i_lt, ti0]; omega
  obtain ⟨j, hj, rfl⟩ := nI_of hn
  rw [show (12 : Int32) = nI 12 from rfl, pk_mul, nI_add, nI_clamp hj]
theorem nat12 {i : Int32} (h0 : 0 ≤ i.toInt) (h : i.toInt < 12) : i.toNatClampNeg < 12 := by
  have := nat_toInt h0
  omega
section ITS
variable {σ0 τ : Sg} {B p : Nat} {i b : Int32}
theorem IT_of (h : MI σ0 B τ) (hB : B + 1 < 80) (ht : Tp B p i b τ) (hp : p < 6) (hv : ¬ i = b → (0 ≤ i.toInt ∧ i.toInt < 12) ∧ ¬ f_X4_isStep (σ0 (10 + 3 * p + 0) i.toNatClampNeg) (σ0 (10 + 3 * p + 1) i.toNatClampNeg) (σ0 (10 + 3 * p + 2) i.toNatClampNeg) = 0) : ITm B τ := by
  refine ⟨h.mv hB, ?_⟩
  rw [h.1.nat, ht.1, ht.2.1, ht.2.2]
  intro ne
  obtain ⟨⟨h0, h1⟩, v⟩ := hv ne
  have hx := nat12 h0 h1
  have e := (h.2.2.2.2.1 p hp).2 i.toNatClampNeg hx
  rw [at_eq h0, nI_clamp (by omega), e.1, e.2.1, e.2.2]
  exact ⟨vp_in_nI (by omega) (by decide), v⟩
theorem it_pop (h : MI σ0 B τ) (e : τ 15 B = τ 16 B) : f_X5_it τ = f_X5_pop τ := if_pos (by rw [h.1.nat]; exact e)
theorem it_spent (h : MI σ0 B τ) (ne : ¬ τ 15 B = τ 16 B) (e : τ 0 13 = 200) : f_X5_it τ = f_X5_fails 40 τ := (if_neg (by rw [h.1.nat]; exact ne)).trans (if_pos e)
abbrev tgS (B : Nat) (i kd : Int32) (τ : Sg) : Sg := f_X5_leave (100 + kd) (up2 (up2 τ 15 B (i + 1)) 0 13 ((τ 0 13) + 1))
theorem it_step (h : MI σ0 B τ) (ht : Tp B p i b τ) (hp : p < 6) (ne : ¬ i = b) (n2 : ¬ τ 0 13 = 200) (h0 : 0 ≤ i.toInt) (h1 : i.toInt < 12) : f_X5_it τ = f_X5_does (σ0 (10 + 3 * p + 0) i.toNatClampNeg) (σ0 (10 + 3 * p + 1) i.toNatClampNeg) (σ0 (10 + 3 * p + 2) i.toNatClampNeg) (tgS B i (σ0 (10 + 3 * p + 0) i.toNatClampNeg) τ) := by
  have hx := nat12 h0 h1
  have e := (h.2.2.2.2.1 p hp).2 i.toNatClampNeg hx
  refine (if_neg (by rw [h.1.nat, ht.2.1, ht.2.2]; exact ne)).trans ((if_neg n2).trans ?_)
  rw [h.1.nat, ht.1, ht.2.1, at_eq h0, nI_clamp (by omega)]
  have r9 : ∀ a : Int32, ∀ k, 9 ≤ k → k ≤ 11 → (f_X5_leave a (up2 (up2 τ 15 B (i + 1)) 0 13 ((τ 0 13) + 1))) k = τ k := fun a k h1 h2 => by
    rw [lv_rows (by omega) (by omega), row_off (by omega), row_off (by omega)]
  rw [r9 _ 9 (by decide) (by decide), r9 _ 10 (by decide) (by decide), r9 _ 11 (by decide) (by decide), e.1, e.2.1, e.2.2]
end ITS
/-- what comes of a block, or of a step, in the reference: r is what the class does -/
def OUT (σ0 : Sg) (B : Nat) (τ : Sg) (r : Int32 × Sg) (nx : Int32) : Prop :=
  (r.1 = 0 → ∃ m τ', Rch m τ τ' ∧ RR r.2 τ' ∧ MI σ0 B τ' ∧ Stk B τ τ' ∧ τ' 15 B = nx) ∧
  (r.1 = -1 → ∃ m τ1 τ3, Rch m τ τ1 ∧ (∃ B', ITm B' τ1) ∧ f_X5_it τ1 = BK τ3 ∧ RR r.2 τ3 ∧ MI σ0 B τ3 ∧ Stk B τ τ3) ∧
  (¬ r.1 = 0 → ¬ r.1 = -1 → ∃ m τ1 τ3, Rch m τ τ1 ∧ (∃ B', ITm B' τ1) ∧ f_X5_it τ1 = f_X5_fails r.1 τ3 ∧ RR r.2 τ3 ∧ MI σ0 B τ3 ∧ Stk B τ τ3)
section OUTS
variable {σ0 τ τ' : Sg} {B : Nat} {r : Int32 × Sg} {nx : Int32}
theorem OUT.done (hI : ITm B τ) (e : f_X5_it τ = τ') (h0 : r.1 = 0) (hr : RR r.2 τ') (hm : MI σ0 B τ') (hs : Stk B τ τ') (hn : τ' 15 B = nx) : OUT σ0 B τ r nx := ⟨fun _ => ⟨1, τ', ⟨⟨B, hI⟩, e⟩, hr, hm, hs, hn⟩, fun q => absurd (h0.symm.trans q) (by decide), fun q => absurd h0 q⟩
theorem OUT.fail (hI : ITm B τ) (e : f_X5_it τ = f_X5_fails r.1 τ') (h0 : ¬ r.1 = 0) (h1 : ¬ r.1 = -1) (hr : RR r.2 τ') (hm : MI σ0 B τ') (hs : Stk B τ τ') : OUT σ0 B τ r nx := ⟨fun q => absurd q h0, fun q => absurd q h1, fun _ _ => ⟨0, τ, τ', rfl, ⟨B, hI⟩, e, hr, hm, hs⟩⟩
theorem OUT.back (hI : ITm B τ) (e : f_X5_it τ = BK τ') (h1 : r.1 = -1) (hr : RR r.2 τ') (hm : MI σ0 B τ') (hs : Stk B τ τ') : OUT σ0 B τ r nx := ⟨fun q => absurd (h1.symm.trans q) (by decide), fun _ => ⟨0, τ, τ', rfl, ⟨B, hI⟩, e, hr, hm, hs⟩, fun _ q => absurd h1 q⟩
theorem OUT.pre {m : Nat} (hx : Rch m τ τ') (hs : Stk B τ τ') (h : OUT σ0 B τ' r nx) : OUT σ0 B τ r nx := by
  refine ⟨fun q => ?_, fun q => ?_, fun q1 q2 => ?_⟩
  · obtain ⟨k, t, a, b, c, d, e⟩ := h.1 q
    exact ⟨m + k, t, Rch_trans _ _ _ _ _ hx a, b, c, hs.trans d, e⟩
  · obtain ⟨k, t1, t3, a, b, c, d, e, f⟩ := h.2.1 q
    exact ⟨m + k, t1, t3, Rch_trans _ _ _ _ _ hx a, b, c, d, e, hs.trans f⟩
  · obtain ⟨k, t1, t3, a, b, c, d, e, f⟩ := h.2.2 q1 q2
    exact ⟨m + k, t1, t3, Rch_trans _ _ _ _ _ hx a, b, c, d, e, hs.trans f⟩
end OUTS
-- rows of the class's trace
theorem tr_rows {a : Int32} {σ : Sg} {k : Nat} (h0 : k ≠ 0) (h3 : k ≠ 3) : f_X4_leaveInTrace a σ k = σ k := by
  unfold f_X4_leaveInTrace
  split
  · rfl
  · rw [row_off h0, row_off h3]
theorem RR.step {σ τ : Sg} {B : Nat} {i kd : Int32} (h : RR σ τ) : RR (f_X4_leaveInTrace (100 + kd) (up2 σ 0 5 ((σ 0 5) + 1))) (tgS B i kd τ) := by
  rw [h.2.2.2.2.2.1]
  exact ((h.mr (by decide)).g5 _).trace _
section TGS
variable {σ0 τ : Sg} {B p : Nat} {i b kd : Int32}
theorem MI.step (h : MI σ0 B τ) (n2 : ¬ τ 0 13 = 200) : MI σ0 B (tgS B i kd τ) := by
  have h1 : MI σ0 B (up2 τ 15 B (i + 1)) := h.row (by omega)
  have h2 := h1.st (by rw [up2_off _ _ (by decide)]; exact n2)
  rw [up2_off _ _ (by decide)] at h2
  exact h2.leave _
theorem Stk.step : Stk B τ (tgS B i kd τ) := (Stk.nx.trans (Stk.up (by decide))).trans Stk.leave
theorem Tp.step (h : Tp B p i b τ) : Tp B p (i + 1) b (tgS B i kd τ) := by
  unfold tgS
  refine ⟨?_, ?_, ?_⟩
  · rw [lv_rows (by decide) (by decide), row_off (by decide), row_off (by decide)]; exact h.1
  · rw [lv_rows (by decide) (by decide), row_off (by decide), up2_self]
  · rw [lv_rows (by decide) (by decide), row_off (by decide), row_off (by decide)]; exact h.2.2
theorem within_eq (h : MI σ0 B τ) (ht : Tp B p i b τ) (wt v oo : Int32) : f_X5_within wt v oo τ = f_X5_push wt (nI p) i (f_J9_min_7cf53 (i + v) b) oo (up2 τ 15 B (f_J9_min_7cf53 (i + v) b)) := by
  unfold f_X5_within f_J9_min_7cf53
  rw [h.1.nat, ht.1, ht.2.1, ht.2.2]
  by_cases c : b ≤ i + v
  · rw [if_pos c]
    by_cases c2 : b < i + v
    · rw [if_pos c2]
    · have e : b = i + v := by
        rw [i_le] at c
        rw [i_lt] at c2
        exact Int32.toInt_inj.mp (by omega)
      rw [if_neg c2, ← e]
  · rw [if_neg c, if_neg (fun q => c (by rw [i_le]; rw [i_lt] at q; omega))]
theorem behind_blk {σ : Sg} (h : σ (10 + 3 * p + 0) i.toNatClampNeg = 0 ∨ σ (10 + 3 * p + 0) i.toNatClampNeg = 1) : f_X0_behind p i b σ = f_J9_min_7cf53 ((i + 1) + (σ (10 + 3 * p + 2) i.toNatClampNeg)) b := by
  unfold f_X0_behind
  by_cases c : σ (10 + 3 * p + 0) i.toNatClampNeg = 0
  · rw [if_pos c]
  · rw [if_neg c, if_pos (h.resolve_left c)]
theorem behind_one {σ : Sg} (h0 : ¬ σ (10 + 3 * p + 0) i.toNatClampNeg = 0) (h1 : ¬ σ (10 + 3 * p + 0) i.toNatClampNeg = 1) : f_X0_behind p i b σ = i + 1 := (if_neg h0).trans (if_neg h1)
end TGS
theorem kd_cases {kd a b : Int32} (hv : ¬ f_X4_isStep kd a b = 0) : kd = 0 ∨ kd = 1 ∨ kd = 2 ∨ kd = 3 ∨ kd = 4 ∨ kd = 5 ∨ kd = 6 ∨ kd = 7 ∨ kd = 8 ∨ kd = 9 ∨ kd = 10 ∨ kd = 11 ∨ kd = 12 ∨ kd = 13 := by
  apply Decidable.byContradiction
  intro q
  simp only [not_or] at q
  apply hv
  unfold f_X4_isStep
  rw [if_neg q.1, if_neg q.2.1, if_neg q.2.2.1, if_neg q.2.2.2.1, if_neg q.2.2.2.2.1, if_neg q.2.2.2.2.2.1, if_neg q.2.2.2.2.2.2.1, if_neg q.2.2.2.2.2.2.2.1, if_neg q.2.2.2.2.2.2.2.2.1, if_neg q.2.2.2.2.2.2.2.2.2.1, if_neg q.2.2.2.2.2.2.2.2.2.2.1, if_neg q.2.2.2.2.2.2.2.2.2.2.2.1, if_neg q.2.2.2.2.2.2.2.2.2.2.2.2.1, if_neg q.2.2.2.2.2.2.2.2.2.2.2.2.2]
-- seek: the class's value plays no part
theorem up2_comm (σ : Sg) {k k' : Nat} (h : k ≠ k') (i i' : Nat) (v v' : Int32) : up2 (up2 σ k i v) k' i' v' = up2 (up2 σ k' i' v') k i v := by
  funext a b
  rw [up2_eq, up2_eq, up2_eq, up2_eq]
  by_cases c : a = k ∧ b = i
  · rw [if_pos c, if_pos c, if_neg (by omega)]
  · rw [if_neg c, if_neg c]
theorem en_v {j : Nat} (hj : j ≠ 0) (σ : Sg) (x : Int32) : f_X1_enter j (up2 σ 0 4 x) = up2 (f_X1_enter j σ) 0 4 x := by
  unfold f_X1_enter
  rw [up2_off _ _ hj, up2_off _ _ hj, up2_off _ _ hj]
  split
  · rw [up2_comm _ hj.symm, up2_comm _ hj.symm]
  · rw [up2_comm _ hj.symm, up2_comm _ hj.symm, up2_comm _ hj.symm]
theorem le_v {j : Nat} (hj : j ≠ 0) (σ : Sg) (x : Int32) : f_X1_leave j (up2 σ 0 4 x) = up2 (f_X1_leave j σ) 0 4 x := by
  unfold f_X1_leave
  rw [up2_off _ _ hj, up2_comm _ hj.symm]
theorem si_v (a : Int32) (σ : Sg) (x : Int32) : f_X4_safeIn a (up2 σ 0 4 x) = f_X4_safeIn a σ := by
  unfold f_X4_safeIn
  rw [up2_off _ _ (by decide)]
theorem sk_v (b x : Int32) : ∀ (m k : Nat) (σ : Sg), lf_X4_seek m k b (up2 σ 0 4 x) = ((lf_X4_seek m k b σ).1, up2 (lf_X4_seek m k b σ).2 0 4 x) := by
  intro m
  induction m with
  | zero => intro k σ; rfl
  | succ m ih =>
    intro k σ
    have hj : 28 + (f_X4_safeIn (nI k) σ).toNatClampNeg ≠ 0 := by omega
    unfold lf_X4_seek
    rw [si_v, en_v hj, le_v hj, up2_off _ _ hj]
    by_cases c : (8 : Int32) ≤ nI k
    · rw [if_pos c, if_pos c]
    · rw [if_neg c, if_neg c]
      by_cases c2 : f_X4_safeIn (nI k) σ = -1
      · rw [if_pos c2, if_pos c2]; exact ih _ _
      · rw [if_neg c2, if_neg c2]
        by_cases c3 : f_X1_enter (28 + (f_X4_safeIn (nI k) σ).toNatClampNeg) σ (28 + (f_X4_safeIn (nI k) σ).toNatClampNeg) 1 < b
        · rw [if_pos c3, if_pos c3]; exact ih _ _
        · rw [if_neg c3, if_neg c3]
theorem fr5_sk {b : Int32} {r : Nat} (hr : r ≠ 0 ∧ r ≠ 4 ∧ r ≠ 5 ∧ r ≠ 6) : ∀ (m k : Nat) (τ : Sg), lf_X5_seek m k b τ r = τ r := by
  intro m
  induction m with
  | zero => intro k τ; rfl
  | succ m ih =>
    intro k τ
    unfold lf_X5_seek
    repeat' split
    all_goals first | rfl | (rw [ih]; done) | (rw [ih, row_off hr.1, row_off hr.2.2.1, fr5_enter hr.2])
theorem fr5_sk0 {b : Int32} {i : Nat} (hi : i ≠ 12) : ∀ (m k : Nat) (τ : Sg), lf_X5_seek m k b τ 0 i = τ 0 i := by
  intro m
  induction m with
  | zero => intro k τ; rfl
  | succ m ih =>
    intro k τ
    unfold lf_X5_seek
    repeat' split
    all_goals first | rfl | (rw [ih]; done) | (rw [ih, up2_row _ _ _ hi, up2_off _ _ (by decide), fr5_enter (by decide)])
