/-- the reference's plans are those of σ0 -/
def PM (σ0 τ : Sg) : Prop := ∀ p, p < 6 → τ 8 p = σ0 (4 + p) 3 ∧ ∀ x, x < 12 → τ 9 (12 * p + x) = σ0 (10 + 3 * p + 0) x ∧ τ 10 (12 * p + x) = σ0 (10 + 3 * p + 1) x ∧ τ 11 (12 * p + x) = σ0 (10 + 3 * p + 2) x
def MI (σ0 : Sg) (B : Nat) (τ : Sg) : Prop := SV (B + 1) τ ∧ τ 13 0 = 0 ∧ (∀ r, r < 8 → τ 7 r = -1 ∨ vp_in (τ 7 r) 4200) ∧ (∀ i, τ 1 i = 0 ∨ τ 1 i = 1 ∨ τ 1 i = 2) ∧ PM σ0 τ ∧ 0 ≤ (τ 0 13).toInt ∧ (τ 0 13).toInt ≤ 200 ∧ τ 0 14 = 0
section MIS
variable {σ0 τ τ' : Sg} {B : Nat}
theorem MI.mv (h : MI σ0 B τ) (hB : B + 1 < 80) : MV B τ := ⟨h.1, hB, h.2.1, h.2.2.1, fun i => by rcases h.2.2.2.1 i with q | q | q <;> rw [q] <;> decide⟩
theorem MI.of (h : MI σ0 B τ) (ek : ∀ k, k = 1 ∨ (7 ≤ k ∧ k ≤ 11) ∨ k = 13 ∨ k = 17 → τ' k = τ k) (e20 : τ' 0 20 = τ 0 20) (e18 : τ' 0 18 = τ 0 18) (e13 : τ' 0 13 = τ 0 13) (e14 : τ' 0 14 = τ 0 14) : MI σ0 B τ' := by
  refine ⟨h.1.of e20 e18 (ek 13 (by omega)) (ek 17 (by omega)), by rw [ek 13 (by omega)]; exact h.2.1, by rw [ek 7 (by omega)]; exact h.2.2.1, by rw [ek 1 (by omega)]; exact h.2.2.2.1, ?_, by rw [e13, e14]; exact h.2.2.2.2.2⟩
  unfold PM
  rw [ek 8 (by omega), ek 9 (by omega), ek 10 (by omega), ek 11 (by omega)]
  exact h.2.2.2.2.1
theorem MI.leave (h : MI σ0 B τ) (a : Int32) : MI σ0 B (f_X5_leave a τ) := by
  refine ⟨h.1.leave a, by rw [lv_rows (by decide) (by decide)]; exact h.2.1, by rw [lv_rows (by decide) (by decide)]; exact h.2.2.1, by rw [lv_rows (by decide) (by decide)]; exact h.2.2.2.1, ?_, by rw [lv_0 (i := 13) (by decide), lv_0 (i := 14) (by decide)]; exact h.2.2.2.2.2⟩
  unfold PM
  rw [lv_rows (by decide) (by decide), lv_rows (by decide) (by decide), lv_rows (by decide) (by decide), lv_rows (by decide) (by decide)]
  exact h.2.2.2.2.1
theorem row_off {k k' i : Nat} {v : Int32} (h : k' ≠ k) : up2 τ k i v k' = τ k' := by
  funext j
  exact up2_off _ _ h
theorem MI.up0 (h : MI σ0 B τ) {i : Nat} (hi : i ≠ 13 ∧ i ≠ 18 ∧ i ≠ 20 ∧ i ≠ 14) (v : Int32) : MI σ0 B (up2 τ 0 i v) := h.of (fun k hk => row_off (by omega)) (up2_row _ _ _ (Ne.symm hi.2.2.1)) (up2_row _ _ _ (Ne.symm hi.2.1)) (up2_row _ _ _ (Ne.symm hi.1)) (up2_row _ _ _ (Ne.symm hi.2.2.2))
theorem MI.st (h : MI σ0 B τ) (hs : ¬ τ 0 13 = 200) : MI σ0 B (up2 τ 0 13 ((τ 0 13) + 1)) := by
  have e : (τ 0 13 + 1).toInt = (τ 0 13).toInt + 1 := toInt_succ h.2.2.2.2.2.1 (by have := h.2.2.2.2.2.2.1; omega)
  have n : ¬ (τ 0 13).toInt = 200 := fun q => hs (Int32.toInt_inj.mp (q.trans rfl))
  refine ⟨h.1.of (up2_row _ _ _ (by decide)) (up2_row _ _ _ (by decide)) (row_off (by decide)) (row_off (by decide)), by rw [row_off (by decide)]; exact h.2.1, by rw [row_off (by decide)]; exact h.2.2.1, by rw [row_off (by decide)]; exact h.2.2.2.1, ?_, ?_⟩
  · unfold PM
    rw [row_off (by decide), row_off (by decide), row_off (by decide), row_off (by decide)]
    exact h.2.2.2.2.1
  · rw [up2_self, e, up2_row _ _ _ (by decide)]
    have h1 := h.2.2.2.2.2.1
    have h2 := h.2.2.2.2.2.2.1
    exact ⟨by omega, by omega, h.2.2.2.2.2.2.2⟩
theorem MI.row (h : MI σ0 B τ) {k i : Nat} {v : Int32} (hk : (2 ≤ k ∧ k ≤ 6) ∨ k = 12 ∨ k = 14 ∨ k = 15 ∨ k = 16) : MI σ0 B (up2 τ k i v) := h.of (fun k' hk' => row_off (by omega)) (up2_off _ _ (by omega)) (up2_off _ _ (by omega)) (up2_off _ _ (by omega)) (up2_off _ _ (by omega))
theorem MI.room (h : MI σ0 B τ) {r : Nat} {v : Int32} (hv : v = -1 ∨ vp_in v 4200) : MI σ0 B (up2 τ 7 r v) := by
  refine ⟨h.1.of (up2_off _ _ (by decide)) (up2_off _ _ (by decide)) (row_off (by decide)) (row_off (by decide)), by rw [row_off (by decide)]; exact h.2.1, fun q hq => ?_, by rw [row_off (by decide)]; exact h.2.2.2.1, ?_, by rw [row_off (by decide)]; exact h.2.2.2.2.2⟩
  · rw [up2_eq]
    split
    · exact hv
    · exact h.2.2.1 q hq
  · unfold PM
    rw [row_off (by decide), row_off (by decide), row_off (by decide), row_off (by decide)]
    exact h.2.2.2.2.1
theorem MI.nat (h : MI σ0 B τ) : (τ 0 20).toNatClampNeg = B + 1 := by
  rw [h.1.1, nI_clamp (by have := h.1.2.1; omega)]
theorem push_row {wt pl a b oo : Int32} {k : Nat} (hk : k ≠ 0 ∧ (k < 13 ∨ 17 < k)) : f_X5_push wt pl a b oo τ k = τ k := by
  unfold f_X5_push
  rw [row_off (by omega), row_off (by omega), row_off (by omega), row_off (by omega), row_off (by omega), row_off (by omega)]
theorem push_0 {wt pl a b oo : Int32} {i : Nat} (hi : i ≠ 20) : f_X5_push wt pl a b oo τ 0 i = τ 0 i := by
  unfold f_X5_push
  rw [up2_row _ _ _ hi, up2_off _ _ (by decide), up2_off _ _ (by decide), up2_off _ _ (by decide), up2_off _ _ (by decide), up2_off _ _ (by decide)]
theorem push_at (h : MI σ0 B τ) (wt pl a b oo : Int32) (k : Nat) : f_X5_push wt pl a b oo τ 13 k = (if k = B + 1 then wt else τ 13 k) ∧ f_X5_push wt pl a b oo τ 14 k = (if k = B + 1 then pl else τ 14 k) ∧ f_X5_push wt pl a b oo τ 15 k = (if k = B + 1 then a else τ 15 k) ∧ f_X5_push wt pl a b oo τ 16 k = (if k = B + 1 then b else τ 16 k) ∧ f_X5_push wt pl a b oo τ 17 k = (if k = B + 1 then oo else τ 17 k) := by
  unfold f_X5_push
  rw [h.nat]
  simp only [up2_eq]
  by_cases c : k = B + 1 <;> simp [c]
theorem MI.push (h : MI σ0 B τ) (hB : B + 2 < 80) {wt pl a b oo : Int32} (ha : wt = 1 → vp_in oo 4200) : MI σ0 (B + 1) (f_X5_push wt pl a b oo τ) := by
  refine ⟨⟨?_, by omega, fun k hk => ?_, ?_⟩, ?_, by rw [push_row (by decide)]; exact h.2.2.1, by rw [push_row (by decide)]; exact h.2.2.2.1, ?_, by rw [push_0 (i := 13) (by decide), push_0 (i := 14) (by decide)]; exact h.2.2.2.2.2⟩
  · unfold f_X5_push
    rw [up2_self, h.1.1, nI_1]
  · rw [(push_at h wt pl a b oo k).1, (push_at h wt pl a b oo k).2.2.2.2]
    by_cases c : k = B + 1
    · rw [if_pos c, if_pos c]; exact ha
    · rw [if_neg c, if_neg c]; exact h.1.2.2.1 k (by omega)
  · rw [push_0 (by decide)]; exact h.1.2.2.2
  · rw [(push_at h wt pl a b oo 0).1, if_neg (by omega)]; exact h.2.1
  · unfold PM
    rw [push_row (by decide), push_row (by decide), push_row (by decide), push_row (by decide)]
    exact h.2.2.2.2.1
theorem pop_row {k : Nat} (hk : k ≠ 0 ∧ k ≠ 5 ∧ k ≠ 12) : f_X5_pop τ k = τ k := by
  unfold f_X5_pop
  split
  · rw [lv_rows hk.1 hk.2.2, row_off hk.2.1, row_off hk.1]
  · split
    · rw [row_off hk.1, row_off hk.1]
    · rw [row_off hk.1]
theorem pop_0 {i : Nat} (hi : i ≠ 16 ∧ i ≠ 18 ∧ i ≠ 20) : f_X5_pop τ 0 i = τ 0 i := by
  unfold f_X5_pop
  split
  · rw [lv_0 hi.2.1, up2_off _ _ (by decide), up2_row _ _ _ hi.2.2]
  · split
    · rw [up2_row _ _ _ hi.1, up2_row _ _ _ hi.2.2]
    · rw [up2_row _ _ _ hi.2.2]
theorem MI.pop (h : MI σ0 (B + 1) τ) : MI σ0 B (f_X5_pop τ) := by
  refine ⟨h.1.popd, by rw [pop_row (by decide)]; exact h.2.1, by rw [pop_row (by decide)]; exact h.2.2.1, by rw [pop_row (by decide)]; exact h.2.2.2.1, ?_, by rw [pop_0 (i := 13) (by decide), pop_0 (i := 14) (by decide)]; exact h.2.2.2.2.2⟩
  unfold PM
  rw [pop_row (by decide), pop_row (by decide), pop_row (by decide), pop_row (by decide)]
  exact h.2.2.2.2.1
end MIS
/-- the stack up to block B is as it was, but for where block B goes on -/
def Stk (B : Nat) (τ τ' : Sg) : Prop := (∀ k, k ≤ B → τ' 13 k = τ 13 k ∧ τ' 14 k = τ 14 k ∧ τ' 16 k = τ 16 k ∧ τ' 17 k = τ 17 k) ∧ ∀ k, k < B → τ' 15 k = τ 15 k
theorem Stk.trans {B : Nat} {τ τ1 τ2 : Sg} (h : Stk B τ τ1) (h2 : Stk B τ1 τ2) : Stk B τ τ2 := ⟨fun k hk => ⟨((h2.1 k hk).1).trans (h.1 k hk).1, ((h2.1 k hk).2.1).trans (h.1 k hk).2.1, ((h2.1 k hk).2.2.1).trans (h.1 k hk).2.2.1, ((h2.1 k hk).2.2.2).trans (h.1 k hk).2.2.2⟩, fun k hk => (h2.2 k hk).trans (h.2 k hk)⟩
theorem Stk.rows {B : Nat} {τ τ' : Sg} (e : ∀ k, 13 ≤ k → k ≤ 17 → τ' k = τ k) : Stk B τ τ' := ⟨fun k _ => ⟨by rw [e 13 (by decide) (by decide)], by rw [e 14 (by decide) (by decide)], by rw [e 16 (by decide) (by decide)], by rw [e 17 (by decide) (by decide)]⟩, fun k _ => by rw [e 15 (by decide) (by decide)]⟩
theorem Stk.refl {B : Nat} {τ : Sg} : Stk B τ τ := Stk.rows (fun _ _ _ => rfl)
theorem Stk.down {B : Nat} {τ τ' : Sg} (h : Stk (B + 1) τ τ') : Stk B τ τ' := ⟨fun k hk => h.1 k (by omega), fun k hk => h.2 k (by omega)⟩
theorem Stk.nx {B : Nat} {τ : Sg} {v : Int32} : Stk B τ (up2 τ 15 B v) := ⟨fun k _ => ⟨up2_off _ _ (by decide), up2_off _ _ (by decide), up2_off _ _ (by decide), up2_off _ _ (by decide)⟩, fun k hk => up2_row _ _ _ (by omega)⟩
theorem Stk.push {σ0 τ : Sg} {B : Nat} (h : MI σ0 B τ) (wt pl a b oo : Int32) : Stk B τ (f_X5_push wt pl a b oo τ) := ⟨fun k hk => ⟨by rw [(push_at h wt pl a b oo k).1, if_neg (by omega)], by rw [(push_at h wt pl a b oo k).2.1, if_neg (by omega)], by rw [(push_at h wt pl a b oo k).2.2.2.1, if_neg (by omega)], by rw [(push_at h wt pl a b oo k).2.2.2.2, if_neg (by omega)]⟩, fun k hk => by rw [(push_at h wt pl a b oo k).2.2.1, if_neg (by omega)]⟩
theorem Stk.pop {B : Nat} {τ : Sg} : Stk B τ (f_X5_pop τ) := Stk.rows (fun k h1 _ => pop_row (by omega))
theorem Stk.leave {B : Nat} {τ : Sg} {a : Int32} : Stk B τ (f_X5_leave a τ) := Stk.rows (fun k h1 _ => lv_rows (by omega) (by omega))
theorem Stk.up {B : Nat} {τ : Sg} {k i : Nat} {v : Int32} (hk : k < 13) : Stk B τ (up2 τ k i v) := Stk.rows (fun k' h1 _ => row_off (by omega))
-- unwinding
section UNW
variable {σ0 τ : Sg} {B : Nat} {e : Int32}
theorem nle20 (h : MI σ0 B τ) : ¬ τ 0 20 ≤ 0 := by
  rw [h.1.1]
  exact nI_nle (by omega) (by have := h.1.2.1; omega)
theorem fails_lf (h : MI σ0 B τ) : f_X5_fails e τ = lf_X5_fails (B + 2) e τ := by
  show lf_X5_fails ((τ 0 20).toNatClampNeg + 1) e τ = _
  rw [h.nat]
theorem pop_n (h : MI σ0 (B + 1) τ) : f_X5_fails e (f_X5_pop τ) = lf_X5_fails (B + 2) e (f_X5_pop τ) := fails_lf h.pop
theorem pop_n0 (h : MI σ0 0 τ) : f_X5_fails e (f_X5_pop τ) = lf_X5_fails 1 e (f_X5_pop τ) := by
  show lf_X5_fails ((f_X5_pop τ 0 20).toNatClampNeg + 1) e _ = _
  rw [h.1.popd.1]
  rfl
theorem fails_pop (h : MI σ0 (B + 1) τ) (hs : ¬ τ 13 (B + 1) = 2) : f_X5_fails e τ = f_X5_fails e (f_X5_pop τ) := by
  rw [fails_lf h, pop_n h]
  exact (if_neg (nle20 h)).trans (if_neg (by rw [h.1.nat]; exact hs))
theorem fails_pop0 (h : MI σ0 0 τ) : f_X5_fails e τ = f_X5_fails e (f_X5_pop τ) := by
  rw [fails_lf h, pop_n0 h]
  exact (if_neg (nle20 h)).trans (if_neg (by rw [h.1.nat, h.2.1]; decide))
theorem fails_40 (h : MI σ0 (B + 1) τ) (hs : τ 13 (B + 1) = 2) : f_X5_fails 40 τ = f_X5_fails 40 (f_X5_pop τ) := by
  rw [fails_lf h, pop_n h]
  exact (if_neg (nle20 h)).trans ((if_pos (by rw [h.1.nat]; exact hs)).trans (if_pos rfl))
theorem fails_hold (h : MI σ0 (B + 1) τ) (hs : τ 13 (B + 1) = 2) (he : ¬ e = 40) (ha : τ 17 (B + 1) = 0 ∨ τ 17 (B + 1) = e) : f_X5_fails e τ = up2 (f_X5_pop τ) 0 12 e := by
  rw [fails_lf h]
  refine (if_neg (nle20 h)).trans ((if_pos (by rw [h.1.nat]; exact hs)).trans ((if_neg he).trans ?_))
  rw [h.1.nat]
  by_cases c : τ 17 (B + 1) = 0
  · rw [if_pos c]
  · rw [if_neg c, if_pos (ha.resolve_left c)]
theorem fails_pass (h : MI σ0 (B + 1) τ) (hs : τ 13 (B + 1) = 2) (he : ¬ e = 40) (h0 : ¬ τ 17 (B + 1) = 0) (h1 : ¬ τ 17 (B + 1) = e) : f_X5_fails e τ = f_X5_fails e (f_X5_pop τ) := by
  rw [fails_lf h, pop_n h]
  refine (if_neg (nle20 h)).trans ((if_pos (by rw [h.1.nat]; exact hs)).trans ((if_neg he).trans ?_))
  rw [h.1.nat, if_neg h0, if_neg h1]
def BK (τ : Sg) : Sg := lf_X5_back (τ 0 20).toNatClampNeg τ
theorem back_pop (h : MI σ0 (B + 1) τ) (hs : ¬ τ 13 (B + 1) = 0) : BK τ = BK (f_X5_pop τ) := by
  unfold BK
  rw [h.nat, h.pop.nat]
  exact if_neg (by rw [h.1.nat]; exact hs)
theorem back_plan (h : MI σ0 B τ) (hs : τ 13 B = 0) : BK τ = f_X5_pop τ := by
  unfold BK
  rw [h.nat]
  exact if_pos (by rw [h.1.nat]; exact hs)
end UNW
theorem Rch_trans : ∀ (m k : Nat) (τ τ1 τ2 : Sg), Rch m τ τ1 → Rch k τ1 τ2 → Rch (m + k) τ τ2 := by
  intro m
  induction m with
  | zero => intro k τ τ1 τ2 h h2; rw [Nat.zero_add, show τ = τ1 from h]; exact h2
  | succ m ih => intro k τ τ1 τ2 h h2; rw [Nat.succ_add]; exact ⟨h.1, ih k _ _ _ h.2 h2⟩
theorem Rch_one {B : Nat} {τ : Sg} (h : ITm B τ) : Rch 1 τ (f_X5_it τ) := ⟨⟨B, h⟩, rfl⟩
