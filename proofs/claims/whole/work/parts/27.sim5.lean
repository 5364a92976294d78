theorem Rch_to {B : Nat} {τ τ' : Sg} (h : ITm B τ) (e : f_X5_it τ = τ') : Rch 1 τ τ' := ⟨⟨B, h⟩, e⟩
section BLK
variable {n : Nat} {σ0 σ τ τ' τ1 τ3 τp : Sg} {d w p B m : Nat} {i b b' nx : Int32} {r r' : Int32 × Sg}
theorem OUT.rch (hx : Rch m τ τ') (h0 : r.1 = 0) (hr : RR r.2 τ') (hm : MI σ0 B τ') (hs : Stk B τ τ') (hn : τ' 15 B = nx) : OUT σ0 B τ r nx := ⟨fun _ => ⟨m, τ', hx, hr, hm, hs, hn⟩, fun q => absurd (h0.symm.trans q) (by decide), fun q => absurd h0 q⟩
theorem OUT.failr {B1 : Nat} (hx : Rch m τ τ1) (hI : ITm B1 τ1) (e : f_X5_it τ1 = f_X5_fails r.1 τ3) (h0 : ¬ r.1 = 0) (h1 : ¬ r.1 = -1) (hr : RR r.2 τ3) (hm : MI σ0 B τ3) (hs : Stk B τ τ3) : OUT σ0 B τ r nx := ⟨fun q => absurd q h0, fun q => absurd q h1, fun _ _ => ⟨m, τ1, τ3, hx, ⟨B1, hI⟩, e, hr, hm, hs⟩⟩
theorem OUT.backr {B1 : Nat} (hx : Rch m τ τ1) (hI : ITm B1 τ1) (e : f_X5_it τ1 = BK τ3) (h1 : r.1 = -1) (hr : RR r.2 τ3) (hm : MI σ0 B τ3) (hs : Stk B τ τ3) : OUT σ0 B τ r nx := ⟨fun q => absurd (h1.symm.trans q) (by decide), fun _ => ⟨m, τ1, τ3, hx, ⟨B1, hI⟩, e, hr, hm, hs⟩, fun _ q => absurd h1 q⟩
/-- a block within: what its end gives for the block around it -/
theorem blk (hI : ITm B τ) (hp : f_X5_it τ = τp) (hst : Stk B τ τp) (hn : τp 15 B = nx) (he : τp 16 (B + 1) = b') (hB : B + 2 < 80) (o : OUT σ0 (B + 1) τp r b')
    (D : r.1 = 0 → r'.1 = 0 ∧ ∀ τ', RR r.2 τ' → MI σ0 (B + 1) τ' → Stk (B + 1) τp τ' → RR r'.2 (f_X5_pop τ'))
    (K : r.1 = -1 → ∀ τ', RR r.2 τ' → MI σ0 (B + 1) τ' → Stk (B + 1) τp τ' → (r'.1 = -1 ∧ BK τ' = BK (f_X5_pop τ') ∧ RR r'.2 (f_X5_pop τ')) ∨ (r'.1 = 0 ∧ BK τ' = f_X5_pop τ' ∧ RR r'.2 (f_X5_pop τ')))
    (E : ¬ r.1 = 0 → ¬ r.1 = -1 → ∀ τ', RR r.2 τ' → MI σ0 (B + 1) τ' → Stk (B + 1) τp τ' → (r'.1 = r.1 ∧ f_X5_fails r.1 τ' = f_X5_fails r.1 (f_X5_pop τ') ∧ RR r'.2 (f_X5_pop τ')) ∨ (r'.1 = 0 ∧ f_X5_fails r.1 τ' = up2 (f_X5_pop τ') 0 12 r.1 ∧ RR r'.2 (up2 (f_X5_pop τ') 0 12 r.1))) : OUT σ0 B τ r' nx := by
  have h1 : Rch 1 τ τp := ⟨⟨B, hI⟩, hp⟩
  have n15 : ∀ t, Stk (B + 1) τp t → (f_X5_pop t) 15 B = nx := fun t ht => by rw [pop_row (by decide), ht.2 B (by omega)]; exact hn
  have stp : ∀ t, Stk (B + 1) τp t → Stk B τ (f_X5_pop t) := fun t ht => (hst.trans ht.down).trans Stk.pop
  by_cases c0 : r.1 = 0
  · obtain ⟨k, t, hx, hr, hm, hs, h15⟩ := o.1 c0
    obtain ⟨q0, q1⟩ := D c0
    have e16 : t 15 (B + 1) = t 16 (B + 1) := by rw [h15, (hs.1 (B + 1) (by omega)).2.2.1]; exact he.symm
    have hIt : ITm (B + 1) t := ⟨hm.mv hB, fun ne => absurd (by rw [hm.1.nat]; exact e16) ne⟩
    have hx2 : Rch (1 + k + 1) τ (f_X5_pop t) := Rch_trans _ _ _ _ _ (Rch_trans _ _ _ _ _ h1 hx) ⟨⟨B + 1, hIt⟩, it_pop hm e16⟩
    exact OUT.rch hx2 q0 (q1 t hr hm hs) hm.pop (stp t hs) (n15 t hs)
  · by_cases c1 : r.1 = -1
    · obtain ⟨k, t1, t3, hx, ⟨B1, hI1⟩, e1, hr, hm, hs⟩ := o.2.1 c1
      have hx2 := Rch_trans _ _ _ _ _ h1 hx
      rcases K c1 t3 hr hm hs with ⟨a, e2, hr2⟩ | ⟨a, e2, hr2⟩
      · exact OUT.backr hx2 hI1 (e1.trans e2) a hr2 hm.pop (stp t3 hs)
      · exact OUT.rch (Rch_trans _ _ _ _ _ hx2 (Rch_to hI1 (e1.trans e2))) a hr2 hm.pop (stp t3 hs) (n15 t3 hs)
    · obtain ⟨k, t1, t3, hx, ⟨B1, hI1⟩, e1, hr, hm, hs⟩ := o.2.2 c0 c1
      have hx2 := Rch_trans _ _ _ _ _ h1 hx
      rcases E c0 c1 t3 hr hm hs with ⟨a, e2, hr2⟩ | ⟨a, e2, hr2⟩
      · refine OUT.failr hx2 hI1 ?_ (by rw [a]; exact c0) (by rw [a]; exact c1) hr2 hm.pop (stp t3 hs)
        rw [a]
        exact e1.trans e2
      · exact OUT.rch (Rch_trans _ _ _ _ _ hx2 (Rch_to hI1 (e1.trans e2))) a hr2 (hm.pop.up0 (by decide) _) ((stp t3 hs).trans (Stk.up (by decide))) (by rw [row_off (by decide)]; exact n15 t3 hs)
theorem RR.push (h : RR σ τ) (wt pl a b oo : Int32) : RR σ (f_X5_push wt pl a b oo τ) := h.mo (fun k i h1 h2 => by rw [push_row (by omega)]) (fun i hi => push_0 (by omega))
theorem RR.popE {x : Int32} (h : RR σ τ) (hm : MI σ0 (B + 1) τ) (hs : τ 13 (B + 1) = 1) (ha : τ 17 (B + 1) = x) : RR (f_X4_leaveInTrace 2 (f_X1_leave (28 + x.toNatClampNeg) σ)) (f_X5_pop τ) := by
  have e : f_X5_pop τ = f_X5_leave 2 (up2 (up2 τ 0 20 ((τ 0 20) - 1)) 5 ((τ 17 (((τ 0 20) - 1).toNatClampNeg)).toNatClampNeg) ((τ 5 ((τ 17 (((τ 0 20) - 1).toNatClampNeg)).toNatClampNeg)) - 1)) := if_pos (by rw [hm.1.nat]; exact hs)
  rw [e, hm.1.nat, ha]
  exact (((h.m0 (Or.inl rfl)).lv (up2_off _ _ (by decide)))).trace 2
theorem RR.popT (h : RR σ τ) (hm : MI σ0 (B + 1) τ) (hs : τ 13 (B + 1) = 2) : RR σ (f_X5_pop τ) := by
  have e : f_X5_pop τ = up2 τ 0 20 ((τ 0 20) - 1) := (if_neg (by rw [hm.1.nat, hs]; decide)).trans (if_neg (by rw [hm.1.nat, hs]; decide))
  rw [e]
  exact h.m0 (Or.inl rfl)
theorem RR.popP (h : RR σ τ) (hm : MI σ0 B τ) (hs : τ 13 B = 0) : RR (up2 σ 0 7 ((σ 0 7) - 1)) (f_X5_pop τ) := by
  have e : f_X5_pop τ = up2 (up2 τ 0 20 ((τ 0 20) - 1)) 0 16 ((τ 0 16) - 1) := (if_neg (by rw [hm.1.nat, hs]; decide)).trans (if_pos (by rw [hm.1.nat]; exact hs))
  rw [e, h.2.2.2.2.2.2.1]
  exact (h.m0 (Or.inl rfl)).g7 _
theorem tp_rows (h : Tp B p i b τ) (e : ∀ k, 14 ≤ k → k ≤ 16 → τ' k = τ k) : Tp B p i b τ' := ⟨by rw [e 14 (by decide) (by decide)]; exact h.1, by rw [e 15 (by decide) (by decide)]; exact h.2.1, by rw [e 16 (by decide) (by decide)]; exact h.2.2⟩
theorem tp_push (h : MI σ0 B τ) (wt a b oo : Int32) : Tp (B + 1) p a b (f_X5_push wt (nI p) a b oo τ) := ⟨by rw [(push_at h wt (nI p) a b oo (B + 1)).2.1, if_pos rfl], by rw [(push_at h wt (nI p) a b oo (B + 1)).2.2.1, if_pos rfl], by rw [(push_at h wt (nI p) a b oo (B + 1)).2.2.2.1, if_pos rfl]⟩
theorem sim_enter {u v : Int32} {τs : Sg} (hS : SIM n σ0 d) (hI : ITm B τ) (hu : vp_in u 8) (hr : RR σ τs) (hm : MI σ0 B τs) (hs : Stk B τ τs) (ht : Tp B p i b τs) (hx : nx = f_J9_min_7cf53 (i + v) b) (hc : CR n σ0 d w p i nx σ) (hB : B + 1 + d < 78) (hle : i.toInt ≤ nx.toInt) (e : f_X5_it τ = f_X5_does 0 u v τs) : OUT σ0 B τ (F_X4_doInside (gS d) (f_X4_safeIn u σ) p i nx σ) nx := by
  have hw : f_X4_safeIn u σ = τs 7 u.toNatClampNeg := (safeIn_at hu).trans (hr.2.1 _)
  have hx7 := hm.2.2.1 u.toNatClampNeg (vp_lt hu)
  have e0 : f_X5_does 0 u v τs = f_X5_withSafe 0 (τs 7 u.toNatClampNeg) v τs := rfl
  rw [hw]
  rw [e0] at e
  generalize τs 7 u.toNatClampNeg = x at e hx7
  by_cases c : x = -1
  · have e1 : F_X4_doInside (gS d) x p i nx σ = (1, σ) := if_pos c
    rw [e1]
    exact OUT.fail hI (e.trans (if_pos c)) (show ¬ (1 : Int32) = 0 by decide) (show ¬ (1 : Int32) = -1 by decide) hr hm hs
  · have hvx := hx7.resolve_left c
    have e2 : f_X5_withSafe 0 x v τs = f_X5_within 1 v x (f_X5_leave 1 (f_X5_enter x τs)) := if_neg c
    have fe : ∀ k, k ≠ 2 ∧ k ≠ 3 ∧ k ≠ 4 ∧ k ≠ 5 ∧ k ≠ 6 → f_X5_enter x τs k = τs k := fun k hk => fr5_enter hk.2.2
    have h1 := (hr.enter (s := x) (i := x.toNatClampNeg) rfl).trace 1
    have m1 : MI σ0 B (f_X5_leave 1 (f_X5_enter x τs)) := (hm.fr fe).leave 1
    have s1 : Stk B τ (f_X5_leave 1 (f_X5_enter x τs)) := (hs.trans (Stk.fr fe)).trans Stk.leave
    have t1 : Tp B p i b (f_X5_leave 1 (f_X5_enter x τs)) := tp_rows ht (fun k h1 h2 => by rw [lv_rows (by omega) (by omega), fe k (by omega)])
    have sm1 := ((Sm.refl hc.di).enter (j := 28 + x.toNatClampNeg) (Nat.le_add_right _ _)).trace 1
    have c1 := hc.of sm1
    generalize f_X5_leave 1 (f_X5_enter x τs) = t at e2 h1 m1 s1 t1
    rw [e2, within_eq m1 t1, ← hx] at e
    have m2 : MI σ0 B (up2 t 15 B nx) := m1.row (by omega)
    have m3 : MI σ0 (B + 1) (f_X5_push 1 (nI p) i nx x (up2 t 15 B nx)) := m2.push (by omega) (fun _ => hvx)
    have h3 : RR (f_X4_leaveInTrace 1 (f_X1_enter (28 + x.toNatClampNeg) σ)) (f_X5_push 1 (nI p) i nx x (up2 t 15 B nx)) := (h1.mr (by decide)).push _ _ _ _ _
    have o := hS _ _ _ _ _ _ (B + 1) c1 h3 m3 (tp_push m2 1 i nx x) hB hle
    have e1 : F_X4_doInside (gS d) x p i nx σ = ((gS d p i nx (f_X4_leaveInTrace 1 (f_X1_enter (28 + x.toNatClampNeg) σ))).1, f_X4_leaveInTrace 2 (f_X1_leave (28 + x.toNatClampNeg) (gS d p i nx (f_X4_leaveInTrace 1 (f_X1_enter (28 + x.toNatClampNeg) σ))).2)) := if_neg c
    rw [e1]
    generalize gS d p i nx (f_X4_leaveInTrace 1 (f_X1_enter (28 + x.toNatClampNeg) σ)) = r at o
    have p13 : ∀ t', Stk (B + 1) (f_X5_push 1 (nI p) i nx x (up2 t 15 B nx)) t' → t' 13 (B + 1) = 1 ∧ t' 17 (B + 1) = x := fun t' ht' => ⟨by rw [(ht'.1 (B + 1) (by omega)).1, (push_at m2 1 (nI p) i nx x (B + 1)).1, if_pos rfl], by rw [(ht'.1 (B + 1) (by omega)).2.2.2, (push_at m2 1 (nI p) i nx x (B + 1)).2.2.2.2, if_pos rfl]⟩
    refine blk hI e ((s1.trans Stk.nx).trans (Stk.push m2 _ _ _ _ _)) ?_ ?_ (by omega) o (fun q => ⟨q, fun t' a b c => a.popE b (p13 t' c).1 (p13 t' c).2⟩) (fun q t' a b c => Or.inl ⟨q, back_pop b (by rw [(p13 t' c).1]; decide), a.popE b (p13 t' c).1 (p13 t' c).2⟩) (fun q1 q2 t' a b c => Or.inl ⟨rfl, fails_pop b (by rw [(p13 t' c).1]; decide), a.popE b (p13 t' c).1 (p13 t' c).2⟩)
    · rw [(push_at m2 1 (nI p) i nx x B).2.2.1, if_neg (by omega), up2_self]
    · rw [(push_at m2 1 (nI p) i nx x (B + 1)).2.2.2.1, if_pos rfl]
theorem sim_try {u v : Int32} {τs : Sg} (hS : SIM n σ0 d) (hI : ITm B τ) (hr : RR σ τs) (hm : MI σ0 B τs) (hs : Stk B τ τs) (ht : Tp B p i b τs) (hx : nx = f_J9_min_7cf53 (i + v) b) (hc : CR n σ0 d w p i nx σ) (hB : B + 1 + d < 78) (hle : i.toInt ≤ nx.toInt) (e : f_X5_it τ = f_X5_does 1 u v τs) : OUT σ0 B τ (F_X4_doTry (gS d) u p i nx σ) nx := by
  have e0 : f_X5_does 1 u v τs = f_X5_within 2 v u τs := rfl
  rw [e0, within_eq hm ht, ← hx] at e
  have m2 : MI σ0 B (up2 τs 15 B nx) := hm.row (by omega)
  have m3 : MI σ0 (B + 1) (f_X5_push 2 (nI p) i nx u (up2 τs 15 B nx)) := m2.push (by omega) (fun q => absurd q (by decide))
  have h3 : RR σ (f_X5_push 2 (nI p) i nx u (up2 τs 15 B nx)) := (hr.mr (by decide)).push _ _ _ _ _
  have o := hS _ _ _ _ _ _ (B + 1) hc h3 m3 (tp_push m2 2 i nx u) hB hle
  unfold F_X4_doTry
  generalize gS d p i nx σ = r at o
  have p13 : ∀ t', Stk (B + 1) (f_X5_push 2 (nI p) i nx u (up2 τs 15 B nx)) t' → t' 13 (B + 1) = 2 ∧ t' 17 (B + 1) = u := fun t' ht' => ⟨by rw [(ht'.1 (B + 1) (by omega)).1, (push_at m2 2 (nI p) i nx u (B + 1)).1, if_pos rfl], by rw [(ht'.1 (B + 1) (by omega)).2.2.2, (push_at m2 2 (nI p) i nx u (B + 1)).2.2.2.2, if_pos rfl]⟩
  refine blk hI e ((hs.trans Stk.nx).trans (Stk.push m2 _ _ _ _ _)) ?_ ?_ (by omega) o ?_ ?_ ?_
  · rw [(push_at m2 2 (nI p) i nx u B).2.2.1, if_neg (by omega), up2_self]
  · rw [(push_at m2 2 (nI p) i nx u (B + 1)).2.2.2.1, if_pos rfl]
  · intro q
    rw [if_pos q]
    exact ⟨q, fun t' a b c => a.popT b (p13 t' c).1⟩
  · intro q t' a b c
    rw [if_neg (by rw [q]; decide), if_pos q]
    exact Or.inl ⟨q, back_pop b (by rw [(p13 t' c).1]; decide), a.popT b (p13 t' c).1⟩
  · intro q1 q2 t' a b c
    rw [if_neg q1, if_neg q2]
    by_cases c40 : r.1 = 40
    · rw [if_pos c40]
      refine Or.inl ⟨rfl, ?_, a.popT b (p13 t' c).1⟩
      rw [c40]
      exact fails_40 b (p13 t' c).1
    · rw [if_neg c40]
      by_cases cu : u = 0
      · rw [if_pos cu]
        exact Or.inr ⟨rfl, fails_hold b (p13 t' c).1 c40 (Or.inl ((p13 t' c).2.trans cu)), (a.popT b (p13 t' c).1).g4 _⟩
      · rw [if_neg cu]
        by_cases ce : u = r.1
        · rw [if_pos ce]
          exact Or.inr ⟨rfl, fails_hold b (p13 t' c).1 c40 (Or.inr ((p13 t' c).2.trans ce)), (a.popT b (p13 t' c).1).g4 _⟩
        · rw [if_neg ce]
          exact Or.inl ⟨rfl, fails_pass b (p13 t' c).1 c40 (by rw [(p13 t' c).2]; exact cu) (by rw [(p13 t' c).2]; exact ce), a.popT b (p13 t' c).1⟩
theorem bp_eq (u : Int32) (τ : Sg) : f_X5_beginPlan u τ = f_X5_push 0 u 0 (τ 8 u.toNatClampNeg) (-1) (up2 (up2 τ 0 16 ((τ 0 16) + 1)) 0 17 (f_J9_max_7cf53 (τ 0 17) ((τ 0 16) + 1))) := by
  unfold f_X5_beginPlan f_J9_max_7cf53
  by_cases c : (τ 0 16) + 1 ≤ τ 0 17
  · rw [if_pos c, if_neg (fun q => by rw [i_le] at c; rw [i_lt] at q; omega)]
  · rw [if_neg c, if_pos (by rw [i_le] at c; rw [i_lt]; omega)]
theorem sim_plan {u v : Int32} {τs : Sg} (hPI : PI σ0) (hS : SIM n σ0 d) (hI : ITm B τ) (hu : vp_in u 6) (hr : RR σ τs) (hm : MI σ0 B τs) (hs : Stk B τ τs) (hn : τs 15 B = nx) (hD : DI n σ0 σ) (hw7 : σ 0 7 = nI w) (hw4 : w ≤ 4) (hd : (4 - w) * 13 ≤ d) (hB : B + 1 + d < 78) (e : f_X5_it τ = f_X5_does 12 u v τs) : OUT σ0 B τ (F_X4_doPlan (gS d) u σ) nx := by
  have e0 : f_X5_does 12 u v τs = if τs 0 16 = 4 then f_X5_fails 7 τs else f_X5_beginPlan u τs := rfl
  rw [e0, ← hr.2.2.2.2.2.2.1, hw7] at e
  unfold F_X4_doPlan
  by_cases c4 : w = 4
  · rw [if_pos (by rw [hw7, c4]; decide)]
    rw [if_pos (by rw [c4]; rfl)] at e
    exact OUT.fail hI e (show ¬ (7 : Int32) = 0 by decide) (show ¬ (7 : Int32) = -1 by decide) hr hm hs
  · have n4 : ¬ (4 : Int32) ≤ σ 0 7 := by
      rw [hw7, show (4 : Int32) = nI 4 from rfl]
      exact fun q => absurd ((nI_leI (by decide) (by omega)).mp q) (by omega)
    have n5 : ¬ nI w = 4 := fun q => c4 ((nI_eq (by omega) (by decide)).mp (q.trans (show (4 : Int32) = nI 4 from rfl)))
    have hp6 := vp_lt hu
    have hnp : ¬ f_X4_isPlan u = 0 := by
      have h2 := vp_in_iff.mp hu
      unfold f_X4_isPlan
      rw [if_neg (by rw [i_lt, ti0]; omega), if_neg (by rw [i_le, show (6 : Int32).toInt = 6 from rfl]; omega)]
      decide
    rw [if_neg n4, if_neg hnp]
    rw [if_neg n5, bp_eq] at e
    have hcr := CR_plan hPI hD hw7 hw4 n4 hp6 hd (f_J9_max_7cf53 (σ 0 8) ((σ 0 7) + 1))
    have eu : u = nI u.toNatClampNeg := nI_nat hu
    have e8 : τs 8 u.toNatClampNeg = σ (4 + u.toNatClampNeg) 3 := by rw [(hm.2.2.2.2.1 _ hp6).1, hD.2.2 (4 + u.toNatClampNeg) (by omega) (by omega)]
    have hz : 0 ≤ (σ (4 + u.toNatClampNeg) 3).toInt := by rw [hD.2.2 (4 + u.toNatClampNeg) (by omega) (by omega)]; exact (hPI _ hp6).1.1
    have h2 : RR (up2 (up2 σ 0 7 ((σ 0 7) + 1)) 0 8 (f_J9_max_7cf53 (σ 0 8) ((σ 0 7) + 1))) (up2 (up2 τs 0 16 ((τs 0 16) + 1)) 0 17 (f_J9_max_7cf53 (τs 0 17) ((τs 0 16) + 1))) := by
      rw [hr.2.2.2.2.2.2.1, hr.2.2.2.2.2.2.2]
      exact (hr.g7 _).g8 _
    have m2 : MI σ0 B (up2 (up2 τs 0 16 ((τs 0 16) + 1)) 0 17 (f_J9_max_7cf53 (τs 0 17) ((τs 0 16) + 1))) := (hm.up0 (by decide) _).up0 (by decide) _
    have s2 : Stk B τ (up2 (up2 τs 0 16 ((τs 0 16) + 1)) 0 17 (f_J9_max_7cf53 (τs 0 17) ((τs 0 16) + 1))) := (hs.trans (Stk.up (by decide))).trans (Stk.up (by decide))
    have n2 : (up2 (up2 τs 0 16 ((τs 0 16) + 1)) 0 17 (f_J9_max_7cf53 (τs 0 17) ((τs 0 16) + 1))) 15 B = nx := by rw [row_off (by decide), row_off (by decide)]; exact hn
    rw [e8] at e
    generalize up2 (up2 τs 0 16 ((τs 0 16) + 1)) 0 17 (f_J9_max_7cf53 (τs 0 17) ((τs 0 16) + 1)) = t at e h2 m2 s2 n2
    generalize up2 (up2 σ 0 7 ((σ 0 7) + 1)) 0 8 (f_J9_max_7cf53 (σ 0 8) ((σ 0 7) + 1)) = ρ at hcr h2
    generalize σ (4 + u.toNatClampNeg) 3 = z at hcr e hz
    have m3 : MI σ0 (B + 1) (f_X5_push 0 u 0 z (-1) t) := m2.push (by omega) (fun q => absurd q (by decide))
    have h3 : RR ρ (f_X5_push 0 u 0 z (-1) t) := h2.push _ _ _ _ _
    have t3 : Tp (B + 1) u.toNatClampNeg 0 z (f_X5_push 0 u 0 z (-1) t) := by
      have := tp_push (p := u.toNatClampNeg) m2 0 0 z (-1)
      rwa [← eu] at this
    have o := hS _ _ _ _ _ _ (B + 1) hcr h3 m3 t3 hB (by rw [ti0]; exact hz)
    generalize gS d u.toNatClampNeg 0 z ρ = r at o
    have p13 : ∀ t', Stk (B + 1) (f_X5_push 0 u 0 z (-1) t) t' → t' 13 (B + 1) = 0 := fun t' ht' => by rw [(ht'.1 (B + 1) (by omega)).1, (push_at m2 0 u 0 z (-1) (B + 1)).1, if_pos rfl]
    refine blk hI e (s2.trans (Stk.push m2 _ _ _ _ _)) ?_ ?_ (by omega) o ?_ ?_ ?_
    · rw [(push_at m2 0 u 0 z (-1) B).2.2.1, if_neg (by omega)]; exact n2
    · rw [(push_at m2 0 u 0 z (-1) (B + 1)).2.2.2.1, if_pos rfl]
    · intro q
      rw [if_neg (by rw [q]; decide)]
      exact ⟨q, fun t' a b c => a.popP b (p13 t' c)⟩
    · intro q t' a b c
      rw [if_pos q]
      exact Or.inr ⟨rfl, back_plan b (p13 t' c), a.popP b (p13 t' c)⟩
    · intro q1 q2 t' a b c
      rw [if_neg q2]
      exact Or.inl ⟨rfl, fails_pop b (by rw [p13 t' c]; decide), a.popP b (p13 t' c)⟩
end BLK
