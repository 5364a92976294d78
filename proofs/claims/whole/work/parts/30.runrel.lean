theorem lf_00 {f : Int32} : ∀ (m : Nat) (τ : Sg), lf_X5_fails m f τ 0 0 = τ 0 0 := by
  intro m
  induction m with
  | zero => intro τ; rfl
  | succ m ih =>
    intro τ
    have p0 := pop_0 (τ := τ) (i := 0) (by decide)
    unfold lf_X5_fails
    repeat' split
    all_goals first | exact up2_row _ _ _ (by decide) | exact (ih _).trans p0 | exact (up2_row _ _ _ (by decide)).trans p0
theorem lb_00 : ∀ (m : Nat) (τ : Sg), lf_X5_back m τ 0 0 = τ 0 0 := by
  intro m
  induction m with
  | zero => intro τ; rfl
  | succ m ih =>
    intro τ
    have p0 := pop_0 (τ := τ) (i := 0) (by decide)
    unfold lf_X5_back
    split
    · exact p0
    · exact (ih _).trans p0
theorem wi_00 (wt v oo : Int32) (τ : Sg) : f_X5_within wt v oo τ 0 0 = τ 0 0 := by
  unfold f_X5_within
  split <;> rw [push_0 (by decide), up2_off _ _ (by decide)]
theorem bp_00 (u : Int32) (τ : Sg) : f_X5_beginPlan u τ 0 0 = τ 0 0 := by
  rw [bp_eq, push_0 (by decide), up2_row _ _ _ (by decide), up2_row _ _ _ (by decide)]
theorem ws_00 (kd w b : Int32) (τ : Sg) : f_X5_withSafe kd w b τ 0 0 = τ 0 0 := by
  have hf := fun e ρ => lf_00 (f := e) (((ρ : Sg) 0 20).toNatClampNeg + 1) ρ
  have a1 : f_X5_fails 1 τ 0 0 = τ 0 0 := hf _ _
  have a2 : f_X5_within 1 b w (f_X5_leave 1 (f_X5_enter w τ)) 0 0 = τ 0 0 := by rw [wi_00, lv_0 (by decide), fr5_enter (by decide)]
  have a3 : ∀ v, up2 τ 0 12 v 0 0 = τ 0 0 := fun v => up2_row _ _ _ (by decide)
  have a4 : (f_X5_put w b τ).2 0 0 = τ 0 0 := by rw [fr5_put (by decide)]
  have a5 : f_X5_fails 30 (f_X5_put w b τ).2 0 0 = τ 0 0 := (hf _ _).trans a4
  have a6 : ∀ v, up2 (f_X5_worth w τ).2 0 12 v 0 0 = τ 0 0 := fun v => by rw [up2_row _ _ _ (by decide), fr5_worth (by decide)]
  have a7 : ∀ x y, (f_X5_give w x y τ).2 0 0 = τ 0 0 := fun x y => by rw [fr5_give (by decide)]
  have a8 : ∀ e x y, f_X5_fails e (f_X5_give w x y τ).2 0 0 = τ 0 0 := fun e x y => (hf _ _).trans (a7 x y)
  unfold f_X5_withSafe
  repeat' split
  · exact a1
  · exact a2
  · exact a3 _
  · exact a5
  · exact a4
  · exact a6 _
  · exact a7 _ _
  · exact a8 _ _ _
  · exact a3 _
theorem ite00 {c : Prop} [Decidable c] {y z : Sg} {v : Int32} (hy : y 0 0 = v) (hz : z 0 0 = v) : (if c then y else z) 0 0 = v := by
  by_cases h : c
  · rw [if_pos h]; exact hy
  · rw [if_neg h]; exact hz
theorem do_00 (kd u v : Int32) (τ : Sg) : f_X5_does kd u v τ 0 0 = τ 0 0 := by
  have hf : ∀ e, f_X5_fails e τ 0 0 = τ 0 0 := fun e => lf_00 _ _
  have hw := fun kd w => ws_00 kd w v τ
  have hs : f_X5_seek u v τ 0 0 = τ 0 0 := (fr5_sk0 (by decide) _ _ _).trans (up2_row _ _ _ (by decide))
  have hb : f_X5_back u τ 0 0 = τ 0 0 := (lb_00 _ _).trans (up2_row _ _ _ (by decide))
  have h7 : ∀ r x, up2 τ 7 r x 0 0 = τ 0 0 := fun r x => up2_off _ _ (by decide)
  have h12 : ∀ x, up2 τ 0 12 x 0 0 = τ 0 0 := fun x => up2_row _ _ _ (by decide)
  exact ite00 (wi_00 _ _ _ _) (ite00 (hw _ _) (ite00 (hw _ _) (ite00 (hw _ _) (ite00 (h7 _ _) (ite00 (h7 _ _) (ite00 (hw _ _) (ite00 (ite00 (hf _) (h12 _)) (ite00 (hf _) (ite00 hb (ite00 (h12 _) (ite00 (ite00 (hf _) (bp_00 _ _)) (ite00 hs (hw _ _)))))))))))))
theorem it_00 (τ : Sg) : f_X5_it τ 0 0 = τ 0 0 := by
  unfold f_X5_it
  split
  · exact pop_0 (by decide)
  · split
    · exact lf_00 _ _
    · rw [do_00, lv_0 (by decide), up2_row _ _ _ (by decide), up2_off _ _ (by decide)]
theorem Rch_00 : ∀ (m : Nat) (τ τ' : Sg), Rch m τ τ' → τ' 0 0 = τ 0 0 := by
  intro m
  induction m with
  | zero => intro τ τ' h; rw [show τ = τ' from h]
  | succ m ih => intro τ τ' h; rw [ih _ _ h.2, it_00]
theorem pushN {τ : Sg} {N : Nat} (h : (τ 0 20).toNatClampNeg = N) (wt pl a b oo : Int32) (k : Nat) : f_X5_push wt pl a b oo τ 13 k = (if k = N then wt else τ 13 k) ∧ f_X5_push wt pl a b oo τ 14 k = (if k = N then pl else τ 14 k) ∧ f_X5_push wt pl a b oo τ 15 k = (if k = N then a else τ 15 k) ∧ f_X5_push wt pl a b oo τ 16 k = (if k = N then b else τ 16 k) ∧ f_X5_push wt pl a b oo τ 17 k = (if k = N then oo else τ 17 k) := by
  unfold f_X5_push
  rw [h]
  simp only [up2_eq]
  by_cases c : k = N <;> simp [c]
abbrev iniM (v : Int32) (τ : Sg) : Sg := up2 (up2 (up2 (up2 (up2 (up2 (up2 τ 0 12 v) 0 13 0) 0 14 0) 0 16 0) 0 17 0) 0 18 0) 0 20 0
abbrev iniC (v : Int32) (σ : Sg) : Sg := up2 (up2 (up2 (up2 σ 0 4 v) 0 5 0) 0 3 0) 0 8 0
theorem iniM_row {v : Int32} {τ : Sg} {k : Nat} (hk : k ≠ 0) : iniM v τ k = τ k := by
  unfold iniM
  rw [row_off hk, row_off hk, row_off hk, row_off hk, row_off hk, row_off hk, row_off hk]
theorem iniC_row {v : Int32} {σ : Sg} {k : Nat} (hk : k ≠ 0) : iniC v σ k = σ k := by
  unfold iniC
  rw [row_off hk, row_off hk, row_off hk, row_off hk]
theorem RR_ini {ns : Nat} {σ τ : Sg} (h : RA ns σ τ) (v : Int32) : RR (iniC v σ) (iniM v τ) := by
  refine ⟨fun i f hf => ?_, fun r => ?_, fun i => ?_, ?_, ?_, ?_, ?_, ?_⟩
  · rw [iniC_row (by omega), iniM_row (by omega)]; exact h.2.2.1 i f hf
  · rw [iniC_row (by decide), iniM_row (by decide)]; exact h.2.2.2.1 r
  · rw [iniC_row (by decide), iniM_row (by decide)]; exact h.2.2.2.2.1 i
  · simp only [iniC, iniM, up2_eq]; rfl
  · simp only [iniC, iniM, up2_eq]; rfl
  · simp only [iniC, iniM, up2_eq]; rfl
  · have := h.2.2.2.2.2.2.1
    simp only [iniC, iniM, up2_eq]
    simp
    rw [this]
    rfl
  · simp only [iniC, iniM, up2_eq]; rfl
theorem RA.n {ns : Nat} {σ τ : Sg} (h : RA ns σ τ) : (τ 0 0).toNatClampNeg = ns := by
  rw [h.2.1, nI_clamp (by have := h.1; omega)]
/-- behind a run: the relation at rest again -/
theorem RA_after {ns : Nat} {σ τ σ1 τ1 : Sg} (h : RA ns σ τ) (hr : RR σ1 τ1) (hD : DI (28 + ns) σ σ1) (h7 : σ1 0 7 = nI 0) (hz : Sz (28 + ns) σ σ1) (h00 : τ1 0 0 = τ 0 0) (hPM : PM σ τ1) (h7r : ∀ r, r < 8 → τ1 7 r = -1 ∨ vp_in (τ1 7 r) 4200) (hk : ∀ i, τ1 1 i = 0 ∨ τ1 1 i = 1 ∨ τ1 1 i = 2) (f : Int32) (hf : τ1 0 14 = f) : RA ns (up2 σ1 0 6 f) (up2 τ1 0 15 (τ1 0 14)) := by
  have rc : ∀ k, k ≠ 0 → up2 σ1 0 6 f k = σ1 k := fun k hk => row_off hk
  have rm : ∀ k, k ≠ 0 → up2 τ1 0 15 (τ1 0 14) k = τ1 k := fun k hk => row_off hk
  have ep : ∀ k, 4 ≤ k → k < 28 → up2 σ1 0 6 f k = σ k := fun k h1 h2 => (rc k (by omega)).trans (hD.2.2 k h1 h2)
  refine ⟨h.1, by rw [up2_row _ _ _ (by decide), h00]; exact h.2.1, fun i f hf => ?_, fun r => ?_, fun i => ?_, ⟨?_, ?_, ?_, ?_, ?_⟩, ?_, ?_, ?_, fun r hr8 => ?_, ?_, fun k f hk hf => ?_, ?_⟩
  · rw [rc _ (by omega), rm _ (by omega)]; exact hr.1 i f hf
  · rw [rc _ (by omega), rm _ (by omega)]; exact hr.2.1 r
  · rw [rc _ (by omega), rm _ (by omega)]; exact hr.2.2.1 i
  · rw [up2_row _ _ _ (by decide), up2_row _ _ _ (by decide)]; exact hr.2.2.2.1
  · rw [up2_row _ _ _ (by decide), up2_row _ _ _ (by decide)]; exact hr.2.2.2.2.1
  · rw [up2_row _ _ _ (by decide), up2_row _ _ _ (by decide)]; exact hr.2.2.2.2.2.1
  · rw [up2_row _ _ _ (by decide), up2_row _ _ _ (by decide)]; exact hr.2.2.2.2.2.2.2
  · rw [up2_self, up2_self, hf]
  · rw [up2_row _ _ _ (by decide)]; exact h7
  · intro p hp
    have e := fun q (hq : q < 3) => ep (10 + 3 * p + q) (by omega) (by omega)
    rw [ep (4 + p) (by omega) (by omega), e 0 (by decide), e 1 (by decide), e 2 (by decide), rm 8 (by decide), rm 9 (by decide), rm 10 (by decide), rm 11 (by decide)]
    exact hPM p hp
  · intro p hp
    have e := fun q (hq : q < 3) => ep (10 + 3 * p + q) (by omega) (by omega)
    rw [ep (4 + p) (by omega) (by omega), e 0 (by decide), e 1 (by decide), e 2 (by decide)]
    exact h.2.2.2.2.2.2.2.2.1 p hp
  · rw [rm _ (by omega)]
    rcases h7r r hr8 with q | q
    · exact Or.inl q
    · rcases hD.1 r hr8 with q2 | q2
      · rw [hr.2.1] at q2; exact Or.inl q2
      · rw [hr.2.1] at q2
        have h1 := vp_in_iff.mp q
        have h2 := nat_toInt h1.1
        exact Or.inr (vp_in_iff.mpr ⟨h1.1, by omega⟩)
  · rw [rm _ (by omega)]; exact hk
  · rw [rc _ (by omega), hz k hk]; exact h.2.2.2.2.2.2.2.2.2.2.2.1 k f hk hf
  · rw [up2_row _ _ _ (by decide)]; exact hD.2.1
set_option maxHeartbeats 4000000 in
/-- A RUN of a plan that there is -/
theorem run_rel {ns : Nat} {σ τ : Sg} {pl v : Int32} (h : RA ns σ τ) (hp : ¬ f_X4_isPlan pl = 0) : ∃ (m : Nat) (σe : Sg), Rch m (f_X5_beginPlan pl (iniM v τ)) σe ∧ σe 0 20 ≤ 0 ∧ (f_X4_run pl v σ).1 = (f_X5_end σe).1 ∧ RA ns (f_X4_run pl v σ).2 (f_X5_end σe).2 := by
  have hPI := h.2.2.2.2.2.2.2.2.1
  have hn : 28 ≤ 28 + ns := Nat.le_add_right _ _
  have hD : DI (28 + ns) σ (iniC v σ) := DI_run h.ri v
  have hr := RR_ini h v
  have w7 : iniC v σ 0 7 = nI 0 := by
    have := h.2.2.2.2.2.2.1
    simp only [iniC, up2_eq]
    simpa using this
  have hu := isPlan_in hp
  have hp6 := vp_lt hu
  have eu : pl = nI pl.toNatClampNeg := nI_nat hu
  have hsm := Sm_doPlan (pl := pl) (gS_RS hPI 52) hPI hD w7 (by decide) (by decide)
  have hsz := (show Sz (28 + ns) σ (iniC v σ) from fun k hk => iniC_row (by omega)).trans (Sz_plan (pl := pl) hn (gS_RZ hn hPI 52) hPI hD w7 (by decide) (by decide))
  have e_run : f_X4_run pl v σ = if (F_X4_doPlan (gS 52) pl (iniC v σ)).1 = 0 then (1, up2 (F_X4_doPlan (gS 52) pl (iniC v σ)).2 0 6 (F_X4_doPlan (gS 52) pl (iniC v σ)).1) else (-10 - (F_X4_doPlan (gS 52) pl (iniC v σ)).1, up2 (F_X4_doPlan (gS 52) pl (iniC v σ)).2 0 6 (F_X4_doPlan (gS 52) pl (iniC v σ)).1) := if_neg hp
  -- the class's doPlan
  have n4 : ¬ (4 : Int32) ≤ iniC v σ 0 7 := by rw [w7]; decide
  have e_plan : F_X4_doPlan (gS 52) pl (iniC v σ) = _ := (if_neg n4).trans (if_neg hp)
  have hcr := CR_plan hPI hD w7 (by decide) n4 hp6 (d := 52) (by decide) (f_J9_max_7cf53 (iniC v σ 0 8) ((iniC v σ 0 7) + 1))
  -- the reference's begin
  have m8 : iniM v τ 8 pl.toNatClampNeg = iniC v σ (4 + pl.toNatClampNeg) 3 := by rw [iniM_row (by decide), iniC_row (by omega)]; exact (h.2.2.2.2.2.2.2.1 _ hp6).1
  have hz0 : 0 ≤ (iniC v σ (4 + pl.toNatClampNeg) 3).toInt := by rw [iniC_row (by omega)]; exact (hPI _ hp6).1.1
  have h2 : RR (up2 (up2 (iniC v σ) 0 7 ((iniC v σ 0 7) + 1)) 0 8 (f_J9_max_7cf53 (iniC v σ 0 8) ((iniC v σ 0 7) + 1))) (up2 (up2 (iniM v τ) 0 16 ((iniM v τ 0 16) + 1)) 0 17 (f_J9_max_7cf53 (iniM v τ 0 17) ((iniM v τ 0 16) + 1))) := by
    rw [hr.2.2.2.2.2.2.1, hr.2.2.2.2.2.2.2]
    exact (hr.g7 _).g8 _
  have z20 : (up2 (up2 (iniM v τ) 0 16 ((iniM v τ 0 16) + 1)) 0 17 (f_J9_max_7cf53 (iniM v τ 0 17) ((iniM v τ 0 16) + 1))) 0 20 = nI 0 := by
    rw [up2_row _ _ _ (by decide), up2_row _ _ _ (by decide)]
    exact up2_self _ _ _ _
  have z18 : (up2 (up2 (iniM v τ) 0 16 ((iniM v τ 0 16) + 1)) 0 17 (f_J9_max_7cf53 (iniM v τ 0 17) ((iniM v τ 0 16) + 1))) 0 18 = 0 := by
    simp only [iniM, up2_eq]; rfl
  have z13 : (up2 (up2 (iniM v τ) 0 16 ((iniM v τ 0 16) + 1)) 0 17 (f_J9_max_7cf53 (iniM v τ 0 17) ((iniM v τ 0 16) + 1))) 0 13 = 0 := by
    simp only [iniM, up2_eq]; rfl
  have z14 : (up2 (up2 (iniM v τ) 0 16 ((iniM v τ 0 16) + 1)) 0 17 (f_J9_max_7cf53 (iniM v τ 0 17) ((iniM v τ 0 16) + 1))) 0 14 = 0 := by
    simp only [iniM, up2_eq]; rfl
  have z00 : (up2 (up2 (iniM v τ) 0 16 ((iniM v τ 0 16) + 1)) 0 17 (f_J9_max_7cf53 (iniM v τ 0 17) ((iniM v τ 0 16) + 1))) 0 0 = τ 0 0 := by
    simp only [iniM, up2_eq]; rfl
  have zr : ∀ k, k ≠ 0 → (up2 (up2 (iniM v τ) 0 16 ((iniM v τ 0 16) + 1)) 0 17 (f_J9_max_7cf53 (iniM v τ 0 17) ((iniM v τ 0 16) + 1))) k = τ k := fun k hk => by rw [row_off hk, row_off hk, iniM_row hk]
  rw [bp_eq, m8]
  rw [e_run]
  generalize hpl : F_X4_doPlan (gS 52) pl (iniC v σ) = fp at e_plan hsm hsz
  generalize (up2 (up2 (iniM v τ) 0 16 ((iniM v τ 0 16) + 1)) 0 17 (f_J9_max_7cf53 (iniM v τ 0 17) ((iniM v τ 0 16) + 1))) = t at h2 z20 z18 z13 z14 z00 zr
  generalize (up2 (up2 (iniC v σ) 0 7 ((iniC v σ 0 7) + 1)) 0 8 (f_J9_max_7cf53 (iniC v σ 0 8) ((iniC v σ 0 7) + 1))) = ρ at h2 hcr e_plan
  generalize iniC v σ (4 + pl.toNatClampNeg) 3 = z at hcr e_plan hz0
  have tn : (t 0 20).toNatClampNeg = 0 := by rw [z20]; rfl
  have hx := fun k => pushN tn 0 pl 0 z (-1) k
  have m3 : MI σ 0 (f_X5_push 0 pl 0 z (-1) t) := by
    refine ⟨⟨?_, by decide, fun k hk q => ?_, ?_⟩, ?_, ?_, ?_, ?_, ?_⟩
    · unfold f_X5_push
      rw [up2_self, z20, nI_1]
    · rw [(hx k).1, if_pos (by omega)] at q
      exact absurd q (by decide)
    · rw [push_0 (by decide), z18]; exact ⟨by decide, by decide⟩
    · rw [(hx 0).1, if_pos rfl]
    · rw [push_row (by decide), zr 7 (by decide)]; exact h.r7
    · rw [push_row (by decide), zr 1 (by decide)]; exact h.2.2.2.2.2.2.2.2.2.2.1
    · unfold PM
      rw [push_row (by decide), push_row (by decide), push_row (by decide), push_row (by decide), zr 8 (by decide), zr 9 (by decide), zr 10 (by decide), zr 11 (by decide)]
      exact h.2.2.2.2.2.2.2.1
    · rw [push_0 (i := 13) (by decide), push_0 (i := 14) (by decide), z13, z14]; exact ⟨by decide, by decide, rfl⟩
  have h3 : RR ρ (f_X5_push 0 pl 0 z (-1) t) := h2.push _ _ _ _ _
  have t3 : Tp 0 pl.toNatClampNeg 0 z (f_X5_push 0 pl 0 z (-1) t) := ⟨by rw [(hx 0).2.1, if_pos rfl]; exact eu, by rw [(hx 0).2.2.1, if_pos rfl], by rw [(hx 0).2.2.2.1, if_pos rfl]⟩
  have o := SIM_all hPI 52 _ _ _ _ _ _ 0 hcr h3 m3 t3 (by decide) (by rw [ti0]; exact hz0)
  have p00 : f_X5_push 0 pl 0 z (-1) t 0 0 = τ 0 0 := by rw [push_0 (by decide)]; exact z00
  have p16 : f_X5_push 0 pl 0 z (-1) t 16 0 = z := t3.2.2
  generalize gS 52 pl.toNatClampNeg 0 z ρ = r at o e_plan
  generalize f_X5_push 0 pl 0 z (-1) t = τp at o m3 p00 p16
  have bl0 : ∀ t', MI σ 0 t' → f_X5_pop t' 0 20 ≤ 0 := fun t' hm => by rw [hm.1.popd.1]; decide
  have fin : ∀ t', RR r.2 t' → MI σ 0 t' → RR (up2 r.2 0 7 ((r.2 0 7) - 1)) (f_X5_pop t') ∧ PM σ (f_X5_pop t') ∧ (∀ q, q < 8 → f_X5_pop t' 7 q = -1 ∨ vp_in (f_X5_pop t' 7 q) 4200) ∧ (∀ i, f_X5_pop t' 1 i = 0 ∨ f_X5_pop t' 1 i = 1 ∨ f_X5_pop t' 1 i = 2) ∧ f_X5_pop t' 0 14 = 0 := fun t' a hm => by
    refine ⟨a.popP hm hm.2.1, ?_, by rw [pop_row (by decide)]; exact hm.2.2.1, by rw [pop_row (by decide)]; exact hm.2.2.2.1, by rw [pop_0 (by decide)]; exact hm.2.2.2.2.2.2.2⟩
    unfold PM
    rw [pop_row (by decide), pop_row (by decide), pop_row (by decide), pop_row (by decide)]
    exact hm.2.2.2.2.1
  have sm7 : fp.2 0 7 = nI 0 := hsm.2.trans w7
  by_cases c0 : r.1 = 0
  · have ef : fp = (r.1, up2 r.2 0 7 ((r.2 0 7) - 1)) := e_plan.trans (if_neg (by rw [c0]; decide))
    obtain ⟨k, t', hx', hr', hm', hs', h15⟩ := o.1 c0
    have e16 : t' 15 0 = t' 16 0 := by rw [h15, (hs'.1 0 (Nat.le_refl _)).2.2.1]; exact p16.symm
    have hIt : ITm 0 t' := ⟨hm'.mv (by decide), fun ne => absurd (by rw [hm'.1.nat]; exact e16) ne⟩
    have hch : Rch (k + 1) τp (f_X5_pop t') := Rch_trans _ _ _ _ _ hx' (Rch_to hIt (it_pop hm' e16))
    obtain ⟨q1, q2, q3, q4, q5⟩ := fin t' hr' hm'
    refine ⟨k + 1, f_X5_pop t', hch, bl0 t' hm', ?_, ?_⟩
    · have ee : f_X5_end (f_X5_pop t') = _ := if_pos q5
      rw [ee, ef, if_pos (show (r.1, _).1 = 0 from c0)]
    · have ee : f_X5_end (f_X5_pop t') = _ := if_pos q5
      rw [ee, if_pos (show fp.1 = 0 by rw [ef]; exact c0)]
      have e2 : fp.2 = up2 r.2 0 7 ((r.2 0 7) - 1) := by rw [ef]
      have e1 : fp.1 = 0 := by rw [ef]; exact c0
      exact RA_after h (by rw [e2]; exact q1) hsm.1 sm7 hsz ((Rch_00 _ _ _ hch).trans p00) q2 q3 q4 fp.1 (by rw [e1]; exact q5)
  · by_cases c1 : r.1 = -1
    · have ef : fp = (0, up2 r.2 0 7 ((r.2 0 7) - 1)) := e_plan.trans (if_pos c1)
      obtain ⟨k, t1, t', hx', ⟨B1, hI1⟩, e1', hr', hm', hs'⟩ := o.2.1 c1
      have hch : Rch (k + 1) τp (f_X5_pop t') := Rch_trans _ _ _ _ _ hx' (Rch_to hI1 (e1'.trans (back_plan hm' hm'.2.1)))
      obtain ⟨q1, q2, q3, q4, q5⟩ := fin t' hr' hm'
      refine ⟨k + 1, f_X5_pop t', hch, bl0 t' hm', ?_, ?_⟩
      · have ee : f_X5_end (f_X5_pop t') = _ := if_pos q5
        rw [ee, ef, if_pos (show ((0 : Int32), _).1 = 0 from rfl)]
      · have ee : f_X5_end (f_X5_pop t') = _ := if_pos q5
        rw [ee, if_pos (show fp.1 = 0 by rw [ef])]
        have e2 : fp.2 = up2 r.2 0 7 ((r.2 0 7) - 1) := by rw [ef]
        have e1 : fp.1 = 0 := by rw [ef]
        exact RA_after h (by rw [e2]; exact q1) hsm.1 sm7 hsz ((Rch_00 _ _ _ hch).trans p00) q2 q3 q4 fp.1 (by rw [e1]; exact q5)
    · have ef : fp = (r.1, up2 r.2 0 7 ((r.2 0 7) - 1)) := e_plan.trans (if_neg c1)
      obtain ⟨k, t1, t', hx', ⟨B1, hI1⟩, e1', hr', hm', hs'⟩ := o.2.2 c0 c1
      obtain ⟨q1, q2, q3, q4, q5⟩ := fin t' hr' hm'
      have e9 : f_X5_fails r.1 t' = up2 (f_X5_pop t') 0 14 r.1 := by
        rw [fails_pop0 hm', pop_n0 hm']
        exact if_pos (bl0 t' hm')
      have hch : Rch (k + 1) τp (up2 (f_X5_pop t') 0 14 r.1) := Rch_trans _ _ _ _ _ hx' (Rch_to hI1 (e1'.trans e9))
      have q5' : (up2 (f_X5_pop t') 0 14 r.1) 0 14 = r.1 := up2_self _ _ _ _
      refine ⟨k + 1, _, hch, by rw [up2_row _ _ _ (by decide)]; exact bl0 t' hm', ?_, ?_⟩
      · have ee : f_X5_end (up2 (f_X5_pop t') 0 14 r.1) = _ := if_neg (by rw [q5']; exact c0)
        rw [ee, ef, if_neg (show ¬ (r.1, _).1 = 0 from c0), q5']
      · have ee : f_X5_end (up2 (f_X5_pop t') 0 14 r.1) = _ := if_neg (by rw [q5']; exact c0)
        rw [ee, if_neg (show ¬ fp.1 = 0 by rw [ef]; exact c0)]
        have e2 : fp.2 = up2 r.2 0 7 ((r.2 0 7) - 1) := by rw [ef]
        have e1 : fp.1 = r.1 := by rw [ef]
        refine RA_after h (by rw [e2]; exact q1.m0 (Or.inr rfl)) hsm.1 sm7 hsz ((Rch_00 _ _ _ hch).trans p00) ?_ (by rw [row_off (by decide)]; exact q3) (by rw [row_off (by decide)]; exact q4) fp.1 (by rw [e1]; exact q5')
        unfold PM
        rw [row_off (by decide), row_off (by decide), row_off (by decide), row_off (by decide)]
        exact q2
