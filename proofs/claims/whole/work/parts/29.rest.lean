/-- cells beyond n stay -/
def Sz (n : Nat) (σ σ' : Sg) : Prop := ∀ k, n ≤ k → σ' k = σ k
theorem Sz.refl {n : Nat} {σ : Sg} : Sz n σ σ := fun _ _ => rfl
theorem Sz.trans {n : Nat} {σ σ1 σ2 : Sg} (h : Sz n σ σ1) (h2 : Sz n σ1 σ2) : Sz n σ σ2 := fun k hk => (h2 k hk).trans (h k hk)
theorem Sz.up {n : Nat} {σ : Sg} {k i : Nat} {v : Int32} (hk : k < n) : Sz n σ (up2 σ k i v) := fun k' h => row_off (by omega)
theorem Sz.ite {n : Nat} {σ : Sg} {c : Prop} [Decidable c] {y z : Int32 × Sg} (hy : Sz n σ y.2) (hz : Sz n σ z.2) : Sz n σ (if c then y else z).2 := by
  by_cases h : c
  · rw [if_pos h]; exact hy
  · rw [if_neg h]; exact hz
theorem Sz.itc {n : Nat} {σ : Sg} {c : Prop} [Decidable c] {y z : Int32 × Sg} (hy : c → Sz n σ y.2) (hz : ¬ c → Sz n σ z.2) : Sz n σ (if c then y else z).2 := by
  by_cases h : c
  · rw [if_pos h]; exact hy h
  · rw [if_neg h]; exact hz h
theorem Sz.enter {n j : Nat} {σ : Sg} (hj : j < n) : Sz n σ (f_X1_enter j σ) := fun k h => fr_enter (by omega) _
theorem Sz.leave {n j : Nat} {σ : Sg} (hj : j < n) : Sz n σ (f_X1_leave j σ) := fun k h => fr_leave (by omega) _
theorem Sz.trace {n : Nat} {σ : Sg} (hn : 28 ≤ n) (a : Int32) : Sz n σ (f_X4_leaveInTrace a σ) := fun k h => tr_rows (by omega) (by omega)
theorem Sz.seek {n : Nat} {b : Int32} : ∀ (m k : Nat) (σ : Sg), RI n σ → Sz n σ (lf_X4_seek m k b σ).2 := by
  intro m
  induction m with
  | zero => intro k σ hI; exact Sz.refl
  | succ m ih =>
    intro k σ hI
    unfold lf_X4_seek
    refine Sz.ite Sz.refl (Sz.itc (fun _ => ih _ _ hI) (fun c => ?_))
    have hj := (safeIn_ok hI (nI k)).resolve_left c
    have s1 : Sz n σ (f_X1_leave (28 + (f_X4_safeIn (nI k) σ).toNatClampNeg) (f_X1_enter (28 + (f_X4_safeIn (nI k) σ).toNatClampNeg) σ)) := (Sz.enter hj).trans (Sz.leave hj)
    exact Sz.ite (s1.trans (ih _ _ (hI.of1 ((fr_leave (by omega) _).trans (fr_enter (by omega) _))))) s1
theorem Sz.rooms {n : Nat} {σ : Sg} (hn : 28 ≤ n) (hI : RI n σ) (kd a b : Int32) : Sz n σ (f_X4_doWithRooms kd a b σ).2 := by
  have hs : ∀ w, Sz n σ (f_X4_setRoom a w σ) := by
    intro w
    unfold f_X4_setRoom
    split
    · exact Sz.refl
    · exact Sz.up (by omega)
  exact Sz.ite (hs _) (Sz.ite (hs _) ((Sz.seek _ _ _ hI).trans (Sz.up (by omega))))
theorem Sz.safe {n : Nat} {σ : Sg} (hn : 28 ≤ n) (hI : RI n σ) (kd b : Int32) {w : Int32} (hw : w = -1 ∨ 28 + w.toNatClampNeg < n) : Sz n σ (f_X4_doWithSafe kd w b σ).2 := by
  refine Sz.itc (fun _ => Sz.refl) (fun c => ?_)
  have hj := hw.resolve_left c
  refine Sz.ite (fun k h => fr_vput (by omega) _ _) (Sz.ite ((show Sz n σ (f_vworth (28 + w.toNatClampNeg) σ).2 from fun k h => fr_vworth (by omega) _).trans (Sz.up (by omega))) (Sz.ite ?_ (Sz.up (by omega))))
  intro k h
  have hw2 := safeIn_ok hI (f_J9_floorMod_7cf53 b 8)
  by_cases c2 : f_X4_safeIn (f_J9_floorMod_7cf53 b 8) σ = -1
  · rw [c2]
    exact fr_give (by omega) (by have : ((-1 : Int32)).toNatClampNeg = 0 := by decide
                                 omega) _ _
  · exact fr_give (by omega) (by have := hw2.resolve_left c2; omega) _ _
theorem Sz.value {n : Nat} {σ : Sg} (hn : 28 ≤ n) (kd a : Int32) : Sz n σ (f_X4_doWithValue kd a σ).2 := Sz.ite (Sz.ite Sz.refl (Sz.up (by omega))) (Sz.ite Sz.refl (Sz.ite (Sz.up (by omega)) (Sz.up (by omega))))
def RZ (n : Nat) (σ0 : Sg) (d : Nat) (rec : RecT) : Prop := ∀ (w p : Nat) (a b : Int32) (σ : Sg), CR n σ0 d w p a b σ → Sz n σ (rec p a b σ).2
section RZS
variable {n : Nat} {σ0 σ : Sg} {d wk p : Nat} {a b : Int32} {rec : RecT}
theorem Sz_inside {w : Int32} (hn : 28 ≤ n) (hz : RZ n σ0 d rec) (hc : CR n σ0 d wk p a b σ) (hw : w = -1 ∨ 28 + w.toNatClampNeg < n) : Sz n σ (F_X4_doInside rec w p a b σ).2 := by
  refine Sz.itc (fun _ => Sz.refl) (fun c => ?_)
  have hj := hw.resolve_left c
  have s1 := ((Sm.refl hc.di).enter (j := 28 + w.toNatClampNeg) (Nat.le_add_right _ _)).trace 1
  exact ((((Sz.enter hj).trans (Sz.trace hn 1)).trans (hz _ _ _ _ _ (hc.of s1))).trans (Sz.leave hj)).trans (Sz.trace hn 2)
theorem Sz_try {hd : Int32} (hn : 28 ≤ n) (hz : RZ n σ0 d rec) (hc : CR n σ0 d wk p a b σ) : Sz n σ (F_X4_doTry rec hd p a b σ).2 := by
  have s := hz _ _ _ _ _ hc
  have s2 := fun v => s.trans (Sz.up (k := 0) (i := 4) (v := v) (by omega))
  exact Sz.ite s (Sz.ite s (Sz.ite s (Sz.ite (s2 _) (Sz.ite (s2 _) s))))
theorem Sz_plan {pl : Int32} (hn : 28 ≤ n) (hz : RZ n σ0 d rec) (hPI : PI σ0) (hD : DI n σ0 σ) (hw7 : σ 0 7 = nI wk) (hw4 : wk ≤ 4) (hd : (4 - wk) * 13 ≤ d) : Sz n σ (F_X4_doPlan rec pl σ).2 := by
  refine Sz.itc (fun _ => Sz.refl) (fun c1 => Sz.itc (fun _ => Sz.refl) (fun c2 => ?_))
  have hcr := CR_plan hPI hD hw7 hw4 c1 (isPlan_lt c2) hd (f_J9_max_7cf53 (σ 0 8) ((σ 0 7) + 1))
  have s := (((Sz.up (k := 0) (i := 7) (v := (σ 0 7) + 1) (by omega)).trans (Sz.up (k := 0) (i := 8) (by omega))).trans (hz _ _ _ _ _ hcr))
  exact Sz.ite (s.trans (Sz.up (by omega))) (s.trans (Sz.up (by omega)))
theorem Sz_step (hn : 28 ≤ n) (hz : RZ n σ0 d rec) (hPI : PI σ0) (hc : CR n σ0 d wk p (a + 1) b σ) : Sz n σ (F_X4_doStep rec p a b σ).2 := by
  have s0 := Sm.refl hc.di
  have s1 := (s0.up0 (i := 5) (by decide) ((σ 0 5) + 1)).trace (100 + (σ (10 + 3 * p + 0) a.toNatClampNeg))
  have z1 : Sz n σ (f_X4_leaveInTrace (100 + (σ (10 + 3 * p + 0) a.toNatClampNeg)) (up2 σ 0 5 ((σ 0 5) + 1))) := (Sz.up (by omega)).trans (Sz.trace hn _)
  have t1 := hc.of s1
  have hi := fun u => z1.trans (Sz_inside hn hz t1 (safeIn_ok s1.1.1 u))
  have ht := fun hd => z1.trans (Sz_try (hd := hd) hn hz t1)
  have hp := fun pl => z1.trans (Sz_plan (pl := pl) hn hz hPI s1.1 t1.w7 t1.w4 t1.hd)
  have hs := fun kd u v => z1.trans (Sz.safe hn s1.1.1 kd v (safeIn_ok s1.1.1 u))
  have hr := fun kd a b => z1.trans (Sz.rooms hn s1.1.1 kd a b)
  have hv := fun kd a => z1.trans (Sz.value hn kd a)
  rw [doStep_eq]
  refine Sz.ite ?_ Sz.refl
  unfold dsp
  exact Sz.ite (hi _) (Sz.ite (ht _) (Sz.ite (hs _ _ _) (Sz.ite (hs _ _ _) (Sz.ite (hs _ _ _) (Sz.ite (hr _ _ _) (Sz.ite (hr _ _ _) (Sz.ite (hs _ _ _) (Sz.ite (hv _ _) (Sz.ite (hv _ _) (Sz.ite (hv _ _) (Sz.ite (hv _ _) (Sz.ite (hp _) (Sz.ite (hr _ _ _) (hs _ _ _))))))))))))))
theorem Sz_lf (hn : 28 ≤ n) (hz : RZ n σ0 d rec) (hrs : RS n σ0 d rec) (hPI : PI σ0) : ∀ (m : Nat) (i nx : Int32) (σ : Sg), CR n σ0 (d + 1) wk p i b σ → Sz n σ (lf_X4_doSteps rec m p i nx b σ).2 := by
  intro m
  induction m with
  | zero => intro i nx σ hc; exact Sz.refl
  | succ m ih =>
    intro i nx σ hc
    unfold lf_X4_doSteps
    refine Sz.itc (fun _ => Sz.refl) (fun hb => ?_)
    have s := Sz_step (a := i) (b := f_X0_behind p i b σ) hn hz hPI (hc.next hPI hb)
    have sm := Sm_doStep (a := i) (b := f_X0_behind p i b σ) hrs hPI (hc.next hPI hb)
    refine Sz.ite ?_ (ih _ _ _ (hc.succ hPI hb))
    exact Sz.ite (s.trans (ih _ _ _ ((hc.succ hPI hb).of sm))) s
theorem gS_RZ (hn : 28 ≤ n) (hPI : PI σ0) : ∀ d, RZ n σ0 d (gS d) := by
  intro d
  induction d with
  | zero => intro w p a b σ hc; exact absurd hc.2.2.2.2.2.2 (Nat.not_lt_zero _)
  | succ d ih => intro w p a b σ hc; exact Sz_lf hn ih (gS_RS hPI d) hPI 13 a a σ hc
end RZS
/-- the class's ints and the reference's between two calls, with ns safes -/
def RA (ns : Nat) (σ τ : Sg) : Prop := ns ≤ 512 ∧ τ 0 0 = nI ns ∧ (∀ i f, f < 6 → σ (28 + i) f = τ (f + 1) i) ∧ (∀ r, σ 1 r = τ 7 r) ∧ (∀ i, σ 3 i = τ 12 i) ∧ (σ 0 3 = τ 0 18 ∧ σ 0 4 = τ 0 12 ∧ σ 0 5 = τ 0 13 ∧ σ 0 8 = τ 0 17 ∧ σ 0 6 = τ 0 15) ∧ σ 0 7 = nI 0 ∧ PM σ τ ∧ PI σ ∧ (∀ r, r < 8 → τ 7 r = -1 ∨ vp_in (τ 7 r) ns) ∧ (∀ i, τ 1 i = 0 ∨ τ 1 i = 1 ∨ τ 1 i = 2) ∧ (∀ k f, 28 + ns ≤ k → f < 6 → σ k f = 0) ∧ (¬ σ 0 3 < 0 ∧ σ 0 3 ≤ 120)
theorem vp_wide {v : Int32} {a b : Nat} (h : vp_in v a) (hab : a ≤ b) : vp_in v b := by
  have := vp_in_iff.mp h
  exact vp_in_iff.mpr ⟨this.1, by omega⟩
theorem RA.ri {ns : Nat} {σ τ : Sg} (h : RA ns σ τ) : RI (28 + ns) σ := by
  intro r hr
  rw [h.2.2.2.1 r]
  rcases h.2.2.2.2.2.2.2.2.2.1 r hr with q | q
  · exact Or.inl q
  · exact Or.inr (by have := vp_lt q; omega)
theorem RA.r7 {ns : Nat} {σ τ : Sg} (h : RA ns σ τ) : ∀ r, r < 8 → τ 7 r = -1 ∨ vp_in (τ 7 r) 4200 := by
  intro r hr
  rcases h.2.2.2.2.2.2.2.2.2.1 r hr with q | q
  · exact Or.inl q
  · exact Or.inr (vp_wide q (by have := h.1; omega))
