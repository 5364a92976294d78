theorem Sm_doInside {n : Nat} {σ0 σ : Sg} {d wk p : Nat} {a b w : Int32} {rec : RecT} (hrs : RS n σ0 d rec) (hc : CR n σ0 d wk p a b σ) : Sm n σ0 σ (F_X4_doInside rec w p a b σ).2 := by
  have s0 := Sm.refl hc.di
  have s1 := (s0.enter (j := 28 + w.toNatClampNeg) (Nat.le_add_right _ _)).trace 1
  have s2 := s1.trans (hrs _ _ _ _ _ (hc.of s1))
  exact Sm.ite s0 ((s2.leave (Nat.le_add_right _ _)).trace 2)
theorem Sm_doTry {n : Nat} {σ0 σ : Sg} {d wk p : Nat} {a b hd : Int32} {rec : RecT} (hrs : RS n σ0 d rec) (hc : CR n σ0 d wk p a b σ) : Sm n σ0 σ (F_X4_doTry rec hd p a b σ).2 := by
  have s2 := hrs _ _ _ _ _ hc
  exact Sm.ite s2 (Sm.ite s2 (Sm.ite s2 (Sm.ite (s2.up0 (by decide) _) (Sm.ite (s2.up0 (by decide) _) s2))))
theorem Sm_doPlan {n : Nat} {σ0 σ : Sg} {d wk : Nat} {pl : Int32} {rec : RecT} (hrs : RS n σ0 d rec) (hPI : PI σ0) (hD : DI n σ0 σ) (hw7 : σ 0 7 = nI wk) (hw4 : wk ≤ 4) (hd : (4 - wk) * 13 ≤ d) : Sm n σ0 σ (F_X4_doPlan rec pl σ).2 := by
  have s0 := Sm.refl hD
  unfold F_X4_doPlan
  by_cases c1 : (4 : Int32) ≤ σ 0 7
  · rw [if_pos c1]; exact s0
  · rw [if_neg c1]
    by_cases c2 : f_X4_isPlan pl = 0
    · rw [if_pos c2]; exact s0
    · rw [if_neg c2]
      have hcr := CR_plan hPI hD hw7 hw4 c1 (isPlan_lt c2) hd (f_J9_max_7cf53 (σ 0 8) ((σ 0 7) + 1))
      have s2 := hrs _ _ _ _ _ hcr
      generalize rec pl.toNatClampNeg 0 (σ (4 + pl.toNatClampNeg) 3) (up2 (up2 σ 0 7 ((σ 0 7) + 1)) 0 8 (f_J9_max_7cf53 (σ 0 8) ((σ 0 7) + 1))) = o at s2
      have key : Sm n σ0 σ (up2 o.2 0 7 ((o.2 0 7) - 1)) := by
        refine ⟨⟨fun r hr => ?_, ?_, fun k h1 h2 => ?_⟩, ?_⟩
        · rw [up2_off _ _ (by decide)]; exact s2.1.1 r hr
        · rw [up2_row _ _ _ (by decide)]; exact s2.1.2.1
        · rw [← s2.1.2.2 k h1 h2]; funext j; rw [up2_off _ _ (by omega)]
        · rw [up2_self, s2.2, hcr.w7, hw7, nI_pred]
      exact Sm.ite key key
theorem Sm_doStep {n : Nat} {σ0 σ : Sg} {d wk p : Nat} {a b : Int32} {rec : RecT} (hrs : RS n σ0 d rec) (hPI : PI σ0) (hc : CR n σ0 d wk p (a + 1) b σ) : Sm n σ0 σ (F_X4_doStep rec p a b σ).2 := by
  have s0 := Sm.refl hc.di
  have s1 := (s0.up0 (i := 5) (by decide) ((σ 0 5) + 1)).trace (100 + (σ (10 + 3 * p + 0) a.toNatClampNeg))
  have t1 := hc.of s1
  have hi := fun w => s1.trans (Sm_doInside (w := w) hrs t1)
  have ht := fun hd => s1.trans (Sm_doTry (hd := hd) hrs t1)
  have hp := fun pl => s1.trans (Sm_doPlan (pl := pl) hrs hPI s1.1 t1.w7 t1.w4 t1.hd)
  have hs := fun kd w b => s1.withSafe kd w b
  have hr := fun kd a b => s1.withRooms kd a b
  have hv := fun kd a => s1.withValue kd a
  exact Sm.ite (Sm.ite (hi _) (Sm.ite (ht _) (Sm.ite (hs _ _ _) (Sm.ite (hs _ _ _) (Sm.ite (hs _ _ _) (Sm.ite (hr _ _ _) (Sm.ite (hr _ _ _) (Sm.ite (hs _ _ _) (Sm.ite (hv _ _) (Sm.ite (hv _ _) (Sm.ite (hv _ _) (Sm.ite (hv _ _) (Sm.ite (hp _) (Sm.ite (hr _ _ _) (hs _ _ _))))))))))))))) s0
theorem CR.lt {i b : Int32} (c : ¬ b ≤ i) : i.toInt < b.toInt := by
  rw [i_le] at c
  omega
theorem CR.vin {n : Nat} {σ0 : Sg} {d w p : Nat} {i b : Int32} {σ : Sg} (h : CR n σ0 d w p i b σ) (hPI : PI σ0) (c : ¬ b ≤ i) : vp_in i 12 := by
  have := CR.lt c
  have := (hPI p h.1).1
  exact vp_in_iff.mpr ⟨h.2.1, by have := h.2.2.1; omega⟩
theorem CR.val {n : Nat} {σ0 : Sg} {d w p : Nat} {i b : Int32} {σ : Sg} (h : CR n σ0 d w p i b σ) (hPI : PI σ0) (c : ¬ b ≤ i) : ¬ f_X4_isStep (σ (10 + 3 * p + 0) i.toNatClampNeg) (σ (10 + 3 * p + 1) i.toNatClampNeg) (σ (10 + 3 * p + 2) i.toNatClampNeg) = 0 := by
  have hp := h.1
  have e := fun q (hq : q < 3) => h.di.2.2 (10 + 3 * p + q) (by omega) (by omega)
  rw [e 0 (by decide), e 1 (by decide), e 2 (by decide)]
  refine (hPI p hp).2 _ ?_
  rw [nat_toInt h.2.1]
  have := CR.lt c
  have := h.2.2.1
  omega
theorem CR.succ {n : Nat} {σ0 : Sg} {d w p : Nat} {i b : Int32} {σ : Sg} (h : CR n σ0 d w p i b σ) (hPI : PI σ0) (c : ¬ b ≤ i) : CR n σ0 d w p (i + 1) b σ := by
  have h1 := CR.lt c
  have h2 := (hPI p h.1).1
  have h3 := h.2.2.1
  have h4 := h.2.1
  have e := toInt_succ (i := i) h.2.1 (by omega)
  refine ⟨h.1, by rw [e]; omega, h.2.2.1, h.di, h.w7, h.w4, ?_⟩
  have := h.2.2.2.2.2.2
  rw [e]
  omega
theorem CR.next {n : Nat} {σ0 : Sg} {d w p : Nat} {i b : Int32} {σ : Sg} (h : CR n σ0 (d + 1) w p i b σ) (hPI : PI σ0) (c : ¬ b ≤ i) : CR n σ0 d w p (i + 1) (f_X0_behind p i b σ) σ := by
  have h1 := CR.lt c
  have h2 := (hPI p h.1).1
  have h3 := h.2.2.1
  have h4 := h.2.1
  have e := toInt_succ (i := i) h.2.1 (by omega)
  have hb := behind_le (p := p) (σ := σ) h.2.1 h1 (by omega)
  refine ⟨h.1, by rw [e]; omega, by omega, h.di, h.w7, h.w4, ?_⟩
  have := h.2.2.2.2.2.2
  rw [e]
  omega
def lf_X4_doSteps (rec : RecT) : Nat → Nat → Int32 → Int32 → Int32 → Sg → Int32 × Sg
  | 0, _, _, _, _, σ => (0, σ)
  | m + 1, p, i, nx, b, σ => (if b ≤ i then (0, σ) else (if i = nx then (if (F_X4_doStep rec p i (f_X0_behind p i b σ) σ).1 = 0 then (lf_X4_doSteps rec m p (i + 1) (f_X0_behind p i b σ) b ((F_X4_doStep rec p i (f_X0_behind p i b σ) σ).2)) else ((F_X4_doStep rec p i (f_X0_behind p i b σ) σ).1, (F_X4_doStep rec p i (f_X0_behind p i b σ) σ).2)) else (lf_X4_doSteps rec m p (i + 1) nx b σ)))
set_option maxHeartbeats 4000000 in
theorem lp_X4_doSteps {x : Cx} {ad : Nat → Nat} {n : Nat} {rec : RecT} {σ0 : Sg} {d Lr : Nat} (hL : 10 ≤ Lr) (hrec : RC (xL x) (xG x) ad n σ0 d Lr rec) (hrs : RS n σ0 d rec) (hPI : PI σ0) {p wk : Nat} {a0 b : Int32} (hN : 28 ≤ n) (h : Ok x cX4_doSteps "SafeDesk" (some .int)) (hR : RmOk x (Lr + 3) 0 0) (e4 : xN x = 7) {out : Int32 × Sg} (hr : Rt x 0 0 (Det (some (.int out.1)) (wC (xG x) ad n out.2))) : ∀ (m : Nat) (i nx : Int32) (σ : Sg), CR n σ0 (d + 1) wk p i b σ → (b.toInt - i.toInt).toNat < m → lf_X4_doSteps rec m p i nx b σ = out → J x 0 0 (wC (xG x) ad n σ) 6 [(5, .int i), (4, .int nx), (0, .ref (ad 0)), (1, .ref (ad (4 + p))), (2, .int a0), (3, .int b)] [] := by
  intro m
  induction m with
  | zero => intro i nx σ hc hm ho; omega
  | succ m ih =>
    intro i nx σ hc hm ho
    unfold lf_X4_doSteps at ho
    refine J_iload (pc := 6) h 0 rfl dX4_doSteps_6 ?_
    refine J_iload_n (pc := 8) (n := 3) (i := 3) h 5 rfl rfl dX4_doSteps_8 ?_
    refine J_icmp_ge (pc := 9) h 53 (by decide) dX4_doSteps_9 (fun c1 => ?_) (fun hb => ?_)
    · replace ho := (if_pos c1).symm.trans ho
      refine J_iconst (pc := 53) h (0) rfl dX4_doSteps_53 ?_
      exact J_iret (pc := 54) h hr (by subst ho; exact ⟨rfl, rfl⟩) dX4_doSteps_54
    · replace ho := (if_neg hb).symm.trans ho
      refine J_iload (pc := 12) h 0 rfl dX4_doSteps_12 ?_
      refine J_iload (pc := 14) h 1 rfl dX4_doSteps_14 ?_
      refine J_icmp_ne (pc := 16) h 47 (by decide) dX4_doSteps_16 (fun c2 => ?_) (fun c2 => ?_)
      · replace ho := (if_neg c2).symm.trans ho
        refine J_iinc (pc := 47) h 0 (i + 1) [(5, .int (i + 1)), (4, .int nx), (0, .ref (ad 0)), (1, .ref (ad (4 + p))), (2, .int a0), (3, .int b)] rfl rfl (by rw [e4]; decide) rfl dX4_doSteps_47 ?_
        refine J_goto (pc := 50) h 6 (by decide) dX4_doSteps_50 ?_
        exact ih (i + 1) nx σ (hc.succ hPI hb) (by have := CR.lt hb; have := toInt_succ (i := i) hc.2.1 (by have := (hPI p hc.1).1; have := hc.2.2.1; omega); omega) ho
      · replace ho := (if_pos c2).symm.trans ho
        refine J_aload_n (pc := 19) (n := 1) (i := 1) h 3 rfl rfl dX4_doSteps_19 ?_
        refine J_iload (pc := 20) h 0 rfl dX4_doSteps_20 ?_
        refine J_iload_n (pc := 22) (n := 3) (i := 3) h 5 rfl rfl dX4_doSteps_22 ?_
        refine J_cP (pc := 23) h hR hc.1 (by omega) (c_X0_behind _ _ ad n σ p i b hc.1 hN (hc.vin hPI hb)) (by decide) m_189 m_190 m_191 m_192 ⟨rfl, hd_X0_behind⟩ (by omega) rfl rfl (Nat.le_of_ble_eq_true rfl) [.int (f_X0_behind p i b σ)] rfl dX4_doSteps_23 ?_
        refine J_istore (pc := 26) h [(4, .int (f_X0_behind p i b σ)), (5, .int i), (0, .ref (ad 0)), (1, .ref (ad (4 + p))), (2, .int a0), (3, .int b)] (by rw [e4]; decide) rfl dX4_doSteps_26 ?_
        refine J_aload_n (pc := 28) (n := 0) (i := 0) h 2 rfl rfl dX4_doSteps_28 ?_
        refine J_aload_n (pc := 29) (n := 1) (i := 1) h 3 rfl rfl dX4_doSteps_29 ?_
        refine J_iload (pc := 30) h 1 rfl dX4_doSteps_30 ?_
        refine J_iload (pc := 32) h 0 rfl dX4_doSteps_32 ?_
        refine J_cD (pc := 34) h hR (by omega) (c_X4_doStep _ _ ad n rec σ0 d Lr hL hrec hrs hPI σ p i (f_X0_behind p i b σ) hN wk (hc.next hPI hb) (hc.vin hPI hb) (hc.val hPI hb)) (by decide) m_196 m_198 ms_2 m_199 ⟨rfl, hd_X4_doStep⟩ (by omega) rfl rfl (Nat.le_of_ble_eq_true rfl) [.int ((F_X4_doStep rec p i (f_X0_behind p i b σ) σ).1)] rfl dX4_doSteps_34 ?_
        refine J_istore (pc := 37) h [(6, .int ((F_X4_doStep rec p i (f_X0_behind p i b σ) σ).1)), (4, .int (f_X0_behind p i b σ)), (5, .int i), (0, .ref (ad 0)), (1, .ref (ad (4 + p))), (2, .int a0), (3, .int b)] (by rw [e4]; decide) rfl dX4_doSteps_37 ?_
        refine J_iload (pc := 39) h 0 rfl dX4_doSteps_39 ?_
        refine J_if_eq (pc := 41) h 47 (by decide) dX4_doSteps_41 (fun c3 => ?_) (fun c3 => ?_)
        · replace ho := (if_pos c3).symm.trans ho
          refine J_iinc (pc := 47) h 2 (i + 1) [(5, .int (i + 1)), (6, .int ((F_X4_doStep rec p i (f_X0_behind p i b σ) σ).1)), (4, .int (f_X0_behind p i b σ)), (0, .ref (ad 0)), (1, .ref (ad (4 + p))), (2, .int a0), (3, .int b)] rfl rfl (by rw [e4]; decide) rfl dX4_doSteps_47 ?_
          refine J_goto (pc := 50) h 6 (by decide) dX4_doSteps_50 ?_
          refine J_sub [(5, .int (i + 1)), (4, .int (f_X0_behind p i b σ)), (0, .ref (ad 0)), (1, .ref (ad (4 + p))), (2, .int a0), (3, .int b)] [0, 2, 3, 4, 5, 6] rfl ?_
          exact ih (i + 1) (f_X0_behind p i b σ) ((F_X4_doStep rec p i (f_X0_behind p i b σ) σ).2) ((hc.succ hPI hb).of (Sm_doStep hrs hPI (hc.next hPI hb))) (by have := CR.lt hb; have := toInt_succ (i := i) hc.2.1 (by have := (hPI p hc.1).1; have := hc.2.2.1; omega); omega) ho
        · replace ho := (if_neg c3).symm.trans ho
          refine J_iload (pc := 44) h 0 rfl dX4_doSteps_44 ?_
          exact J_iret (pc := 46) h hr (by subst ho; exact ⟨rfl, rfl⟩) dX4_doSteps_46
theorem Sm_lf {n : Nat} {σ0 : Sg} {d wk p : Nat} {b : Int32} {rec : RecT} (hrs : RS n σ0 d rec) (hPI : PI σ0) : ∀ (m : Nat) (i nx : Int32) (σ : Sg), CR n σ0 (d + 1) wk p i b σ → Sm n σ0 σ (lf_X4_doSteps rec m p i nx b σ).2 := by
  intro m
  induction m with
  | zero => intro i nx σ hc; exact Sm.refl hc.di
  | succ m ih =>
    intro i nx σ hc
    unfold lf_X4_doSteps
    by_cases hb : b ≤ i
    · rw [if_pos hb]; exact Sm.refl hc.di
    · rw [if_neg hb]
      have s := Sm_doStep (a := i) (b := f_X0_behind p i b σ) hrs hPI (hc.next hPI hb)
      refine Sm.ite ?_ (ih _ _ _ (hc.succ hPI hb))
      exact Sm.ite (s.trans (ih _ _ _ ((hc.succ hPI hb).of s))) s
/-- doSteps, for d levels -/
def gS : Nat → RecT
  | 0 => fun _ _ _ σ => (0, σ)
  | d + 1 => fun p a b σ => lf_X4_doSteps (gS d) 13 p a a b σ
theorem gS_RS {n : Nat} {σ0 : Sg} (hPI : PI σ0) : ∀ d, RS n σ0 d (gS d) := by
  intro d
  induction d with
  | zero => intro w p a b σ hc; exact absurd hc.2.2.2.2.2.2 (Nat.not_lt_zero _)
  | succ d ih => intro w p a b σ hc; exact Sm_lf ih hPI 13 a a σ hc
theorem gS_RC (l : Launch) (g : Gy) (ad : Nat → Nat) {n : Nat} {σ0 : Sg} (hN : 28 ≤ n) (hPI : PI σ0) : ∀ d, RC l g ad n σ0 d (10 + 3 * d) (gS d) := by
  intro d
  induction d with
  | zero => intro w p a b σ hc; exact absurd hc.2.2.2.2.2.2 (Nat.not_lt_zero _)
  | succ d ih =>
    intro w p a b σ hc
    refine Con.of (by decide) (Nat.le_of_ble_eq_true rfl) ?_
    intro x h e1 e2 e3 e4 e5 hr
    subst e1 e2
    have h : Ok x cX4_doSteps "SafeDesk" (some .int) := h
    have hR : RmOk x (10 + 3 * d + 3) 0 0 := RmOk.of (L := 10 + 3 * d + 3) (e3.trans (by rw [show 10 + 3 * (d + 1) = 10 + 3 * d + 3 by omega])) (Nat.le_refl _) (Nat.le_refl _)
    obtain ⟨out, ho⟩ : ∃ o, gS (d + 1) p a b σ = o := ⟨_, rfl⟩
    rw [ho] at hr
    show J x 0 0 _ 0 [(0, .ref (ad 0)), (1, .ref (ad (4 + p))), (2, .int a), (3, .int b)] []
    refine J_iload_n (pc := 0) (n := 2) (i := 2) h 2 rfl rfl dX4_doSteps_0 ?_
    refine J_istore (pc := 1) h [(4, .int a), (0, .ref (ad 0)), (1, .ref (ad (4 + p))), (2, .int a), (3, .int b)] (by rw [e4]; decide) rfl dX4_doSteps_1 ?_
    refine J_iload_n (pc := 3) (n := 2) (i := 2) h 3 rfl rfl dX4_doSteps_3 ?_
    refine J_istore (pc := 4) h [(5, .int a), (4, .int a), (0, .ref (ad 0)), (1, .ref (ad (4 + p))), (2, .int a), (3, .int b)] (by rw [e4]; decide) rfl dX4_doSteps_4 ?_
    exact lp_X4_doSteps (by omega) ih (gS_RS hPI d) hPI hN h hR e4 hr 13 a a σ hc (by have := (hPI p hc.1).1; have := hc.2.2.1; have := hc.2.1; omega) ho
