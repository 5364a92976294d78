theorem blk_v {kd a v : Int32} (hv : ¬ f_X4_isStep kd a v = 0) (hk : kd = 0 ∨ kd = 1) : 1 ≤ v.toInt ∧ v.toInt ≤ 11 := by
  have key : ∀ q : Int32, ¬ (if q = 0 then (0 : Int32) else if f_X4_isBlock v = 0 then 0 else 1) = 0 → ¬ f_X4_isBlock v = 0 := by
    intro q h c
    apply h
    by_cases cq : q = 0
    · rw [if_pos cq]
    · rw [if_neg cq, if_pos c]
  have hb : ¬ f_X4_isBlock v = 0 := by
    rcases hk with rfl | rfl
    · exact key (f_X4_isRoom a) hv
    · exact key (f_X4_canBeHeld a) hv
  unfold f_X4_isBlock at hb
  by_cases c1 : v < 1
  · rw [if_pos c1] at hb; exact absurd rfl hb
  · by_cases c2 : (11 : Int32) < v
    · rw [if_neg c1, if_pos c2] at hb; exact absurd rfl hb
    · rw [i_lt, show (1 : Int32).toInt = 1 from rfl] at c1
      rw [i_lt, show (11 : Int32).toInt = 11 from rfl] at c2
      omega
theorem own_f {kd a v : Int32} (hv : ¬ f_X4_isStep kd a v = 0) (hk : kd = 9) : ¬ a = 0 ∧ ¬ a = -1 := by
  subst hk
  have hb : ¬ f_X4_isOwnFailure a = 0 := hv
  constructor
  · intro q
    rw [q] at hb
    exact hb (by decide)
  · intro q
    rw [q] at hb
    exact hb (by decide)
theorem behind_ge {p : Nat} {i b : Int32} {σ : Sg} (h0 : 0 ≤ i.toInt) (hb : i.toInt < b.toInt) (hb2 : b.toInt ≤ 12) (hv : ¬ f_X4_isStep (σ (10 + 3 * p + 0) i.toNatClampNeg) (σ (10 + 3 * p + 1) i.toNatClampNeg) (σ (10 + 3 * p + 2) i.toNatClampNeg) = 0) : (i + 1).toInt ≤ (f_X0_behind p i b σ).toInt := by
  have e := toInt_succ h0 (by omega)
  by_cases c : σ (10 + 3 * p + 0) i.toNatClampNeg = 0 ∨ σ (10 + 3 * p + 0) i.toNatClampNeg = 1
  · rw [behind_blk c]
    have hv2 := blk_v hv c
    have e2 : ((i + 1) + σ (10 + 3 * p + 2) i.toNatClampNeg).toInt = i.toInt + 1 + (σ (10 + 3 * p + 2) i.toNatClampNeg).toInt := by
      rw [Int32.toInt_add, e]
      exact bm32 (by omega) (by omega)
    unfold f_J9_min_7cf53
    split
    · omega
    · omega
  · rw [behind_one (fun q => c (Or.inl q)) (fun q => c (Or.inr q))]
    exact Int.le_refl _
theorem dsp_0 (rec : RecT) (p : Nat) (a b u v : Int32) (σ : Sg) : dsp rec p a b 0 u v σ = F_X4_doInside rec (f_X4_safeIn u σ) p (a + 1) b σ := by
  unfold dsp
  rw [if_pos rfl]
theorem dsp_1 (rec : RecT) (p : Nat) (a b u v : Int32) (σ : Sg) : dsp rec p a b 1 u v σ = F_X4_doTry rec u p (a + 1) b σ := by
  unfold dsp
  rw [if_neg (by decide), if_pos rfl]
theorem dsp_2 (rec : RecT) (p : Nat) (a b u v : Int32) (σ : Sg) : dsp rec p a b 2 u v σ = f_X4_doWithSafe 2 (f_X4_safeIn u σ) v σ := by
  unfold dsp
  rw [if_neg (by decide), if_neg (by decide), if_pos rfl]
theorem dsp_3 (rec : RecT) (p : Nat) (a b u v : Int32) (σ : Sg) : dsp rec p a b 3 u v σ = f_X4_doWithSafe 3 (f_X4_safeIn u σ) v σ := by
  unfold dsp
  rw [if_neg (by decide), if_neg (by decide), if_neg (by decide), if_pos rfl]
theorem dsp_4 (rec : RecT) (p : Nat) (a b u v : Int32) (σ : Sg) : dsp rec p a b 4 u v σ = f_X4_doWithSafe 4 (f_X4_safeIn u σ) v σ := by
  unfold dsp
  rw [if_neg (by decide), if_neg (by decide), if_neg (by decide), if_neg (by decide), if_pos rfl]
theorem dsp_5 (rec : RecT) (p : Nat) (a b u v : Int32) (σ : Sg) : dsp rec p a b 5 u v σ = f_X4_doWithRooms 5 u v σ := by
  unfold dsp
  rw [if_neg (by decide), if_neg (by decide), if_neg (by decide), if_neg (by decide), if_neg (by decide), if_pos rfl]
theorem dsp_6 (rec : RecT) (p : Nat) (a b u v : Int32) (σ : Sg) : dsp rec p a b 6 u v σ = f_X4_doWithRooms 6 u v σ := by
  unfold dsp
  rw [if_neg (by decide), if_neg (by decide), if_neg (by decide), if_neg (by decide), if_neg (by decide), if_neg (by decide), if_pos rfl]
theorem dsp_7 (rec : RecT) (p : Nat) (a b u v : Int32) (σ : Sg) : dsp rec p a b 7 u v σ = f_X4_doWithSafe 7 (f_X4_safeIn u σ) v σ := by
  unfold dsp
  rw [if_neg (by decide), if_neg (by decide), if_neg (by decide), if_neg (by decide), if_neg (by decide), if_neg (by decide), if_neg (by decide), if_pos rfl]
theorem dsp_8 (rec : RecT) (p : Nat) (a b u v : Int32) (σ : Sg) : dsp rec p a b 8 u v σ = f_X4_doWithValue 8 u σ := by
  unfold dsp
  rw [if_neg (by decide), if_neg (by decide), if_neg (by decide), if_neg (by decide), if_neg (by decide), if_neg (by decide), if_neg (by decide), if_neg (by decide), if_pos rfl]
theorem dsp_9 (rec : RecT) (p : Nat) (a b u v : Int32) (σ : Sg) : dsp rec p a b 9 u v σ = f_X4_doWithValue 9 u σ := by
  unfold dsp
  rw [if_neg (by decide), if_neg (by decide), if_neg (by decide), if_neg (by decide), if_neg (by decide), if_neg (by decide), if_neg (by decide), if_neg (by decide), if_neg (by decide), if_pos rfl]
theorem dsp_10 (rec : RecT) (p : Nat) (a b u v : Int32) (σ : Sg) : dsp rec p a b 10 u v σ = f_X4_doWithValue 10 u σ := by
  unfold dsp
  rw [if_neg (by decide), if_neg (by decide), if_neg (by decide), if_neg (by decide), if_neg (by decide), if_neg (by decide), if_neg (by decide), if_neg (by decide), if_neg (by decide), if_neg (by decide), if_pos rfl]
theorem dsp_11 (rec : RecT) (p : Nat) (a b u v : Int32) (σ : Sg) : dsp rec p a b 11 u v σ = f_X4_doWithValue 11 u σ := by
  unfold dsp
  rw [if_neg (by decide), if_neg (by decide), if_neg (by decide), if_neg (by decide), if_neg (by decide), if_neg (by decide), if_neg (by decide), if_neg (by decide), if_neg (by decide), if_neg (by decide), if_neg (by decide), if_pos rfl]
theorem dsp_12 (rec : RecT) (p : Nat) (a b u v : Int32) (σ : Sg) : dsp rec p a b 12 u v σ = F_X4_doPlan rec u σ := by
  unfold dsp
  rw [if_neg (by decide), if_neg (by decide), if_neg (by decide), if_neg (by decide), if_neg (by decide), if_neg (by decide), if_neg (by decide), if_neg (by decide), if_neg (by decide), if_neg (by decide), if_neg (by decide), if_neg (by decide), if_pos rfl]
theorem dsp_13 (rec : RecT) (p : Nat) (a b u v : Int32) (σ : Sg) : dsp rec p a b 13 u v σ = f_X4_doWithRooms 13 u v σ := by
  unfold dsp
  rw [if_neg (by decide), if_neg (by decide), if_neg (by decide), if_neg (by decide), if_neg (by decide), if_neg (by decide), if_neg (by decide), if_neg (by decide), if_neg (by decide), if_neg (by decide), if_neg (by decide), if_neg (by decide), if_neg (by decide), if_pos rfl]
theorem does_2 (u v : Int32) (τ : Sg) : f_X5_does 2 u v τ = f_X5_withSafe 2 (τ 7 u.toNatClampNeg) v τ := by
  unfold f_X5_does
  rw [if_neg (by decide), if_pos rfl]
theorem does_3 (u v : Int32) (τ : Sg) : f_X5_does 3 u v τ = f_X5_withSafe 3 (τ 7 u.toNatClampNeg) v τ := by
  unfold f_X5_does
  rw [if_neg (by decide), if_neg (by decide), if_pos rfl]
theorem does_4 (u v : Int32) (τ : Sg) : f_X5_does 4 u v τ = f_X5_withSafe 4 (τ 7 u.toNatClampNeg) v τ := by
  unfold f_X5_does
  rw [if_neg (by decide), if_neg (by decide), if_neg (by decide), if_pos rfl]
theorem does_7 (u v : Int32) (τ : Sg) : f_X5_does 7 u v τ = f_X5_withSafe 7 (τ 7 u.toNatClampNeg) v τ := by
  unfold f_X5_does
  rw [if_neg (by decide), if_neg (by decide), if_neg (by decide), if_neg (by decide), if_neg (by decide), if_neg (by decide), if_pos rfl]
section SIMS
variable {n : Nat} {σ0 : Sg} {d w p B : Nat} {b : Int32}
theorem sim_disp {i nx kd u v : Int32} {σs τ τs : Sg} (hPI : PI σ0) (hS : SIM n σ0 d) (hI : ITm B τ) (hv0 : ¬ f_X4_isStep kd u v = 0) (hcs : CR n σ0 d w p (i + 1) nx σs) (hrs : RR σs τs) (hms : MI σ0 B τs) (hss : Stk B τ τs) (hts : Tp B p (i + 1) b τs) (hge : (i + 1).toInt ≤ nx.toInt) (hbk : kd = 0 ∨ kd = 1 → nx = f_J9_min_7cf53 ((i + 1) + v) b) (hb1 : ¬ kd = 0 → ¬ kd = 1 → nx = i + 1) (hB : B + d + 1 < 78) (e : f_X5_it τ = f_X5_does kd u v τs) : OUT σ0 B τ (dsp (gS d) p i nx kd u v σs) nx := by
  have hn : nx = i + 1 → τs 15 B = nx := fun q => by rw [q]; exact hts.2.1
  rcases kd_cases hv0 with rfl | rfl | rfl | rfl | rfl | rfl | rfl | rfl | rfl | rfl | rfl | rfl | rfl | rfl
  · rw [dsp_0]
    have hu : vp_in u 8 := isRoom_in (fun q => hv0 (by show (if f_X4_isRoom u = 0 then (0 : Int32) else _) = 0; rw [if_pos q]))
    exact sim_enter hS hI hu hrs hms hss hts (hbk (Or.inl rfl)) hcs (by omega) hge e
  · rw [dsp_1]
    exact sim_try hS hI hrs hms hss hts (hbk (Or.inr rfl)) hcs (by omega) hge e
  · rw [dsp_2]
    exact sim_safe hI (Or.inl rfl) (step_rk 2 hv0 rfl (by decide)) hrs hms hss (hn (hb1 (by decide) (by decide))) (e.trans (does_2 _ _ _))
  · rw [dsp_3]
    exact sim_safe hI (Or.inr (Or.inl rfl)) (step_rk 3 hv0 rfl (by decide)) hrs hms hss (hn (hb1 (by decide) (by decide))) (e.trans (does_3 _ _ _))
  · rw [dsp_4]
    exact sim_safe hI (Or.inr (Or.inr (Or.inl rfl))) (step_rk 4 hv0 rfl (by decide)) hrs hms hss (hn (hb1 (by decide) (by decide))) (e.trans (does_4 _ _ _))
  · rw [dsp_5]
    exact sim_rooms hI (Or.inl rfl) (step_rk 5 hv0 rfl (by decide)) hrs hms hss (hn (hb1 (by decide) (by decide))) e
  · rw [dsp_6]
    exact sim_rooms hI (Or.inr (Or.inl rfl)) (step_rk 6 hv0 rfl (by decide)) hrs hms hss (hn (hb1 (by decide) (by decide))) e
  · rw [dsp_7]
    exact sim_safe hI (Or.inr (Or.inr (Or.inr rfl))) (step_rk 7 hv0 rfl (by decide)) hrs hms hss (hn (hb1 (by decide) (by decide))) (e.trans (does_7 _ _ _))
  · rw [dsp_8]
    exact sim_value hI (Or.inl rfl) (own_f hv0) hrs hms hss (hn (hb1 (by decide) (by decide))) e
  · rw [dsp_9]
    exact sim_value hI (Or.inr (Or.inl rfl)) (own_f hv0) hrs hms hss (hn (hb1 (by decide) (by decide))) e
  · rw [dsp_10]
    exact sim_value hI (Or.inr (Or.inr (Or.inl rfl))) (own_f hv0) hrs hms hss (hn (hb1 (by decide) (by decide))) e
  · rw [dsp_11]
    exact sim_value hI (Or.inr (Or.inr (Or.inr rfl))) (own_f hv0) hrs hms hss (hn (hb1 (by decide) (by decide))) e
  · rw [dsp_12]
    exact sim_plan hPI hS hI (step_pl hv0 rfl) hrs hms hss (hn (hb1 (by decide) (by decide))) hcs.di hcs.w7 hcs.w4 hcs.hd (by omega) e
  · rw [dsp_13]
    exact sim_rooms hI (Or.inr (Or.inr rfl)) (step_rk 13 hv0 rfl (by decide)) hrs hms hss (hn (hb1 (by decide) (by decide))) e
set_option maxHeartbeats 4000000 in
theorem sim_step {i : Int32} {σ τ : Sg} (hPI : PI σ0) (hS : SIM n σ0 d) (hc : CR n σ0 (d + 1) w p i b σ) (hb : ¬ b ≤ i) (hr : RR σ τ) (hm : MI σ0 B τ) (ht : Tp B p i b τ) (hB : B + d + 1 < 78) : OUT σ0 B τ (F_X4_doStep (gS d) p i (f_X0_behind p i b σ) σ) (f_X0_behind p i b σ) := by
  have hlt := CR.lt hb
  have hp := hc.1
  have h0 := hc.2.1
  have hz := (hPI p hp).1
  have h12 : b.toInt ≤ 12 := by have := hc.2.2.1; omega
  have hv := hc.val hPI hb
  have hnx := hc.next hPI hb
  have hge := behind_ge h0 hlt h12 hv
  have ne : ¬ i = b := fun q => by rw [q] at hlt; omega
  have er := fun q (hq : q < 3) => hc.di.2.2 (10 + 3 * p + q) (by omega) (by omega)
  have hv0 := hv
  rw [er 0 (by decide), er 1 (by decide), er 2 (by decide)] at hv0
  have hI : ITm B τ := IT_of hm (by omega) ht hp (fun _ => ⟨⟨h0, by omega⟩, hv0⟩)
  rw [doStep_eq]
  by_cases c2 : σ 0 5 < 200
  · rw [if_pos c2]
    have n2 : ¬ τ 0 13 = 200 := fun q => by rw [hr.2.2.2.2.2.1, q] at c2; exact absurd c2 (by decide)
    have e := it_step hm ht hp ne n2 h0 (by omega)
    have hrs : RR (sgS p i σ) (tgS B i (σ0 (10 + 3 * p + 0) i.toNatClampNeg) τ) := by
      have := hr.step (B := B) (i := i) (kd := σ (10 + 3 * p + 0) i.toNatClampNeg)
      rw [er 0 (by decide)] at this
      unfold sgS
      rw [er 0 (by decide)]
      exact this
    have hms : MI σ0 B (tgS B i (σ0 (10 + 3 * p + 0) i.toNatClampNeg) τ) := hm.step n2
    have hss : Stk B τ (tgS B i (σ0 (10 + 3 * p + 0) i.toNatClampNeg) τ) := Stk.step
    have hts : Tp B p (i + 1) b (tgS B i (σ0 (10 + 3 * p + 0) i.toNatClampNeg) τ) := ht.step
    have sm : Sm n σ0 σ (sgS p i σ) := ((Sm.refl hc.di).up0 (i := 5) (by decide) ((σ 0 5) + 1)).trace _
    have hcs := hnx.of sm
    have e2 : sgS p i σ (10 + 3 * p + 2) i.toNatClampNeg = σ0 (10 + 3 * p + 2) i.toNatClampNeg := by
      unfold sgS
      rw [tr_rows (by omega) (by omega), row_off (by omega), er 2 (by decide)]
    have hbk : ∀ q : σ0 (10 + 3 * p + 0) i.toNatClampNeg = 0 ∨ σ0 (10 + 3 * p + 0) i.toNatClampNeg = 1, f_X0_behind p i b σ = f_J9_min_7cf53 ((i + 1) + (σ0 (10 + 3 * p + 2) i.toNatClampNeg)) b := fun q => by
      rw [behind_blk (by rw [er 0 (by decide)]; exact q), er 2 (by decide)]
    have hb1 : ¬ σ0 (10 + 3 * p + 0) i.toNatClampNeg = 0 → ¬ σ0 (10 + 3 * p + 0) i.toNatClampNeg = 1 → f_X0_behind p i b σ = i + 1 := fun q1 q2 => behind_one (by rw [er 0 (by decide)]; exact q1) (by rw [er 0 (by decide)]; exact q2)
    rw [e2, er 0 (by decide), er 1 (by decide)]
    generalize sgS p i σ = σs at hrs hcs sm
    generalize f_X0_behind p i b σ = nx at hnx hge hcs hbk hb1
    generalize tgS B i (σ0 (10 + 3 * p + 0) i.toNatClampNeg) τ = τs at e hrs hms hss hts
    generalize σ0 (10 + 3 * p + 0) i.toNatClampNeg = kd at e hv0 hbk hb1
    generalize σ0 (10 + 3 * p + 1) i.toNatClampNeg = u at e hv0
    generalize σ0 (10 + 3 * p + 2) i.toNatClampNeg = v at e hv0 hbk
    exact sim_disp hPI hS hI hv0 hcs hrs hms hss hts hge hbk hb1 hB e
  · rw [if_neg c2]
    have e13 : τ 0 13 = 200 := by
      rw [hr.2.2.2.2.2.1, i_lt, show (200 : Int32).toInt = 200 from rfl] at c2
      exact Int32.toInt_inj.mp (by have := hm.2.2.2.2.2.2.1; rw [show (200 : Int32).toInt = 200 from rfl]; omega)
    exact OUT.fail hI (it_spent hm (by rw [ht.2.1, ht.2.2]; exact ne) e13) (show ¬ (40 : Int32) = 0 by decide) (show ¬ (40 : Int32) = -1 by decide) hr hm Stk.refl
theorem sim_loop (hPI : PI σ0) (hS : SIM n σ0 d) (hB : B + d + 1 < 78) : ∀ (m : Nat) (i nx : Int32) (σ τ : Sg), CR n σ0 (d + 1) w p i b σ → RR σ τ → MI σ0 B τ → Tp B p nx b τ → i.toInt ≤ nx.toInt → nx.toInt ≤ b.toInt → (b.toInt - i.toInt).toNat < m → OUT σ0 B τ (lf_X4_doSteps (gS d) m p i nx b σ) b := by
  intro m
  induction m with
  | zero => intro i nx σ τ hc hr hm ht h1 h2 hf; omega
  | succ m ih =>
    intro i nx σ τ hc hr hm ht h1 h2 hf
    unfold lf_X4_doSteps
    by_cases hb : b ≤ i
    · rw [if_pos hb]
      rw [i_le] at hb
      have e : nx = b := Int32.toInt_inj.mp (by omega)
      exact OUT.rch (m := 0) rfl rfl hr hm Stk.refl (by rw [ht.2.1]; exact e)
    · rw [if_neg hb]
      have hlt := CR.lt hb
      have hz := (hPI p hc.1).1
      have h12 : b.toInt ≤ 12 := by have := hc.2.2.1; omega
      have es := toInt_succ (i := i) hc.2.1 (by omega)
      by_cases c : i = nx
      · rw [if_pos c]
        subst c
        have o := sim_step hPI hS hc hb hr hm ht hB
        have smS := Sm_doStep (a := i) (b := f_X0_behind p i b σ) (gS_RS hPI d) hPI (hc.next hPI hb)
        have hge := behind_ge hc.2.1 hlt h12 (hc.val hPI hb)
        have hle := behind_le (p := p) (σ := σ) hc.2.1 hlt h12
        generalize F_X4_doStep (gS d) p i (f_X0_behind p i b σ) σ = r at o smS
        by_cases c0 : r.1 = 0
        · rw [if_pos c0]
          obtain ⟨k, t, hx, hr', hm', hs', h15⟩ := o.1 c0
          have ht' : Tp B p (f_X0_behind p i b σ) b t := ⟨by rw [(hs'.1 B (Nat.le_refl _)).2.1]; exact ht.1, h15, by rw [(hs'.1 B (Nat.le_refl _)).2.2.1]; exact ht.2.2⟩
          exact OUT.pre hx hs' (ih _ _ _ _ ((hc.succ hPI hb).of smS) hr' hm' ht' hge hle (by omega))
        · rw [if_neg c0]
          exact ⟨fun q => absurd q c0, o.2.1, o.2.2⟩
      · rw [if_neg c]
        have hne : i.toInt ≠ nx.toInt := fun q => c (Int32.toInt_inj.mp q)
        exact ih _ _ _ _ (hc.succ hPI hb) hr hm ht (by omega) h2 (by omega)
theorem SIM_all (hPI : PI σ0) : ∀ d, SIM n σ0 d := by
  intro d
  induction d with
  | zero => intro w p a b σ τ B hc; exact absurd hc.2.2.2.2.2.2 (Nat.not_lt_zero _)
  | succ d ih =>
    intro w p a b σ τ B hc hr hm ht hB hle
    exact sim_loop hPI ih (by omega) 13 a a σ τ hc hr hm ht (Int.le_refl _) hle (by have := (hPI p hc.1).1; have := hc.2.2.1; have := hc.2.1; omega)
end SIMS
