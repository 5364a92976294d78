def RC (l : Launch) (g : Gy) (ad : Nat → Nat) (n : Nat) (σ0 : Sg) (d Lr : Nat) (rec : RecT) : Prop := ∀ (w p : Nat) (a b : Int32) (σ : Sg), CR n σ0 d w p a b σ → Con l g yX4_doSteps cX4_doSteps 7 (some .int) (rmL Lr) [.ref (ad 0), .ref (ad (4 + p)), .int a, .int b] (wC g ad n σ) (Det (some (.int (rec p a b σ).1)) (wC g ad n (rec p a b σ).2))
theorem hd_X4_doSteps : yX4_doSteps.cls ≠ "java/lang/invoke/MethodHandle" ∧ yX4_doSteps.cls ≠ "java/lang/invoke/VarHandle" ∧ (parseMethodDescriptor yX4_doSteps.desc).map (fun d => d.parameters.length) = some 3 := by decide +kernel
theorem hd_X4_doStep : yX4_doStep.cls ≠ "java/lang/invoke/MethodHandle" ∧ yX4_doStep.cls ≠ "java/lang/invoke/VarHandle" ∧ (parseMethodDescriptor yX4_doStep.desc).map (fun d => d.parameters.length) = some 3 := by decide +kernel
theorem hd_X4_doInside : yX4_doInside.cls ≠ "java/lang/invoke/MethodHandle" ∧ yX4_doInside.cls ≠ "java/lang/invoke/VarHandle" ∧ (parseMethodDescriptor yX4_doInside.desc).map (fun d => d.parameters.length) = some 4 := by decide +kernel
theorem hd_X4_doTry : yX4_doTry.cls ≠ "java/lang/invoke/MethodHandle" ∧ yX4_doTry.cls ≠ "java/lang/invoke/VarHandle" ∧ (parseMethodDescriptor yX4_doTry.desc).map (fun d => d.parameters.length) = some 4 := by decide +kernel
theorem hd_X4_doPlan : yX4_doPlan.cls ≠ "java/lang/invoke/MethodHandle" ∧ yX4_doPlan.cls ≠ "java/lang/invoke/VarHandle" ∧ (parseMethodDescriptor yX4_doPlan.desc).map (fun d => d.parameters.length) = some 1 := by decide +kernel
def F_X4_doInside (rec : RecT) (w : Int32) (p : Nat) (a : Int32) (b : Int32) (σ : Sg) : Int32 × Sg := (if w = -1 then (1, σ) else ((rec p a b (f_X4_leaveInTrace 1 (f_X1_enter (28 + w.toNatClampNeg) σ))).1, f_X4_leaveInTrace 2 (f_X1_leave (28 + w.toNatClampNeg) ((rec p a b (f_X4_leaveInTrace 1 (f_X1_enter (28 + w.toNatClampNeg) σ))).2))))
set_option maxHeartbeats 4000000 in
set_option maxRecDepth 20000 in
theorem c_X4_doInside (l : Launch) (g : Gy) (ad : Nat → Nat) (n : Nat) (rec : RecT) (σ0 : Sg) (d Lr : Nat) (hL : 10 ≤ Lr) (hrec : RC l g ad n σ0 d Lr rec) (hrs : RS n σ0 d rec) (hPI : PI σ0) (σ : Sg) (w : Int32) (p : Nat) (a : Int32) (b : Int32) (hN : 28 ≤ n) (hw : w = -1 ∨ 28 + w.toNatClampNeg < n) (wk : Nat) (hc : CR n σ0 d wk p a b σ) : Con l g yX4_doInside cX4_doInside 6 (some .int) (rmL (Lr + 1)) [.ref (ad 0), va_rf (rfa ad w), .ref (ad (4 + p)), .int a, .int b] (wC g ad n σ) (Det (some (.int (F_X4_doInside rec w p a b σ).1)) (wC g ad n (F_X4_doInside rec w p a b σ).2)) := by
  refine Con.of (by decide) (by simp [lg_sl, rf_cat, ref_cat, int_cat]) ?_
  intro x h e1 e2 e3 e4 e5 hr
  subst e1 e2
  have h : Ok x cX4_doInside "SafeDesk" (some .int) := h
  have hR : RmOk x (Lr + 1) 0 0 := RmOk.of e3 (Nat.le_refl _) (Nat.le_refl _)
  obtain ⟨out, ho⟩ : ∃ o, F_X4_doInside rec w p a b σ = o := ⟨_, rfl⟩
  rw [ho] at hr
  unfold F_X4_doInside at ho
  rw [show lv_args 0 [.ref (ad 0), va_rf (rfa ad w), .ref (ad (4 + p)), .int a, .int b] = [(0, .ref (ad 0)), (1, va_rf (rfa ad w)), (2, .ref (ad (4 + p))), (3, .int a), (4, .int b)] from by simp [lv_args, rf_cat, ref_cat, int_cat]]
  refine J_aload_nq (pc := 0) (n := 1) (i := 1) h 1 rfl rfl dX4_doInside_0 ?_
  refine J_ifnonnullr (pc := 1) h 6 (by decide) dX4_doInside_1 (fun c1 => ?_) (fun c1 => ?_)
  · replace ho := (if_neg c1).symm.trans ho
    rw [rfa_ne c1]
    refine J_aload_n (pc := 6) (n := 1) (i := 1) h 1 rfl rfl dX4_doInside_6 ?_
    refine J_cU (pc := 7) (z := ⟨"SafeDesk$Safe", "enter", "()V"⟩) h hR (Nat.le_add_right _ _) (hw.resolve_left (by assumption)) (by omega) (c_X1_enter _ _ ad n σ (28 + w.toNatClampNeg)  (Nat.le_add_right _ _) (hw.resolve_left (by assumption)) ) (by decide) m_212 m_215 (Sels.of3 m_214 m_216 m_217) m_213 m_218 rfl hd_X1_enter rfl rfl (Nat.le_of_ble_eq_true rfl) [] rfl dX4_doInside_7 ?_
    refine J_aload_n (pc := 10) (n := 0) (i := 0) h 0 rfl rfl dX4_doInside_10 ?_
    refine J_iconst (pc := 11) h (1) rfl dX4_doInside_11 ?_
    refine J_cD (pc := 12) h hR (by omega) (c_X4_leaveInTrace _ _ ad n (f_X1_enter (28 + w.toNatClampNeg) σ) 1 hN  (show Sm n σ0 σ (f_X1_enter (28 + w.toNatClampNeg) σ) from ((Sm.refl hc.di).enter (by omega))).1.2.1.1) (by decide) m_200 m_202 ms_3 m_203 ⟨rfl, hd_X4_leaveInTrace⟩ (by omega) rfl rfl (Nat.le_of_ble_eq_true rfl) [] rfl dX4_doInside_12 ?_
    refine J_aload_n (pc := 15) (n := 0) (i := 0) h 0 rfl rfl dX4_doInside_15 ?_
    refine J_aload_n (pc := 16) (n := 2) (i := 2) h 2 rfl rfl dX4_doInside_16 ?_
    refine J_iload_n (pc := 17) (n := 3) (i := 3) h 3 rfl rfl dX4_doInside_17 ?_
    refine J_iload (pc := 18) h 4 rfl dX4_doInside_18 ?_
    have hcr : CR n σ0 d (wk) p a b (f_X4_leaveInTrace 1 (f_X1_enter (28 + w.toNatClampNeg) σ)) := hc.of (((Sm.refl hc.di).enter (by omega)).trace _)
    refine J_cD (pc := 20) h hR (by omega) (hrec _ p a b (f_X4_leaveInTrace 1 (f_X1_enter (28 + w.toNatClampNeg) σ)) hcr) (by decide) m_185 m_187 ms_1 m_188 ⟨rfl, hd_X4_doSteps⟩ (by omega) rfl rfl (Nat.le_of_ble_eq_true rfl) [.int ((rec p a b (f_X4_leaveInTrace 1 (f_X1_enter (28 + w.toNatClampNeg) σ))).1)] rfl dX4_doInside_20 ?_
    refine J_istore (pc := 23) h [(5, .int ((rec p a b (f_X4_leaveInTrace 1 (f_X1_enter (28 + w.toNatClampNeg) σ))).1)), (0, .ref (ad 0)), (1, .ref (ad (28 + w.toNatClampNeg))), (2, .ref (ad (4 + p))), (3, .int a), (4, .int b)] (by rw [e4]; decide) rfl dX4_doInside_23 ?_
    refine J_aload_n (pc := 25) (n := 1) (i := 1) h 2 rfl rfl dX4_doInside_25 ?_
    refine J_cU (pc := 26) (z := ⟨"SafeDesk$Safe", "leave", "()V"⟩) h hR (Nat.le_add_right _ _) (hw.resolve_left (by assumption)) (by omega) (c_X1_leave _ _ ad n ((rec p a b (f_X4_leaveInTrace 1 (f_X1_enter (28 + w.toNatClampNeg) σ))).2) (28 + w.toNatClampNeg)  (Nat.le_add_right _ _) (hw.resolve_left (by assumption)) ) (by decide) m_219 m_222 (Sels.of3 m_221 m_223 m_224) m_220 m_225 rfl hd_X1_leave rfl rfl (Nat.le_of_ble_eq_true rfl) [] rfl dX4_doInside_26 ?_
    refine J_aload_n (pc := 29) (n := 0) (i := 0) h 1 rfl rfl dX4_doInside_29 ?_
    refine J_iconst (pc := 30) h (2) rfl dX4_doInside_30 ?_
    refine J_cD (pc := 31) h hR (by omega) (c_X4_leaveInTrace _ _ ad n (f_X1_leave (28 + w.toNatClampNeg) ((rec p a b (f_X4_leaveInTrace 1 (f_X1_enter (28 + w.toNatClampNeg) σ))).2)) 2 hN  (show Sm n σ0 σ (f_X1_leave (28 + w.toNatClampNeg) ((rec p a b (f_X4_leaveInTrace 1 (f_X1_enter (28 + w.toNatClampNeg) σ))).2)) from (((((Sm.refl hc.di).enter (by omega)).trace _).trans (hrs _ p a b (f_X4_leaveInTrace 1 (f_X1_enter (28 + w.toNatClampNeg) σ)) hcr)).leave (by omega))).1.2.1.1) (by decide) m_200 m_202 ms_3 m_203 ⟨rfl, hd_X4_leaveInTrace⟩ (by omega) rfl rfl (Nat.le_of_ble_eq_true rfl) [] rfl dX4_doInside_31 ?_
    refine J_iload (pc := 34) h 0 rfl dX4_doInside_34 ?_
    exact J_iret (pc := 36) h hr (by subst ho; exact ⟨rfl, rfl⟩) dX4_doInside_36
  · replace ho := (if_pos c1).symm.trans ho
    refine J_iconst (pc := 4) h (1) rfl dX4_doInside_4 ?_
    exact J_iret (pc := 5) h hr (by subst ho; exact ⟨rfl, rfl⟩) dX4_doInside_5
def F_X4_doTry (rec : RecT) (hd : Int32) (p : Nat) (a : Int32) (b : Int32) (σ : Sg) : Int32 × Sg := (if (rec p a b σ).1 = 0 then ((rec p a b σ).1, (rec p a b σ).2) else (if (rec p a b σ).1 = (-1) then ((rec p a b σ).1, (rec p a b σ).2) else (if (rec p a b σ).1 = 40 then ((rec p a b σ).1, (rec p a b σ).2) else (if hd = 0 then (0, up2 ((rec p a b σ).2) 0 4 ((rec p a b σ).1)) else (if hd = (rec p a b σ).1 then (0, up2 ((rec p a b σ).2) 0 4 ((rec p a b σ).1)) else ((rec p a b σ).1, (rec p a b σ).2))))))
set_option maxHeartbeats 4000000 in
set_option maxRecDepth 20000 in
theorem c_X4_doTry (l : Launch) (g : Gy) (ad : Nat → Nat) (n : Nat) (rec : RecT) (σ0 : Sg) (d Lr : Nat) (hL : 10 ≤ Lr) (hrec : RC l g ad n σ0 d Lr rec) (hrs : RS n σ0 d rec) (hPI : PI σ0) (σ : Sg) (hd : Int32) (p : Nat) (a : Int32) (b : Int32) (hN : 28 ≤ n) (wk : Nat) (hc : CR n σ0 d wk p a b σ) : Con l g yX4_doTry cX4_doTry 6 (some .int) (rmL (Lr + 1)) [.ref (ad 0), .int hd, .ref (ad (4 + p)), .int a, .int b] (wC g ad n σ) (Det (some (.int (F_X4_doTry rec hd p a b σ).1)) (wC g ad n (F_X4_doTry rec hd p a b σ).2)) := by
  refine Con.of (by decide) (Nat.le_of_ble_eq_true rfl) ?_
  intro x h e1 e2 e3 e4 e5 hr
  subst e1 e2
  have h : Ok x cX4_doTry "SafeDesk" (some .int) := h
  have hR : RmOk x (Lr + 1) 0 0 := RmOk.of e3 (Nat.le_refl _) (Nat.le_refl _)
  obtain ⟨out, ho⟩ : ∃ o, F_X4_doTry rec hd p a b σ = o := ⟨_, rfl⟩
  rw [ho] at hr
  unfold F_X4_doTry at ho
  show J x 0 0 _ 0 [(0, .ref (ad 0)), (1, .int hd), (2, .ref (ad (4 + p))), (3, .int a), (4, .int b)] []
  refine J_aload_n (pc := 0) (n := 0) (i := 0) h 0 rfl rfl dX4_doTry_0 ?_
  refine J_aload_n (pc := 1) (n := 2) (i := 2) h 2 rfl rfl dX4_doTry_1 ?_
  refine J_iload_n (pc := 2) (n := 3) (i := 3) h 3 rfl rfl dX4_doTry_2 ?_
  refine J_iload (pc := 3) h 4 rfl dX4_doTry_3 ?_
  have hcr : CR n σ0 d (wk) p a b σ := hc.of (Sm.refl hc.di)
  refine J_cD (pc := 5) h hR (by omega) (hrec _ p a b σ hcr) (by decide) m_185 m_187 ms_1 m_188 ⟨rfl, hd_X4_doSteps⟩ (by omega) rfl rfl (Nat.le_of_ble_eq_true rfl) [.int ((rec p a b σ).1)] rfl dX4_doTry_5 ?_
  refine J_istore (pc := 8) h [(5, .int ((rec p a b σ).1)), (0, .ref (ad 0)), (1, .int hd), (2, .ref (ad (4 + p))), (3, .int a), (4, .int b)] (by rw [e4]; decide) rfl dX4_doTry_8 ?_
  refine J_iload (pc := 10) h 0 rfl dX4_doTry_10 ?_
  refine J_if_eq (pc := 12) h 28 (by decide) dX4_doTry_12 (fun c1 => ?_) (fun c1 => ?_)
  · replace ho := (if_pos c1).symm.trans ho
    refine J_iload (pc := 28) h 0 rfl dX4_doTry_28 ?_
    exact J_iret (pc := 30) h hr (by subst ho; exact ⟨rfl, rfl⟩) dX4_doTry_30
  · replace ho := (if_neg c1).symm.trans ho
    refine J_iload (pc := 15) h 0 rfl dX4_doTry_15 ?_
    refine J_iconst (pc := 17) h (-1) rfl dX4_doTry_17 ?_
    refine J_icmp_eq (pc := 18) h 28 (by decide) dX4_doTry_18 (fun c2 => ?_) (fun c2 => ?_)
    · replace ho := (if_pos c2).symm.trans ho
      refine J_iload (pc := 28) h 0 rfl dX4_doTry_28 ?_
      exact J_iret (pc := 30) h hr (by subst ho; exact ⟨rfl, rfl⟩) dX4_doTry_30
    · replace ho := (if_neg c2).symm.trans ho
      refine J_iload (pc := 21) h 0 rfl dX4_doTry_21 ?_
      refine J_bipush (pc := 23) h (40) rfl dX4_doTry_23 ?_
      refine J_icmp_ne (pc := 25) h 31 (by decide) dX4_doTry_25 (fun c3 => ?_) (fun c3 => ?_)
      · replace ho := (if_neg c3).symm.trans ho
        refine J_iload_n (pc := 31) (n := 1) (i := 1) h 2 rfl rfl dX4_doTry_31 ?_
        refine J_if_eq (pc := 32) h 44 (by decide) dX4_doTry_32 (fun c4 => ?_) (fun c4 => ?_)
        · replace ho := (if_pos c4).symm.trans ho
          refine J_aload_n (pc := 44) (n := 0) (i := 0) h 1 rfl rfl dX4_doTry_44 ?_
          refine J_iload (pc := 45) h 0 rfl dX4_doTry_45 ?_
          refine J_Dp4 (pc := 47) h (by omega) m_47 dX4_doTry_47 ?_
          refine J_iconst (pc := 50) h (0) rfl dX4_doTry_50 ?_
          exact J_iret (pc := 51) h hr (by subst ho; exact ⟨rfl, rfl⟩) dX4_doTry_51
        · replace ho := (if_neg c4).symm.trans ho
          refine J_iload_n (pc := 35) (n := 1) (i := 1) h 2 rfl rfl dX4_doTry_35 ?_
          refine J_iload (pc := 36) h 0 rfl dX4_doTry_36 ?_
          refine J_icmp_eq (pc := 38) h 44 (by decide) dX4_doTry_38 (fun c5 => ?_) (fun c5 => ?_)
          · replace ho := (if_pos c5).symm.trans ho
            refine J_aload_n (pc := 44) (n := 0) (i := 0) h 1 rfl rfl dX4_doTry_44 ?_
            refine J_iload (pc := 45) h 0 rfl dX4_doTry_45 ?_
            refine J_Dp4 (pc := 47) h (by omega) m_47 dX4_doTry_47 ?_
            refine J_iconst (pc := 50) h (0) rfl dX4_doTry_50 ?_
            exact J_iret (pc := 51) h hr (by subst ho; exact ⟨rfl, rfl⟩) dX4_doTry_51
          · replace ho := (if_neg c5).symm.trans ho
            refine J_iload (pc := 41) h 0 rfl dX4_doTry_41 ?_
            exact J_iret (pc := 43) h hr (by subst ho; exact ⟨rfl, rfl⟩) dX4_doTry_43
      · replace ho := (if_pos c3).symm.trans ho
        refine J_iload (pc := 28) h 0 rfl dX4_doTry_28 ?_
        exact J_iret (pc := 30) h hr (by subst ho; exact ⟨rfl, rfl⟩) dX4_doTry_30
theorem CR.w7 {n : Nat} {σ0 : Sg} {d w p : Nat} {a b : Int32} {σ : Sg} (h : CR n σ0 d w p a b σ) : σ 0 7 = nI w := h.2.2.2.2.1
theorem CR.w4 {n : Nat} {σ0 : Sg} {d w p : Nat} {a b : Int32} {σ : Sg} (h : CR n σ0 d w p a b σ) : w ≤ 4 := h.2.2.2.2.2.1
theorem CR.hd {n : Nat} {σ0 : Sg} {d w p : Nat} {a b : Int32} {σ : Sg} (h : CR n σ0 d w p a b σ) : (4 - w) * 13 ≤ d := by have := h.2.2.2.2.2.2; omega
theorem CR_plan {n : Nat} {σ0 σ : Sg} {d wk p : Nat} (hPI : PI σ0) (hD : DI n σ0 σ) (hw7 : σ 0 7 = nI wk) (hw4 : wk ≤ 4) (hlt : ¬ 4 ≤ σ 0 7) (hp : p < 6) (hd : (4 - wk) * 13 ≤ d) (v : Int32) : CR n σ0 d (wk + 1) p 0 (σ (4 + p) 3) (up2 (up2 σ 0 7 ((σ 0 7) + 1)) 0 8 v) := by
  have e : σ (4 + p) = σ0 (4 + p) := hD.2.2 (4 + p) (by omega) (by omega)
  have z := (hPI p hp).1
  rw [hw7, show (4 : Int32) = nI 4 from rfl] at hlt
  have hlt : wk < 4 := Nat.lt_of_not_le (fun q => hlt (nI_le q (by omega)))
  refine ⟨hp, by rw [ti0]; exact Int.le_refl 0, by rw [e]; exact Int.le_refl _, ⟨fun r hr => ?_, ?_, fun k h1 h2 => ?_⟩, ?_, by omega, ?_⟩
  · rw [up2_off _ _ (by decide), up2_off _ _ (by decide)]; exact hD.1 r hr
  · rw [up2_row _ _ _ (by decide), up2_row _ _ _ (by decide)]; exact hD.2.1
  · rw [← hD.2.2 k h1 h2]; funext j; rw [up2_off _ _ (by omega), up2_off _ _ (by omega)]
  · rw [up2_row _ _ _ (by decide), up2_self, hw7, nI_1]
  · rw [e, ti0]; omega
def F_X4_doPlan (rec : RecT) (pl : Int32) (σ : Sg) : Int32 × Sg := (if 4 ≤ σ 0 7 then (7, σ) else (if f_X4_isPlan pl = 0 then (7, σ) else (if (rec pl.toNatClampNeg 0 (σ (4 + pl.toNatClampNeg) 3) (up2 (up2 σ 0 7 ((σ 0 7) + 1)) 0 8 (f_J9_max_7cf53 (σ 0 8) ((σ 0 7) + 1)))).1 = (-1) then (0, up2 ((rec pl.toNatClampNeg 0 (σ (4 + pl.toNatClampNeg) 3) (up2 (up2 σ 0 7 ((σ 0 7) + 1)) 0 8 (f_J9_max_7cf53 (σ 0 8) ((σ 0 7) + 1)))).2) 0 7 ((((rec pl.toNatClampNeg 0 (σ (4 + pl.toNatClampNeg) 3) (up2 (up2 σ 0 7 ((σ 0 7) + 1)) 0 8 (f_J9_max_7cf53 (σ 0 8) ((σ 0 7) + 1)))).2) 0 7) - 1)) else ((rec pl.toNatClampNeg 0 (σ (4 + pl.toNatClampNeg) 3) (up2 (up2 σ 0 7 ((σ 0 7) + 1)) 0 8 (f_J9_max_7cf53 (σ 0 8) ((σ 0 7) + 1)))).1, up2 ((rec pl.toNatClampNeg 0 (σ (4 + pl.toNatClampNeg) 3) (up2 (up2 σ 0 7 ((σ 0 7) + 1)) 0 8 (f_J9_max_7cf53 (σ 0 8) ((σ 0 7) + 1)))).2) 0 7 ((((rec pl.toNatClampNeg 0 (σ (4 + pl.toNatClampNeg) 3) (up2 (up2 σ 0 7 ((σ 0 7) + 1)) 0 8 (f_J9_max_7cf53 (σ 0 8) ((σ 0 7) + 1)))).2) 0 7) - 1)))))
set_option maxHeartbeats 4000000 in
set_option maxRecDepth 20000 in
theorem c_X4_doPlan (l : Launch) (g : Gy) (ad : Nat → Nat) (n : Nat) (rec : RecT) (σ0 : Sg) (d Lr : Nat) (hL : 10 ≤ Lr) (hrec : RC l g ad n σ0 d Lr rec) (hrs : RS n σ0 d rec) (hPI : PI σ0) (σ : Sg) (pl : Int32) (hN : 28 ≤ n) (hD : DI n σ0 σ) (wk : Nat) (hw7 : σ 0 7 = nI wk) (hw4 : wk ≤ 4) (hd : (4 - wk) * 13 ≤ d) : Con l g yX4_doPlan cX4_doPlan 3 (some .int) (rmL (Lr + 1)) [.ref (ad 0), .int pl] (wC g ad n σ) (Det (some (.int (F_X4_doPlan rec pl σ).1)) (wC g ad n (F_X4_doPlan rec pl σ).2)) := by
  refine Con.of (by decide) (Nat.le_of_ble_eq_true rfl) ?_
  intro x h e1 e2 e3 e4 e5 hr
  subst e1 e2
  have h : Ok x cX4_doPlan "SafeDesk" (some .int) := h
  have hR : RmOk x (Lr + 1) 0 0 := RmOk.of e3 (Nat.le_refl _) (Nat.le_refl _)
  obtain ⟨out, ho⟩ : ∃ o, F_X4_doPlan rec pl σ = o := ⟨_, rfl⟩
  rw [ho] at hr
  unfold F_X4_doPlan at ho
  show J x 0 0 _ 0 [(0, .ref (ad 0)), (1, .int pl)] []
  refine J_aload_n (pc := 0) (n := 0) (i := 0) h 0 rfl rfl dX4_doPlan_0 ?_
  refine J_Dg7 (pc := 1) h (by omega) m_50 (σ 0 7) rfl dX4_doPlan_1 ?_
  refine J_iconst (pc := 4) h (4) rfl dX4_doPlan_4 ?_
  refine J_icmp_ge (pc := 5) h 15 (by decide) dX4_doPlan_5 (fun c1 => ?_) (fun c1 => ?_)
  · replace ho := (if_pos c1).symm.trans ho
    refine J_bipush (pc := 15) h (7) rfl dX4_doPlan_15 ?_
    exact J_iret (pc := 17) h hr (by subst ho; exact ⟨rfl, rfl⟩) dX4_doPlan_17
  · replace ho := (if_neg c1).symm.trans ho
    refine J_iload_n (pc := 8) (n := 1) (i := 1) h 1 rfl rfl dX4_doPlan_8 ?_
    refine J_cS (pc := 9) h hR (by omega) (c_X4_isPlan _ _ _ pl ) (by decide) m_151 m_152 m_1 m_153 hd_X4_isPlan rfl rfl (Nat.le_of_ble_eq_true rfl) [.int (f_X4_isPlan pl)] rfl dX4_doPlan_9 ?_
    refine J_if_ne (pc := 12) h 18 (by decide) dX4_doPlan_12 (fun c2 => ?_) (fun c2 => ?_)
    · replace ho := (if_neg c2).symm.trans ho
      refine J_aload_n (pc := 18) (n := 0) (i := 0) h 0 rfl rfl dX4_doPlan_18 ?_
      refine J_dup (pc := 19) h rfl dX4_doPlan_19 ?_
      refine J_Dg7 (pc := 20) h (by omega) m_50 (σ 0 7) rfl dX4_doPlan_20 ?_
      refine J_iconst (pc := 23) h (1) rfl dX4_doPlan_23 ?_
      refine J_iadd (pc := 24) h dX4_doPlan_24 ?_
      refine J_Dp7 (pc := 25) h (by omega) m_50 dX4_doPlan_25 ?_
      refine J_aload_n (pc := 28) (n := 0) (i := 0) h 0 rfl rfl dX4_doPlan_28 ?_
      refine J_aload_n (pc := 29) (n := 0) (i := 0) h 0 rfl rfl dX4_doPlan_29 ?_
      refine J_Dg8 (pc := 30) h (by omega) m_51 (σ 0 8) (up2_row _ _ _ (by decide)) dX4_doPlan_30 ?_
      refine J_aload_n (pc := 33) (n := 0) (i := 0) h 0 rfl rfl dX4_doPlan_33 ?_
      refine J_Dg7 (pc := 34) h (by omega) m_50 ((σ 0 7) + 1) (up2_self _ _ _ _) dX4_doPlan_34 ?_
      refine J_cS (pc := 37) h hR (by omega) (c_J9_max_7cf53 _ _ _ (σ 0 8) ((σ 0 7) + 1) ) (by decide) m_182 m_183 m_7 m_184 hd_J9_max_7cf53 rfl rfl (Nat.le_of_ble_eq_true rfl) [.int (f_J9_max_7cf53 (σ 0 8) ((σ 0 7) + 1)), .ref (ad 0)] rfl dX4_doPlan_37 ?_
      refine J_Dp8 (pc := 40) h (by omega) m_51 dX4_doPlan_40 ?_
      refine J_aload_n (pc := 43) (n := 0) (i := 0) h 0 rfl rfl dX4_doPlan_43 ?_
      refine J_aload_n (pc := 44) (n := 0) (i := 0) h 0 rfl rfl dX4_doPlan_44 ?_
      refine J_Dr1 (pc := 45) h (by omega) m_44 dX4_doPlan_45 ?_
      refine J_iload_n (pc := 48) (n := 1) (i := 1) h 1 rfl rfl dX4_doPlan_48 ?_
      refine J_Pa (pc := 49) h (by omega) (isPlan_in (by assumption)) dX4_doPlan_49 ?_
      refine J_iconst (pc := 50) h (0) rfl dX4_doPlan_50 ?_
      refine J_aload_n (pc := 51) (n := 0) (i := 0) h 0 rfl rfl dX4_doPlan_51 ?_
      refine J_Dr1 (pc := 52) h (by omega) m_44 dX4_doPlan_52 ?_
      refine J_iload_n (pc := 55) (n := 1) (i := 1) h 1 rfl rfl dX4_doPlan_55 ?_
      refine J_Pa (pc := 56) h (by omega) (isPlan_in (by assumption)) dX4_doPlan_56 ?_
      refine J_Pz (pc := 57) h (isPlan_lt (by assumption)) (by omega) m_32 (σ (4 + pl.toNatClampNeg) 3) ((up2_off _ _ (by omega)).trans (up2_off _ _ (by omega))) dX4_doPlan_57 ?_
      have hcr : CR n σ0 d (wk + 1) pl.toNatClampNeg 0 (σ (4 + pl.toNatClampNeg) 3) (up2 (up2 σ 0 7 ((σ 0 7) + 1)) 0 8 (f_J9_max_7cf53 (σ 0 8) ((σ 0 7) + 1))) := CR_plan hPI hD hw7 hw4 (by assumption) (isPlan_lt (by assumption)) hd _
      refine J_cD (pc := 60) h hR (by omega) (hrec _ pl.toNatClampNeg 0 (σ (4 + pl.toNatClampNeg) 3) (up2 (up2 σ 0 7 ((σ 0 7) + 1)) 0 8 (f_J9_max_7cf53 (σ 0 8) ((σ 0 7) + 1))) hcr) (by decide) m_185 m_187 ms_1 m_188 ⟨rfl, hd_X4_doSteps⟩ (by omega) rfl rfl (Nat.le_of_ble_eq_true rfl) [.int ((rec pl.toNatClampNeg 0 (σ (4 + pl.toNatClampNeg) 3) (up2 (up2 σ 0 7 ((σ 0 7) + 1)) 0 8 (f_J9_max_7cf53 (σ 0 8) ((σ 0 7) + 1)))).1)] rfl dX4_doPlan_60 ?_
      refine J_istore_n (pc := 63) (n := 2) (i := 2) h [(2, .int ((rec pl.toNatClampNeg 0 (σ (4 + pl.toNatClampNeg) 3) (up2 (up2 σ 0 7 ((σ 0 7) + 1)) 0 8 (f_J9_max_7cf53 (σ 0 8) ((σ 0 7) + 1)))).1)), (0, .ref (ad 0)), (1, .int pl)] rfl (by rw [e4]; decide) rfl dX4_doPlan_63 ?_
      refine J_aload_n (pc := 64) (n := 0) (i := 0) h 1 rfl rfl dX4_doPlan_64 ?_
      refine J_dup (pc := 65) h rfl dX4_doPlan_65 ?_
      refine J_Dg7 (pc := 66) h (by omega) m_50 (((rec pl.toNatClampNeg 0 (σ (4 + pl.toNatClampNeg) 3) (up2 (up2 σ 0 7 ((σ 0 7) + 1)) 0 8 (f_J9_max_7cf53 (σ 0 8) ((σ 0 7) + 1)))).2) 0 7) rfl dX4_doPlan_66 ?_
      refine J_iconst (pc := 69) h (1) rfl dX4_doPlan_69 ?_
      refine J_isub (pc := 70) h dX4_doPlan_70 ?_
      refine J_Dp7 (pc := 71) h (by omega) m_50 dX4_doPlan_71 ?_
      refine J_iload_n (pc := 74) (n := 2) (i := 2) h 0 rfl rfl dX4_doPlan_74 ?_
      refine J_iconst (pc := 75) h (-1) rfl dX4_doPlan_75 ?_
      refine J_icmp_ne (pc := 76) h 83 (by decide) dX4_doPlan_76 (fun c3 => ?_) (fun c3 => ?_)
      · replace ho := (if_neg c3).symm.trans ho
        refine J_iload_n (pc := 83) (n := 2) (i := 2) h 0 rfl rfl dX4_doPlan_83 ?_
        exact J_iret (pc := 84) h hr (by subst ho; exact ⟨rfl, rfl⟩) dX4_doPlan_84
      · replace ho := (if_pos c3).symm.trans ho
        refine J_iconst (pc := 79) h (0) rfl dX4_doPlan_79 ?_
        refine J_goto (pc := 80) h 84 (by decide) dX4_doPlan_80 ?_
        exact J_iret (pc := 84) h hr (by subst ho; exact ⟨rfl, rfl⟩) dX4_doPlan_84
    · replace ho := (if_pos c2).symm.trans ho
      refine J_bipush (pc := 15) h (7) rfl dX4_doPlan_15 ?_
      exact J_iret (pc := 17) h hr (by subst ho; exact ⟨rfl, rfl⟩) dX4_doPlan_17
def F_X4_doStep (rec : RecT) (p : Nat) (a : Int32) (b : Int32) (σ : Sg) : Int32 × Sg := (if σ 0 5 < 200 then (if σ (10 + 3 * p + 0) a.toNatClampNeg = 0 then ((F_X4_doInside rec (f_X4_safeIn (σ (10 + 3 * p + 1) a.toNatClampNeg) (f_X4_leaveInTrace (100 + (σ (10 + 3 * p + 0) a.toNatClampNeg)) (up2 σ 0 5 ((σ 0 5) + 1)))) p (a + 1) b (f_X4_leaveInTrace (100 + (σ (10 + 3 * p + 0) a.toNatClampNeg)) (up2 σ 0 5 ((σ 0 5) + 1)))).1, (F_X4_doInside rec (f_X4_safeIn (σ (10 + 3 * p + 1) a.toNatClampNeg) (f_X4_leaveInTrace (100 + (σ (10 + 3 * p + 0) a.toNatClampNeg)) (up2 σ 0 5 ((σ 0 5) + 1)))) p (a + 1) b (f_X4_leaveInTrace (100 + (σ (10 + 3 * p + 0) a.toNatClampNeg)) (up2 σ 0 5 ((σ 0 5) + 1)))).2) else (if σ (10 + 3 * p + 0) a.toNatClampNeg = 1 then ((F_X4_doTry rec (σ (10 + 3 * p + 1) a.toNatClampNeg) p (a + 1) b (f_X4_leaveInTrace (100 + (σ (10 + 3 * p + 0) a.toNatClampNeg)) (up2 σ 0 5 ((σ 0 5) + 1)))).1, (F_X4_doTry rec (σ (10 + 3 * p + 1) a.toNatClampNeg) p (a + 1) b (f_X4_leaveInTrace (100 + (σ (10 + 3 * p + 0) a.toNatClampNeg)) (up2 σ 0 5 ((σ 0 5) + 1)))).2) else (if σ (10 + 3 * p + 0) a.toNatClampNeg = 2 then ((f_X4_doWithSafe (σ (10 + 3 * p + 0) a.toNatClampNeg) (f_X4_safeIn (σ (10 + 3 * p + 1) a.toNatClampNeg) (f_X4_leaveInTrace (100 + (σ (10 + 3 * p + 0) a.toNatClampNeg)) (up2 σ 0 5 ((σ 0 5) + 1)))) ((f_X4_leaveInTrace (100 + (σ (10 + 3 * p + 0) a.toNatClampNeg)) (up2 σ 0 5 ((σ 0 5) + 1))) (10 + 3 * p + 2) a.toNatClampNeg) (f_X4_leaveInTrace (100 + (σ (10 + 3 * p + 0) a.toNatClampNeg)) (up2 σ 0 5 ((σ 0 5) + 1)))).1, (f_X4_doWithSafe (σ (10 + 3 * p + 0) a.toNatClampNeg) (f_X4_safeIn (σ (10 + 3 * p + 1) a.toNatClampNeg) (f_X4_leaveInTrace (100 + (σ (10 + 3 * p + 0) a.toNatClampNeg)) (up2 σ 0 5 ((σ 0 5) + 1)))) ((f_X4_leaveInTrace (100 + (σ (10 + 3 * p + 0) a.toNatClampNeg)) (up2 σ 0 5 ((σ 0 5) + 1))) (10 + 3 * p + 2) a.toNatClampNeg) (f_X4_leaveInTrace (100 + (σ (10 + 3 * p + 0) a.toNatClampNeg)) (up2 σ 0 5 ((σ 0 5) + 1)))).2) else (if σ (10 + 3 * p + 0) a.toNatClampNeg = 3 then ((f_X4_doWithSafe (σ (10 + 3 * p + 0) a.toNatClampNeg) (f_X4_safeIn (σ (10 + 3 * p + 1) a.toNatClampNeg) (f_X4_leaveInTrace (100 + (σ (10 + 3 * p + 0) a.toNatClampNeg)) (up2 σ 0 5 ((σ 0 5) + 1)))) ((f_X4_leaveInTrace (100 + (σ (10 + 3 * p + 0) a.toNatClampNeg)) (up2 σ 0 5 ((σ 0 5) + 1))) (10 + 3 * p + 2) a.toNatClampNeg) (f_X4_leaveInTrace (100 + (σ (10 + 3 * p + 0) a.toNatClampNeg)) (up2 σ 0 5 ((σ 0 5) + 1)))).1, (f_X4_doWithSafe (σ (10 + 3 * p + 0) a.toNatClampNeg) (f_X4_safeIn (σ (10 + 3 * p + 1) a.toNatClampNeg) (f_X4_leaveInTrace (100 + (σ (10 + 3 * p + 0) a.toNatClampNeg)) (up2 σ 0 5 ((σ 0 5) + 1)))) ((f_X4_leaveInTrace (100 + (σ (10 + 3 * p + 0) a.toNatClampNeg)) (up2 σ 0 5 ((σ 0 5) + 1))) (10 + 3 * p + 2) a.toNatClampNeg) (f_X4_leaveInTrace (100 + (σ (10 + 3 * p + 0) a.toNatClampNeg)) (up2 σ 0 5 ((σ 0 5) + 1)))).2) else (if σ (10 + 3 * p + 0) a.toNatClampNeg = 4 then ((f_X4_doWithSafe (σ (10 + 3 * p + 0) a.toNatClampNeg) (f_X4_safeIn (σ (10 + 3 * p + 1) a.toNatClampNeg) (f_X4_leaveInTrace (100 + (σ (10 + 3 * p + 0) a.toNatClampNeg)) (up2 σ 0 5 ((σ 0 5) + 1)))) ((f_X4_leaveInTrace (100 + (σ (10 + 3 * p + 0) a.toNatClampNeg)) (up2 σ 0 5 ((σ 0 5) + 1))) (10 + 3 * p + 2) a.toNatClampNeg) (f_X4_leaveInTrace (100 + (σ (10 + 3 * p + 0) a.toNatClampNeg)) (up2 σ 0 5 ((σ 0 5) + 1)))).1, (f_X4_doWithSafe (σ (10 + 3 * p + 0) a.toNatClampNeg) (f_X4_safeIn (σ (10 + 3 * p + 1) a.toNatClampNeg) (f_X4_leaveInTrace (100 + (σ (10 + 3 * p + 0) a.toNatClampNeg)) (up2 σ 0 5 ((σ 0 5) + 1)))) ((f_X4_leaveInTrace (100 + (σ (10 + 3 * p + 0) a.toNatClampNeg)) (up2 σ 0 5 ((σ 0 5) + 1))) (10 + 3 * p + 2) a.toNatClampNeg) (f_X4_leaveInTrace (100 + (σ (10 + 3 * p + 0) a.toNatClampNeg)) (up2 σ 0 5 ((σ 0 5) + 1)))).2) else (if σ (10 + 3 * p + 0) a.toNatClampNeg = 5 then ((f_X4_doWithRooms (σ (10 + 3 * p + 0) a.toNatClampNeg) (σ (10 + 3 * p + 1) a.toNatClampNeg) ((f_X4_leaveInTrace (100 + (σ (10 + 3 * p + 0) a.toNatClampNeg)) (up2 σ 0 5 ((σ 0 5) + 1))) (10 + 3 * p + 2) a.toNatClampNeg) (f_X4_leaveInTrace (100 + (σ (10 + 3 * p + 0) a.toNatClampNeg)) (up2 σ 0 5 ((σ 0 5) + 1)))).1, (f_X4_doWithRooms (σ (10 + 3 * p + 0) a.toNatClampNeg) (σ (10 + 3 * p + 1) a.toNatClampNeg) ((f_X4_leaveInTrace (100 + (σ (10 + 3 * p + 0) a.toNatClampNeg)) (up2 σ 0 5 ((σ 0 5) + 1))) (10 + 3 * p + 2) a.toNatClampNeg) (f_X4_leaveInTrace (100 + (σ (10 + 3 * p + 0) a.toNatClampNeg)) (up2 σ 0 5 ((σ 0 5) + 1)))).2) else (if σ (10 + 3 * p + 0) a.toNatClampNeg = 6 then ((f_X4_doWithRooms (σ (10 + 3 * p + 0) a.toNatClampNeg) (σ (10 + 3 * p + 1) a.toNatClampNeg) ((f_X4_leaveInTrace (100 + (σ (10 + 3 * p + 0) a.toNatClampNeg)) (up2 σ 0 5 ((σ 0 5) + 1))) (10 + 3 * p + 2) a.toNatClampNeg) (f_X4_leaveInTrace (100 + (σ (10 + 3 * p + 0) a.toNatClampNeg)) (up2 σ 0 5 ((σ 0 5) + 1)))).1, (f_X4_doWithRooms (σ (10 + 3 * p + 0) a.toNatClampNeg) (σ (10 + 3 * p + 1) a.toNatClampNeg) ((f_X4_leaveInTrace (100 + (σ (10 + 3 * p + 0) a.toNatClampNeg)) (up2 σ 0 5 ((σ 0 5) + 1))) (10 + 3 * p + 2) a.toNatClampNeg) (f_X4_leaveInTrace (100 + (σ (10 + 3 * p + 0) a.toNatClampNeg)) (up2 σ 0 5 ((σ 0 5) + 1)))).2) else (if σ (10 + 3 * p + 0) a.toNatClampNeg = 7 then ((f_X4_doWithSafe (σ (10 + 3 * p + 0) a.toNatClampNeg) (f_X4_safeIn (σ (10 + 3 * p + 1) a.toNatClampNeg) (f_X4_leaveInTrace (100 + (σ (10 + 3 * p + 0) a.toNatClampNeg)) (up2 σ 0 5 ((σ 0 5) + 1)))) ((f_X4_leaveInTrace (100 + (σ (10 + 3 * p + 0) a.toNatClampNeg)) (up2 σ 0 5 ((σ 0 5) + 1))) (10 + 3 * p + 2) a.toNatClampNeg) (f_X4_leaveInTrace (100 + (σ (10 + 3 * p + 0) a.toNatClampNeg)) (up2 σ 0 5 ((σ 0 5) + 1)))).1, (f_X4_doWithSafe (σ (10 + 3 * p + 0) a.toNatClampNeg) (f_X4_safeIn (σ (10 + 3 * p + 1) a.toNatClampNeg) (f_X4_leaveInTrace (100 + (σ (10 + 3 * p + 0) a.toNatClampNeg)) (up2 σ 0 5 ((σ 0 5) + 1)))) ((f_X4_leaveInTrace (100 + (σ (10 + 3 * p + 0) a.toNatClampNeg)) (up2 σ 0 5 ((σ 0 5) + 1))) (10 + 3 * p + 2) a.toNatClampNeg) (f_X4_leaveInTrace (100 + (σ (10 + 3 * p + 0) a.toNatClampNeg)) (up2 σ 0 5 ((σ 0 5) + 1)))).2) else (if σ (10 + 3 * p + 0) a.toNatClampNeg = 8 then ((f_X4_doWithValue (σ (10 + 3 * p + 0) a.toNatClampNeg) (σ (10 + 3 * p + 1) a.toNatClampNeg) (f_X4_leaveInTrace (100 + (σ (10 + 3 * p + 0) a.toNatClampNeg)) (up2 σ 0 5 ((σ 0 5) + 1)))).1, (f_X4_doWithValue (σ (10 + 3 * p + 0) a.toNatClampNeg) (σ (10 + 3 * p + 1) a.toNatClampNeg) (f_X4_leaveInTrace (100 + (σ (10 + 3 * p + 0) a.toNatClampNeg)) (up2 σ 0 5 ((σ 0 5) + 1)))).2) else (if σ (10 + 3 * p + 0) a.toNatClampNeg = 9 then ((f_X4_doWithValue (σ (10 + 3 * p + 0) a.toNatClampNeg) (σ (10 + 3 * p + 1) a.toNatClampNeg) (f_X4_leaveInTrace (100 + (σ (10 + 3 * p + 0) a.toNatClampNeg)) (up2 σ 0 5 ((σ 0 5) + 1)))).1, (f_X4_doWithValue (σ (10 + 3 * p + 0) a.toNatClampNeg) (σ (10 + 3 * p + 1) a.toNatClampNeg) (f_X4_leaveInTrace (100 + (σ (10 + 3 * p + 0) a.toNatClampNeg)) (up2 σ 0 5 ((σ 0 5) + 1)))).2) else (if σ (10 + 3 * p + 0) a.toNatClampNeg = 10 then ((f_X4_doWithValue (σ (10 + 3 * p + 0) a.toNatClampNeg) (σ (10 + 3 * p + 1) a.toNatClampNeg) (f_X4_leaveInTrace (100 + (σ (10 + 3 * p + 0) a.toNatClampNeg)) (up2 σ 0 5 ((σ 0 5) + 1)))).1, (f_X4_doWithValue (σ (10 + 3 * p + 0) a.toNatClampNeg) (σ (10 + 3 * p + 1) a.toNatClampNeg) (f_X4_leaveInTrace (100 + (σ (10 + 3 * p + 0) a.toNatClampNeg)) (up2 σ 0 5 ((σ 0 5) + 1)))).2) else (if σ (10 + 3 * p + 0) a.toNatClampNeg = 11 then ((f_X4_doWithValue (σ (10 + 3 * p + 0) a.toNatClampNeg) (σ (10 + 3 * p + 1) a.toNatClampNeg) (f_X4_leaveInTrace (100 + (σ (10 + 3 * p + 0) a.toNatClampNeg)) (up2 σ 0 5 ((σ 0 5) + 1)))).1, (f_X4_doWithValue (σ (10 + 3 * p + 0) a.toNatClampNeg) (σ (10 + 3 * p + 1) a.toNatClampNeg) (f_X4_leaveInTrace (100 + (σ (10 + 3 * p + 0) a.toNatClampNeg)) (up2 σ 0 5 ((σ 0 5) + 1)))).2) else (if σ (10 + 3 * p + 0) a.toNatClampNeg = 12 then ((F_X4_doPlan rec (σ (10 + 3 * p + 1) a.toNatClampNeg) (f_X4_leaveInTrace (100 + (σ (10 + 3 * p + 0) a.toNatClampNeg)) (up2 σ 0 5 ((σ 0 5) + 1)))).1, (F_X4_doPlan rec (σ (10 + 3 * p + 1) a.toNatClampNeg) (f_X4_leaveInTrace (100 + (σ (10 + 3 * p + 0) a.toNatClampNeg)) (up2 σ 0 5 ((σ 0 5) + 1)))).2) else (if σ (10 + 3 * p + 0) a.toNatClampNeg = 13 then ((f_X4_doWithRooms (σ (10 + 3 * p + 0) a.toNatClampNeg) (σ (10 + 3 * p + 1) a.toNatClampNeg) ((f_X4_leaveInTrace (100 + (σ (10 + 3 * p + 0) a.toNatClampNeg)) (up2 σ 0 5 ((σ 0 5) + 1))) (10 + 3 * p + 2) a.toNatClampNeg) (f_X4_leaveInTrace (100 + (σ (10 + 3 * p + 0) a.toNatClampNeg)) (up2 σ 0 5 ((σ 0 5) + 1)))).1, (f_X4_doWithRooms (σ (10 + 3 * p + 0) a.toNatClampNeg) (σ (10 + 3 * p + 1) a.toNatClampNeg) ((f_X4_leaveInTrace (100 + (σ (10 + 3 * p + 0) a.toNatClampNeg)) (up2 σ 0 5 ((σ 0 5) + 1))) (10 + 3 * p + 2) a.toNatClampNeg) (f_X4_leaveInTrace (100 + (σ (10 + 3 * p + 0) a.toNatClampNeg)) (up2 σ 0 5 ((σ 0 5) + 1)))).2) else ((f_X4_doWithSafe (σ (10 + 3 * p + 0) a.toNatClampNeg) (f_X4_safeIn (σ (10 + 3 * p + 1) a.toNatClampNeg) (f_X4_leaveInTrace (100 + (σ (10 + 3 * p + 0) a.toNatClampNeg)) (up2 σ 0 5 ((σ 0 5) + 1)))) ((f_X4_leaveInTrace (100 + (σ (10 + 3 * p + 0) a.toNatClampNeg)) (up2 σ 0 5 ((σ 0 5) + 1))) (10 + 3 * p + 2) a.toNatClampNeg) (f_X4_leaveInTrace (100 + (σ (10 + 3 * p + 0) a.toNatClampNeg)) (up2 σ 0 5 ((σ 0 5) + 1)))).1, (f_X4_doWithSafe (σ (10 + 3 * p + 0) a.toNatClampNeg) (f_X4_safeIn (σ (10 + 3 * p + 1) a.toNatClampNeg) (f_X4_leaveInTrace (100 + (σ (10 + 3 * p + 0) a.toNatClampNeg)) (up2 σ 0 5 ((σ 0 5) + 1)))) ((f_X4_leaveInTrace (100 + (σ (10 + 3 * p + 0) a.toNatClampNeg)) (up2 σ 0 5 ((σ 0 5) + 1))) (10 + 3 * p + 2) a.toNatClampNeg) (f_X4_leaveInTrace (100 + (σ (10 + 3 * p + 0) a.toNatClampNeg)) (up2 σ 0 5 ((σ 0 5) + 1)))).2))))))))))))))) else (40, σ))
set_option maxHeartbeats 4000000 in
set_option maxRecDepth 20000 in
theorem c_X4_doStep (l : Launch) (g : Gy) (ad : Nat → Nat) (n : Nat) (rec : RecT) (σ0 : Sg) (d Lr : Nat) (hL : 10 ≤ Lr) (hrec : RC l g ad n σ0 d Lr rec) (hrs : RS n σ0 d rec) (hPI : PI σ0) (σ : Sg) (p : Nat) (a : Int32) (b : Int32) (hN : 28 ≤ n) (wk : Nat) (hc : CR n σ0 d wk p (a + 1) b σ) (hat : vp_in a 12) (hv : ¬ f_X4_isStep (σ (10 + 3 * p + 0) a.toNatClampNeg) (σ (10 + 3 * p + 1) a.toNatClampNeg) (σ (10 + 3 * p + 2) a.toNatClampNeg) = 0) : Con l g yX4_doStep cX4_doStep 6 (some .int) (rmL (Lr + 2)) [.ref (ad 0), .ref (ad (4 + p)), .int a, .int b] (wC g ad n σ) (Det (some (.int (F_X4_doStep rec p a b σ).1)) (wC g ad n (F_X4_doStep rec p a b σ).2)) := by
  refine Con.of (by decide) (Nat.le_of_ble_eq_true rfl) ?_
  intro x h e1 e2 e3 e4 e5 hr
  subst e1 e2
  have h : Ok x cX4_doStep "SafeDesk" (some .int) := h
  have hR : RmOk x (Lr + 2) 0 0 := RmOk.of e3 (Nat.le_refl _) (Nat.le_refl _)
  obtain ⟨out, ho⟩ : ∃ o, F_X4_doStep rec p a b σ = o := ⟨_, rfl⟩
  rw [ho] at hr
  unfold F_X4_doStep at ho
  show J x 0 0 _ 0 [(0, .ref (ad 0)), (1, .ref (ad (4 + p))), (2, .int a), (3, .int b)] []
  refine J_aload_n (pc := 0) (n := 0) (i := 0) h 0 rfl rfl dX4_doStep_0 ?_
  refine J_Dg5 (pc := 1) h (by omega) m_48 (σ 0 5) rfl dX4_doStep_1 ?_
  refine J_sipush (pc := 4) h (200) rfl dX4_doStep_4 ?_
  refine J_icmp_lt (pc := 7) h 13 (by decide) dX4_doStep_7 (fun c1 => ?_) (fun c1 => ?_)
  · replace ho := (if_pos c1).symm.trans ho
    refine J_aload_n (pc := 13) (n := 0) (i := 0) h 0 rfl rfl dX4_doStep_13 ?_
    refine J_dup (pc := 14) h rfl dX4_doStep_14 ?_
    refine J_Dg5 (pc := 15) h (by omega) m_48 (σ 0 5) rfl dX4_doStep_15 ?_
    refine J_iconst (pc := 18) h (1) rfl dX4_doStep_18 ?_
    refine J_iadd (pc := 19) h dX4_doStep_19 ?_
    refine J_Dp5 (pc := 20) h (by omega) m_48 dX4_doStep_20 ?_
    refine J_aload_n (pc := 23) (n := 1) (i := 1) h 1 rfl rfl dX4_doStep_23 ?_
    refine J_Pr0 (pc := 24) h hc.1 (by omega) m_26 dX4_doStep_24 ?_
    refine J_iload_n (pc := 27) (n := 2) (i := 2) h 2 rfl rfl dX4_doStep_27 ?_
    refine J_Ia (pc := 28) h hc.1 (by decide) (by omega) hat (σ (10 + 3 * p + 0) a.toNatClampNeg) (up2_off _ _ (by omega)) dX4_doStep_28 ?_
    refine J_istore (pc := 29) h [(4, .int (σ (10 + 3 * p + 0) a.toNatClampNeg)), (0, .ref (ad 0)), (1, .ref (ad (4 + p))), (2, .int a), (3, .int b)] (by rw [e4]; decide) rfl dX4_doStep_29 ?_
    refine J_aload_n (pc := 31) (n := 1) (i := 1) h 2 rfl rfl dX4_doStep_31 ?_
    refine J_Pr1 (pc := 32) h hc.1 (by omega) m_28 dX4_doStep_32 ?_
    refine J_iload_n (pc := 35) (n := 2) (i := 2) h 3 rfl rfl dX4_doStep_35 ?_
    refine J_Ia (pc := 36) h hc.1 (by decide) (by omega) hat (σ (10 + 3 * p + 1) a.toNatClampNeg) (up2_off _ _ (by omega)) dX4_doStep_36 ?_
    refine J_istore (pc := 37) h [(5, .int (σ (10 + 3 * p + 1) a.toNatClampNeg)), (4, .int (σ (10 + 3 * p + 0) a.toNatClampNeg)), (0, .ref (ad 0)), (1, .ref (ad (4 + p))), (2, .int a), (3, .int b)] (by rw [e4]; decide) rfl dX4_doStep_37 ?_
    refine J_aload_n (pc := 39) (n := 0) (i := 0) h 2 rfl rfl dX4_doStep_39 ?_
    refine J_bipush (pc := 40) h (100) rfl dX4_doStep_40 ?_
    refine J_iload (pc := 42) h 1 rfl dX4_doStep_42 ?_
    refine J_iadd (pc := 44) h dX4_doStep_44 ?_
    refine J_cD (pc := 45) h hR (by omega) (c_X4_leaveInTrace _ _ ad n (up2 σ 0 5 ((σ 0 5) + 1)) (100 + (σ (10 + 3 * p + 0) a.toNatClampNeg)) hN  (show Sm n σ0 σ (up2 σ 0 5 ((σ 0 5) + 1)) from ((Sm.refl hc.di).up0 (by decide) _)).1.2.1.1) (by decide) m_200 m_202 ms_3 m_203 ⟨rfl, hd_X4_leaveInTrace⟩ (by omega) rfl rfl (Nat.le_of_ble_eq_true rfl) [] rfl dX4_doStep_45 ?_
    refine J_iload (pc := 48) h 1 rfl dX4_doStep_48 ?_
    by_cases c2 : σ (10 + 3 * p + 0) a.toNatClampNeg = 0
    · replace ho := (if_pos c2).symm.trans ho
      refine J_tabIn (pc := 50) h (0) 120 c2 (by decide) (by decide) rfl (by decide) dX4_doStep_50 ?_
      refine J_aload_n (pc := 120) (n := 0) (i := 0) h 2 rfl rfl dX4_doStep_120 ?_
      refine J_aload_n (pc := 121) (n := 0) (i := 0) h 2 rfl rfl dX4_doStep_121 ?_
      refine J_iload (pc := 122) h 0 rfl dX4_doStep_122 ?_
      refine J_cD (pc := 124) h hR (by omega) (c_X4_safeIn _ _ ad n (f_X4_leaveInTrace (100 + (σ (10 + 3 * p + 0) a.toNatClampNeg)) (up2 σ 0 5 ((σ 0 5) + 1))) (σ (10 + 3 * p + 1) a.toNatClampNeg) hN ) (by decide) m_204 m_206 ms_4 m_207 ⟨rfl, hd_X4_safeIn⟩ (by omega) rfl rfl (Nat.le_of_ble_eq_true rfl) [va_rf (rfa ad (f_X4_safeIn (σ (10 + 3 * p + 1) a.toNatClampNeg) (f_X4_leaveInTrace (100 + (σ (10 + 3 * p + 0) a.toNatClampNeg)) (up2 σ 0 5 ((σ 0 5) + 1))))), .ref (ad 0)] rfl dX4_doStep_124 ?_
      refine J_aload_n (pc := 127) (n := 1) (i := 1) h 3 rfl rfl dX4_doStep_127 ?_
      refine J_iload_n (pc := 128) (n := 2) (i := 2) h 4 rfl rfl dX4_doStep_128 ?_
      refine J_iconst (pc := 129) h (1) rfl dX4_doStep_129 ?_
      refine J_iadd (pc := 130) h dX4_doStep_130 ?_
      refine J_iload_n (pc := 131) (n := 3) (i := 3) h 5 rfl rfl dX4_doStep_131 ?_
      refine J_cD (pc := 132) h hR (by omega) (c_X4_doInside _ _ ad n rec σ0 d Lr hL hrec hrs hPI (f_X4_leaveInTrace (100 + (σ (10 + 3 * p + 0) a.toNatClampNeg)) (up2 σ 0 5 ((σ 0 5) + 1))) (f_X4_safeIn (σ (10 + 3 * p + 1) a.toNatClampNeg) (f_X4_leaveInTrace (100 + (σ (10 + 3 * p + 0) a.toNatClampNeg)) (up2 σ 0 5 ((σ 0 5) + 1)))) p (a + 1) b hN (safeIn_ok (show Sm n σ0 σ (f_X4_leaveInTrace (100 + (σ (10 + 3 * p + 0) a.toNatClampNeg)) (up2 σ 0 5 ((σ 0 5) + 1))) from (((Sm.refl hc.di).up0 (by decide) _).trace _)).1.1 _) wk (hc.of (show Sm n σ0 σ (f_X4_leaveInTrace (100 + (σ (10 + 3 * p + 0) a.toNatClampNeg)) (up2 σ 0 5 ((σ 0 5) + 1))) from (((Sm.refl hc.di).up0 (by decide) _).trace _)))) (by decide) m_208 m_210 ms_5 m_211 ⟨rfl, hd_X4_doInside⟩ (by omega) rfl rfl (Nat.le_of_ble_eq_true rfl) [.int ((F_X4_doInside rec (f_X4_safeIn (σ (10 + 3 * p + 1) a.toNatClampNeg) (f_X4_leaveInTrace (100 + (σ (10 + 3 * p + 0) a.toNatClampNeg)) (up2 σ 0 5 ((σ 0 5) + 1)))) p (a + 1) b (f_X4_leaveInTrace (100 + (σ (10 + 3 * p + 0) a.toNatClampNeg)) (up2 σ 0 5 ((σ 0 5) + 1)))).1)] rfl dX4_doStep_132 ?_
      exact J_iret (pc := 135) h hr (by subst ho; exact ⟨rfl, rfl⟩) dX4_doStep_135
    replace ho := (if_neg c2).symm.trans ho
    by_cases c3 : σ (10 + 3 * p + 0) a.toNatClampNeg = 1
    · replace ho := (if_pos c3).symm.trans ho
      refine J_tabIn (pc := 50) h (1) 136 c3 (by decide) (by decide) rfl (by decide) dX4_doStep_50 ?_
      refine J_aload_n (pc := 136) (n := 0) (i := 0) h 2 rfl rfl dX4_doStep_136 ?_
      refine J_iload (pc := 137) h 0 rfl dX4_doStep_137 ?_
      refine J_aload_n (pc := 139) (n := 1) (i := 1) h 3 rfl rfl dX4_doStep_139 ?_
      refine J_iload_n (pc := 140) (n := 2) (i := 2) h 4 rfl rfl dX4_doStep_140 ?_
      refine J_iconst (pc := 141) h (1) rfl dX4_doStep_141 ?_
      refine J_iadd (pc := 142) h dX4_doStep_142 ?_
      refine J_iload_n (pc := 143) (n := 3) (i := 3) h 5 rfl rfl dX4_doStep_143 ?_
      refine J_cD (pc := 144) h hR (by omega) (c_X4_doTry _ _ ad n rec σ0 d Lr hL hrec hrs hPI (f_X4_leaveInTrace (100 + (σ (10 + 3 * p + 0) a.toNatClampNeg)) (up2 σ 0 5 ((σ 0 5) + 1))) (σ (10 + 3 * p + 1) a.toNatClampNeg) p (a + 1) b hN wk (hc.of (show Sm n σ0 σ (f_X4_leaveInTrace (100 + (σ (10 + 3 * p + 0) a.toNatClampNeg)) (up2 σ 0 5 ((σ 0 5) + 1))) from (((Sm.refl hc.di).up0 (by decide) _).trace _)))) (by decide) m_226 m_228 ms_6 m_229 ⟨rfl, hd_X4_doTry⟩ (by omega) rfl rfl (Nat.le_of_ble_eq_true rfl) [.int ((F_X4_doTry rec (σ (10 + 3 * p + 1) a.toNatClampNeg) p (a + 1) b (f_X4_leaveInTrace (100 + (σ (10 + 3 * p + 0) a.toNatClampNeg)) (up2 σ 0 5 ((σ 0 5) + 1)))).1)] rfl dX4_doStep_144 ?_
      exact J_iret (pc := 147) h hr (by subst ho; exact ⟨rfl, rfl⟩) dX4_doStep_147
    replace ho := (if_neg c3).symm.trans ho
    by_cases c4 : σ (10 + 3 * p + 0) a.toNatClampNeg = 2
    · replace ho := (if_pos c4).symm.trans ho
      refine J_tabIn (pc := 50) h (2) 179 c4 (by decide) (by decide) rfl (by decide) dX4_doStep_50 ?_
      refine J_aload_n (pc := 179) (n := 0) (i := 0) h 2 rfl rfl dX4_doStep_179 ?_
      refine J_iload (pc := 180) h 1 rfl dX4_doStep_180 ?_
      refine J_aload_n (pc := 182) (n := 0) (i := 0) h 2 rfl rfl dX4_doStep_182 ?_
      refine J_iload (pc := 183) h 0 rfl dX4_doStep_183 ?_
      refine J_cD (pc := 185) h hR (by omega) (c_X4_safeIn _ _ ad n (f_X4_leaveInTrace (100 + (σ (10 + 3 * p + 0) a.toNatClampNeg)) (up2 σ 0 5 ((σ 0 5) + 1))) (σ (10 + 3 * p + 1) a.toNatClampNeg) hN ) (by decide) m_204 m_206 ms_4 m_207 ⟨rfl, hd_X4_safeIn⟩ (by omega) rfl rfl (Nat.le_of_ble_eq_true rfl) [va_rf (rfa ad (f_X4_safeIn (σ (10 + 3 * p + 1) a.toNatClampNeg) (f_X4_leaveInTrace (100 + (σ (10 + 3 * p + 0) a.toNatClampNeg)) (up2 σ 0 5 ((σ 0 5) + 1))))), .int (σ (10 + 3 * p + 0) a.toNatClampNeg), .ref (ad 0)] rfl dX4_doStep_185 ?_
      refine J_aload_n (pc := 188) (n := 1) (i := 1) h 3 rfl rfl dX4_doStep_188 ?_
      refine J_Pr2 (pc := 189) h hc.1 (by omega) m_30 dX4_doStep_189 ?_
      refine J_iload_n (pc := 192) (n := 2) (i := 2) h 4 rfl rfl dX4_doStep_192 ?_
      refine J_Ia (pc := 193) h hc.1 (by decide) (by omega) hat ((f_X4_leaveInTrace (100 + (σ (10 + 3 * p + 0) a.toNatClampNeg)) (up2 σ 0 5 ((σ 0 5) + 1))) (10 + 3 * p + 2) a.toNatClampNeg) rfl dX4_doStep_193 ?_
      refine J_cD (pc := 194) h hR (by omega) (c_X4_doWithSafe _ _ ad n (f_X4_leaveInTrace (100 + (σ (10 + 3 * p + 0) a.toNatClampNeg)) (up2 σ 0 5 ((σ 0 5) + 1))) (σ (10 + 3 * p + 0) a.toNatClampNeg) (f_X4_safeIn (σ (10 + 3 * p + 1) a.toNatClampNeg) (f_X4_leaveInTrace (100 + (σ (10 + 3 * p + 0) a.toNatClampNeg)) (up2 σ 0 5 ((σ 0 5) + 1)))) ((f_X4_leaveInTrace (100 + (σ (10 + 3 * p + 0) a.toNatClampNeg)) (up2 σ 0 5 ((σ 0 5) + 1))) (10 + 3 * p + 2) a.toNatClampNeg) hN  (safeIn_ok (show Sm n σ0 σ (f_X4_leaveInTrace (100 + (σ (10 + 3 * p + 0) a.toNatClampNeg)) (up2 σ 0 5 ((σ 0 5) + 1))) from (((Sm.refl hc.di).up0 (by decide) _).trace _)).1.1 _) (show Sm n σ0 σ (f_X4_leaveInTrace (100 + (σ (10 + 3 * p + 0) a.toNatClampNeg)) (up2 σ 0 5 ((σ 0 5) + 1))) from (((Sm.refl hc.di).up0 (by decide) _).trace _)).1.1) (by decide) m_249 m_251 ms_11 m_252 ⟨rfl, hd_X4_doWithSafe⟩ (by omega) rfl rfl (Nat.le_of_ble_eq_true rfl) [.int ((f_X4_doWithSafe (σ (10 + 3 * p + 0) a.toNatClampNeg) (f_X4_safeIn (σ (10 + 3 * p + 1) a.toNatClampNeg) (f_X4_leaveInTrace (100 + (σ (10 + 3 * p + 0) a.toNatClampNeg)) (up2 σ 0 5 ((σ 0 5) + 1)))) ((f_X4_leaveInTrace (100 + (σ (10 + 3 * p + 0) a.toNatClampNeg)) (up2 σ 0 5 ((σ 0 5) + 1))) (10 + 3 * p + 2) a.toNatClampNeg) (f_X4_leaveInTrace (100 + (σ (10 + 3 * p + 0) a.toNatClampNeg)) (up2 σ 0 5 ((σ 0 5) + 1)))).1)] rfl dX4_doStep_194 ?_
      exact J_iret (pc := 197) h hr (by subst ho; exact ⟨rfl, rfl⟩) dX4_doStep_197
    replace ho := (if_neg c4).symm.trans ho
    by_cases c5 : σ (10 + 3 * p + 0) a.toNatClampNeg = 3
    · replace ho := (if_pos c5).symm.trans ho
      refine J_tabIn (pc := 50) h (3) 179 c5 (by decide) (by decide) rfl (by decide) dX4_doStep_50 ?_
      refine J_aload_n (pc := 179) (n := 0) (i := 0) h 2 rfl rfl dX4_doStep_179 ?_
      refine J_iload (pc := 180) h 1 rfl dX4_doStep_180 ?_
      refine J_aload_n (pc := 182) (n := 0) (i := 0) h 2 rfl rfl dX4_doStep_182 ?_
      refine J_iload (pc := 183) h 0 rfl dX4_doStep_183 ?_
      refine J_cD (pc := 185) h hR (by omega) (c_X4_safeIn _ _ ad n (f_X4_leaveInTrace (100 + (σ (10 + 3 * p + 0) a.toNatClampNeg)) (up2 σ 0 5 ((σ 0 5) + 1))) (σ (10 + 3 * p + 1) a.toNatClampNeg) hN ) (by decide) m_204 m_206 ms_4 m_207 ⟨rfl, hd_X4_safeIn⟩ (by omega) rfl rfl (Nat.le_of_ble_eq_true rfl) [va_rf (rfa ad (f_X4_safeIn (σ (10 + 3 * p + 1) a.toNatClampNeg) (f_X4_leaveInTrace (100 + (σ (10 + 3 * p + 0) a.toNatClampNeg)) (up2 σ 0 5 ((σ 0 5) + 1))))), .int (σ (10 + 3 * p + 0) a.toNatClampNeg), .ref (ad 0)] rfl dX4_doStep_185 ?_
      refine J_aload_n (pc := 188) (n := 1) (i := 1) h 3 rfl rfl dX4_doStep_188 ?_
      refine J_Pr2 (pc := 189) h hc.1 (by omega) m_30 dX4_doStep_189 ?_
      refine J_iload_n (pc := 192) (n := 2) (i := 2) h 4 rfl rfl dX4_doStep_192 ?_
      refine J_Ia (pc := 193) h hc.1 (by decide) (by omega) hat ((f_X4_leaveInTrace (100 + (σ (10 + 3 * p + 0) a.toNatClampNeg)) (up2 σ 0 5 ((σ 0 5) + 1))) (10 + 3 * p + 2) a.toNatClampNeg) rfl dX4_doStep_193 ?_
      refine J_cD (pc := 194) h hR (by omega) (c_X4_doWithSafe _ _ ad n (f_X4_leaveInTrace (100 + (σ (10 + 3 * p + 0) a.toNatClampNeg)) (up2 σ 0 5 ((σ 0 5) + 1))) (σ (10 + 3 * p + 0) a.toNatClampNeg) (f_X4_safeIn (σ (10 + 3 * p + 1) a.toNatClampNeg) (f_X4_leaveInTrace (100 + (σ (10 + 3 * p + 0) a.toNatClampNeg)) (up2 σ 0 5 ((σ 0 5) + 1)))) ((f_X4_leaveInTrace (100 + (σ (10 + 3 * p + 0) a.toNatClampNeg)) (up2 σ 0 5 ((σ 0 5) + 1))) (10 + 3 * p + 2) a.toNatClampNeg) hN  (safeIn_ok (show Sm n σ0 σ (f_X4_leaveInTrace (100 + (σ (10 + 3 * p + 0) a.toNatClampNeg)) (up2 σ 0 5 ((σ 0 5) + 1))) from (((Sm.refl hc.di).up0 (by decide) _).trace _)).1.1 _) (show Sm n σ0 σ (f_X4_leaveInTrace (100 + (σ (10 + 3 * p + 0) a.toNatClampNeg)) (up2 σ 0 5 ((σ 0 5) + 1))) from (((Sm.refl hc.di).up0 (by decide) _).trace _)).1.1) (by decide) m_249 m_251 ms_11 m_252 ⟨rfl, hd_X4_doWithSafe⟩ (by omega) rfl rfl (Nat.le_of_ble_eq_true rfl) [.int ((f_X4_doWithSafe (σ (10 + 3 * p + 0) a.toNatClampNeg) (f_X4_safeIn (σ (10 + 3 * p + 1) a.toNatClampNeg) (f_X4_leaveInTrace (100 + (σ (10 + 3 * p + 0) a.toNatClampNeg)) (up2 σ 0 5 ((σ 0 5) + 1)))) ((f_X4_leaveInTrace (100 + (σ (10 + 3 * p + 0) a.toNatClampNeg)) (up2 σ 0 5 ((σ 0 5) + 1))) (10 + 3 * p + 2) a.toNatClampNeg) (f_X4_leaveInTrace (100 + (σ (10 + 3 * p + 0) a.toNatClampNeg)) (up2 σ 0 5 ((σ 0 5) + 1)))).1)] rfl dX4_doStep_194 ?_
      exact J_iret (pc := 197) h hr (by subst ho; exact ⟨rfl, rfl⟩) dX4_doStep_197
    replace ho := (if_neg c5).symm.trans ho
    by_cases c6 : σ (10 + 3 * p + 0) a.toNatClampNeg = 4
    · replace ho := (if_pos c6).symm.trans ho
      refine J_tabIn (pc := 50) h (4) 179 c6 (by decide) (by decide) rfl (by decide) dX4_doStep_50 ?_
      refine J_aload_n (pc := 179) (n := 0) (i := 0) h 2 rfl rfl dX4_doStep_179 ?_
      refine J_iload (pc := 180) h 1 rfl dX4_doStep_180 ?_
      refine J_aload_n (pc := 182) (n := 0) (i := 0) h 2 rfl rfl dX4_doStep_182 ?_
      refine J_iload (pc := 183) h 0 rfl dX4_doStep_183 ?_
      refine J_cD (pc := 185) h hR (by omega) (c_X4_safeIn _ _ ad n (f_X4_leaveInTrace (100 + (σ (10 + 3 * p + 0) a.toNatClampNeg)) (up2 σ 0 5 ((σ 0 5) + 1))) (σ (10 + 3 * p + 1) a.toNatClampNeg) hN ) (by decide) m_204 m_206 ms_4 m_207 ⟨rfl, hd_X4_safeIn⟩ (by omega) rfl rfl (Nat.le_of_ble_eq_true rfl) [va_rf (rfa ad (f_X4_safeIn (σ (10 + 3 * p + 1) a.toNatClampNeg) (f_X4_leaveInTrace (100 + (σ (10 + 3 * p + 0) a.toNatClampNeg)) (up2 σ 0 5 ((σ 0 5) + 1))))), .int (σ (10 + 3 * p + 0) a.toNatClampNeg), .ref (ad 0)] rfl dX4_doStep_185 ?_
      refine J_aload_n (pc := 188) (n := 1) (i := 1) h 3 rfl rfl dX4_doStep_188 ?_
      refine J_Pr2 (pc := 189) h hc.1 (by omega) m_30 dX4_doStep_189 ?_
      refine J_iload_n (pc := 192) (n := 2) (i := 2) h 4 rfl rfl dX4_doStep_192 ?_
      refine J_Ia (pc := 193) h hc.1 (by decide) (by omega) hat ((f_X4_leaveInTrace (100 + (σ (10 + 3 * p + 0) a.toNatClampNeg)) (up2 σ 0 5 ((σ 0 5) + 1))) (10 + 3 * p + 2) a.toNatClampNeg) rfl dX4_doStep_193 ?_
      refine J_cD (pc := 194) h hR (by omega) (c_X4_doWithSafe _ _ ad n (f_X4_leaveInTrace (100 + (σ (10 + 3 * p + 0) a.toNatClampNeg)) (up2 σ 0 5 ((σ 0 5) + 1))) (σ (10 + 3 * p + 0) a.toNatClampNeg) (f_X4_safeIn (σ (10 + 3 * p + 1) a.toNatClampNeg) (f_X4_leaveInTrace (100 + (σ (10 + 3 * p + 0) a.toNatClampNeg)) (up2 σ 0 5 ((σ 0 5) + 1)))) ((f_X4_leaveInTrace (100 + (σ (10 + 3 * p + 0) a.toNatClampNeg)) (up2 σ 0 5 ((σ 0 5) + 1))) (10 + 3 * p + 2) a.toNatClampNeg) hN  (safeIn_ok (show Sm n σ0 σ (f_X4_leaveInTrace (100 + (σ (10 + 3 * p + 0) a.toNatClampNeg)) (up2 σ 0 5 ((σ 0 5) + 1))) from (((Sm.refl hc.di).up0 (by decide) _).trace _)).1.1 _) (show Sm n σ0 σ (f_X4_leaveInTrace (100 + (σ (10 + 3 * p + 0) a.toNatClampNeg)) (up2 σ 0 5 ((σ 0 5) + 1))) from (((Sm.refl hc.di).up0 (by decide) _).trace _)).1.1) (by decide) m_249 m_251 ms_11 m_252 ⟨rfl, hd_X4_doWithSafe⟩ (by omega) rfl rfl (Nat.le_of_ble_eq_true rfl) [.int ((f_X4_doWithSafe (σ (10 + 3 * p + 0) a.toNatClampNeg) (f_X4_safeIn (σ (10 + 3 * p + 1) a.toNatClampNeg) (f_X4_leaveInTrace (100 + (σ (10 + 3 * p + 0) a.toNatClampNeg)) (up2 σ 0 5 ((σ 0 5) + 1)))) ((f_X4_leaveInTrace (100 + (σ (10 + 3 * p + 0) a.toNatClampNeg)) (up2 σ 0 5 ((σ 0 5) + 1))) (10 + 3 * p + 2) a.toNatClampNeg) (f_X4_leaveInTrace (100 + (σ (10 + 3 * p + 0) a.toNatClampNeg)) (up2 σ 0 5 ((σ 0 5) + 1)))).1)] rfl dX4_doStep_194 ?_
      exact J_iret (pc := 197) h hr (by subst ho; exact ⟨rfl, rfl⟩) dX4_doStep_197
    replace ho := (if_neg c6).symm.trans ho
    by_cases c7 : σ (10 + 3 * p + 0) a.toNatClampNeg = 5
    · replace ho := (if_pos c7).symm.trans ho
      refine J_tabIn (pc := 50) h (5) 164 c7 (by decide) (by decide) rfl (by decide) dX4_doStep_50 ?_
      refine J_aload_n (pc := 164) (n := 0) (i := 0) h 2 rfl rfl dX4_doStep_164 ?_
      refine J_iload (pc := 165) h 1 rfl dX4_doStep_165 ?_
      refine J_iload (pc := 167) h 0 rfl dX4_doStep_167 ?_
      refine J_aload_n (pc := 169) (n := 1) (i := 1) h 3 rfl rfl dX4_doStep_169 ?_
      refine J_Pr2 (pc := 170) h hc.1 (by omega) m_30 dX4_doStep_170 ?_
      refine J_iload_n (pc := 173) (n := 2) (i := 2) h 4 rfl rfl dX4_doStep_173 ?_
      refine J_Ia (pc := 174) h hc.1 (by decide) (by omega) hat ((f_X4_leaveInTrace (100 + (σ (10 + 3 * p + 0) a.toNatClampNeg)) (up2 σ 0 5 ((σ 0 5) + 1))) (10 + 3 * p + 2) a.toNatClampNeg) rfl dX4_doStep_174 ?_
      refine J_cD (pc := 175) h hR (by omega) (c_X4_doWithRooms _ _ ad n (f_X4_leaveInTrace (100 + (σ (10 + 3 * p + 0) a.toNatClampNeg)) (up2 σ 0 5 ((σ 0 5) + 1))) (σ (10 + 3 * p + 0) a.toNatClampNeg) (σ (10 + 3 * p + 1) a.toNatClampNeg) ((f_X4_leaveInTrace (100 + (σ (10 + 3 * p + 0) a.toNatClampNeg)) (up2 σ 0 5 ((σ 0 5) + 1))) (10 + 3 * p + 2) a.toNatClampNeg) hN  (show Sm n σ0 σ (f_X4_leaveInTrace (100 + (σ (10 + 3 * p + 0) a.toNatClampNeg)) (up2 σ 0 5 ((σ 0 5) + 1))) from (((Sm.refl hc.di).up0 (by decide) _).trace _)).1.1 (fun _ _ => step_room hv (by first | exact Or.inl (by assumption) | exact Or.inr (Or.inl (by assumption)) | exact Or.inr (Or.inr (by assumption))))) (by decide) m_234 m_236 ms_8 m_237 ⟨rfl, hd_X4_doWithRooms⟩ (by omega) rfl rfl (Nat.le_of_ble_eq_true rfl) [.int ((f_X4_doWithRooms (σ (10 + 3 * p + 0) a.toNatClampNeg) (σ (10 + 3 * p + 1) a.toNatClampNeg) ((f_X4_leaveInTrace (100 + (σ (10 + 3 * p + 0) a.toNatClampNeg)) (up2 σ 0 5 ((σ 0 5) + 1))) (10 + 3 * p + 2) a.toNatClampNeg) (f_X4_leaveInTrace (100 + (σ (10 + 3 * p + 0) a.toNatClampNeg)) (up2 σ 0 5 ((σ 0 5) + 1)))).1)] rfl dX4_doStep_175 ?_
      exact J_iret (pc := 178) h hr (by subst ho; exact ⟨rfl, rfl⟩) dX4_doStep_178
    replace ho := (if_neg c7).symm.trans ho
    by_cases c8 : σ (10 + 3 * p + 0) a.toNatClampNeg = 6
    · replace ho := (if_pos c8).symm.trans ho
      refine J_tabIn (pc := 50) h (6) 164 c8 (by decide) (by decide) rfl (by decide) dX4_doStep_50 ?_
      refine J_aload_n (pc := 164) (n := 0) (i := 0) h 2 rfl rfl dX4_doStep_164 ?_
      refine J_iload (pc := 165) h 1 rfl dX4_doStep_165 ?_
      refine J_iload (pc := 167) h 0 rfl dX4_doStep_167 ?_
      refine J_aload_n (pc := 169) (n := 1) (i := 1) h 3 rfl rfl dX4_doStep_169 ?_
      refine J_Pr2 (pc := 170) h hc.1 (by omega) m_30 dX4_doStep_170 ?_
      refine J_iload_n (pc := 173) (n := 2) (i := 2) h 4 rfl rfl dX4_doStep_173 ?_
      refine J_Ia (pc := 174) h hc.1 (by decide) (by omega) hat ((f_X4_leaveInTrace (100 + (σ (10 + 3 * p + 0) a.toNatClampNeg)) (up2 σ 0 5 ((σ 0 5) + 1))) (10 + 3 * p + 2) a.toNatClampNeg) rfl dX4_doStep_174 ?_
      refine J_cD (pc := 175) h hR (by omega) (c_X4_doWithRooms _ _ ad n (f_X4_leaveInTrace (100 + (σ (10 + 3 * p + 0) a.toNatClampNeg)) (up2 σ 0 5 ((σ 0 5) + 1))) (σ (10 + 3 * p + 0) a.toNatClampNeg) (σ (10 + 3 * p + 1) a.toNatClampNeg) ((f_X4_leaveInTrace (100 + (σ (10 + 3 * p + 0) a.toNatClampNeg)) (up2 σ 0 5 ((σ 0 5) + 1))) (10 + 3 * p + 2) a.toNatClampNeg) hN  (show Sm n σ0 σ (f_X4_leaveInTrace (100 + (σ (10 + 3 * p + 0) a.toNatClampNeg)) (up2 σ 0 5 ((σ 0 5) + 1))) from (((Sm.refl hc.di).up0 (by decide) _).trace _)).1.1 (fun _ _ => step_room hv (by first | exact Or.inl (by assumption) | exact Or.inr (Or.inl (by assumption)) | exact Or.inr (Or.inr (by assumption))))) (by decide) m_234 m_236 ms_8 m_237 ⟨rfl, hd_X4_doWithRooms⟩ (by omega) rfl rfl (Nat.le_of_ble_eq_true rfl) [.int ((f_X4_doWithRooms (σ (10 + 3 * p + 0) a.toNatClampNeg) (σ (10 + 3 * p + 1) a.toNatClampNeg) ((f_X4_leaveInTrace (100 + (σ (10 + 3 * p + 0) a.toNatClampNeg)) (up2 σ 0 5 ((σ 0 5) + 1))) (10 + 3 * p + 2) a.toNatClampNeg) (f_X4_leaveInTrace (100 + (σ (10 + 3 * p + 0) a.toNatClampNeg)) (up2 σ 0 5 ((σ 0 5) + 1)))).1)] rfl dX4_doStep_175 ?_
      exact J_iret (pc := 178) h hr (by subst ho; exact ⟨rfl, rfl⟩) dX4_doStep_178
    replace ho := (if_neg c8).symm.trans ho
    by_cases c9 : σ (10 + 3 * p + 0) a.toNatClampNeg = 7
    · replace ho := (if_pos c9).symm.trans ho
      refine J_tabIn (pc := 50) h (7) 179 c9 (by decide) (by decide) rfl (by decide) dX4_doStep_50 ?_
      refine J_aload_n (pc := 179) (n := 0) (i := 0) h 2 rfl rfl dX4_doStep_179 ?_
      refine J_iload (pc := 180) h 1 rfl dX4_doStep_180 ?_
      refine J_aload_n (pc := 182) (n := 0) (i := 0) h 2 rfl rfl dX4_doStep_182 ?_
      refine J_iload (pc := 183) h 0 rfl dX4_doStep_183 ?_
      refine J_cD (pc := 185) h hR (by omega) (c_X4_safeIn _ _ ad n (f_X4_leaveInTrace (100 + (σ (10 + 3 * p + 0) a.toNatClampNeg)) (up2 σ 0 5 ((σ 0 5) + 1))) (σ (10 + 3 * p + 1) a.toNatClampNeg) hN ) (by decide) m_204 m_206 ms_4 m_207 ⟨rfl, hd_X4_safeIn⟩ (by omega) rfl rfl (Nat.le_of_ble_eq_true rfl) [va_rf (rfa ad (f_X4_safeIn (σ (10 + 3 * p + 1) a.toNatClampNeg) (f_X4_leaveInTrace (100 + (σ (10 + 3 * p + 0) a.toNatClampNeg)) (up2 σ 0 5 ((σ 0 5) + 1))))), .int (σ (10 + 3 * p + 0) a.toNatClampNeg), .ref (ad 0)] rfl dX4_doStep_185 ?_
      refine J_aload_n (pc := 188) (n := 1) (i := 1) h 3 rfl rfl dX4_doStep_188 ?_
      refine J_Pr2 (pc := 189) h hc.1 (by omega) m_30 dX4_doStep_189 ?_
      refine J_iload_n (pc := 192) (n := 2) (i := 2) h 4 rfl rfl dX4_doStep_192 ?_
      refine J_Ia (pc := 193) h hc.1 (by decide) (by omega) hat ((f_X4_leaveInTrace (100 + (σ (10 + 3 * p + 0) a.toNatClampNeg)) (up2 σ 0 5 ((σ 0 5) + 1))) (10 + 3 * p + 2) a.toNatClampNeg) rfl dX4_doStep_193 ?_
      refine J_cD (pc := 194) h hR (by omega) (c_X4_doWithSafe _ _ ad n (f_X4_leaveInTrace (100 + (σ (10 + 3 * p + 0) a.toNatClampNeg)) (up2 σ 0 5 ((σ 0 5) + 1))) (σ (10 + 3 * p + 0) a.toNatClampNeg) (f_X4_safeIn (σ (10 + 3 * p + 1) a.toNatClampNeg) (f_X4_leaveInTrace (100 + (σ (10 + 3 * p + 0) a.toNatClampNeg)) (up2 σ 0 5 ((σ 0 5) + 1)))) ((f_X4_leaveInTrace (100 + (σ (10 + 3 * p + 0) a.toNatClampNeg)) (up2 σ 0 5 ((σ 0 5) + 1))) (10 + 3 * p + 2) a.toNatClampNeg) hN  (safeIn_ok (show Sm n σ0 σ (f_X4_leaveInTrace (100 + (σ (10 + 3 * p + 0) a.toNatClampNeg)) (up2 σ 0 5 ((σ 0 5) + 1))) from (((Sm.refl hc.di).up0 (by decide) _).trace _)).1.1 _) (show Sm n σ0 σ (f_X4_leaveInTrace (100 + (σ (10 + 3 * p + 0) a.toNatClampNeg)) (up2 σ 0 5 ((σ 0 5) + 1))) from (((Sm.refl hc.di).up0 (by decide) _).trace _)).1.1) (by decide) m_249 m_251 ms_11 m_252 ⟨rfl, hd_X4_doWithSafe⟩ (by omega) rfl rfl (Nat.le_of_ble_eq_true rfl) [.int ((f_X4_doWithSafe (σ (10 + 3 * p + 0) a.toNatClampNeg) (f_X4_safeIn (σ (10 + 3 * p + 1) a.toNatClampNeg) (f_X4_leaveInTrace (100 + (σ (10 + 3 * p + 0) a.toNatClampNeg)) (up2 σ 0 5 ((σ 0 5) + 1)))) ((f_X4_leaveInTrace (100 + (σ (10 + 3 * p + 0) a.toNatClampNeg)) (up2 σ 0 5 ((σ 0 5) + 1))) (10 + 3 * p + 2) a.toNatClampNeg) (f_X4_leaveInTrace (100 + (σ (10 + 3 * p + 0) a.toNatClampNeg)) (up2 σ 0 5 ((σ 0 5) + 1)))).1)] rfl dX4_doStep_194 ?_
      exact J_iret (pc := 197) h hr (by subst ho; exact ⟨rfl, rfl⟩) dX4_doStep_197
    replace ho := (if_neg c9).symm.trans ho
    by_cases c10 : σ (10 + 3 * p + 0) a.toNatClampNeg = 8
    · replace ho := (if_pos c10).symm.trans ho
      refine J_tabIn (pc := 50) h (8) 155 c10 (by decide) (by decide) rfl (by decide) dX4_doStep_50 ?_
      refine J_aload_n (pc := 155) (n := 0) (i := 0) h 2 rfl rfl dX4_doStep_155 ?_
      refine J_iload (pc := 156) h 1 rfl dX4_doStep_156 ?_
      refine J_iload (pc := 158) h 0 rfl dX4_doStep_158 ?_
      refine J_cD (pc := 160) h hR (by omega) (c_X4_doWithValue _ _ ad n (f_X4_leaveInTrace (100 + (σ (10 + 3 * p + 0) a.toNatClampNeg)) (up2 σ 0 5 ((σ 0 5) + 1))) (σ (10 + 3 * p + 0) a.toNatClampNeg) (σ (10 + 3 * p + 1) a.toNatClampNeg) hN ) (by decide) m_230 m_232 ms_7 m_233 ⟨rfl, hd_X4_doWithValue⟩ (by omega) rfl rfl (Nat.le_of_ble_eq_true rfl) [.int ((f_X4_doWithValue (σ (10 + 3 * p + 0) a.toNatClampNeg) (σ (10 + 3 * p + 1) a.toNatClampNeg) (f_X4_leaveInTrace (100 + (σ (10 + 3 * p + 0) a.toNatClampNeg)) (up2 σ 0 5 ((σ 0 5) + 1)))).1)] rfl dX4_doStep_160 ?_
      exact J_iret (pc := 163) h hr (by subst ho; exact ⟨rfl, rfl⟩) dX4_doStep_163
    replace ho := (if_neg c10).symm.trans ho
    by_cases c11 : σ (10 + 3 * p + 0) a.toNatClampNeg = 9
    · replace ho := (if_pos c11).symm.trans ho
      refine J_tabIn (pc := 50) h (9) 155 c11 (by decide) (by decide) rfl (by decide) dX4_doStep_50 ?_
      refine J_aload_n (pc := 155) (n := 0) (i := 0) h 2 rfl rfl dX4_doStep_155 ?_
      refine J_iload (pc := 156) h 1 rfl dX4_doStep_156 ?_
      refine J_iload (pc := 158) h 0 rfl dX4_doStep_158 ?_
      refine J_cD (pc := 160) h hR (by omega) (c_X4_doWithValue _ _ ad n (f_X4_leaveInTrace (100 + (σ (10 + 3 * p + 0) a.toNatClampNeg)) (up2 σ 0 5 ((σ 0 5) + 1))) (σ (10 + 3 * p + 0) a.toNatClampNeg) (σ (10 + 3 * p + 1) a.toNatClampNeg) hN ) (by decide) m_230 m_232 ms_7 m_233 ⟨rfl, hd_X4_doWithValue⟩ (by omega) rfl rfl (Nat.le_of_ble_eq_true rfl) [.int ((f_X4_doWithValue (σ (10 + 3 * p + 0) a.toNatClampNeg) (σ (10 + 3 * p + 1) a.toNatClampNeg) (f_X4_leaveInTrace (100 + (σ (10 + 3 * p + 0) a.toNatClampNeg)) (up2 σ 0 5 ((σ 0 5) + 1)))).1)] rfl dX4_doStep_160 ?_
      exact J_iret (pc := 163) h hr (by subst ho; exact ⟨rfl, rfl⟩) dX4_doStep_163
    replace ho := (if_neg c11).symm.trans ho
    by_cases c12 : σ (10 + 3 * p + 0) a.toNatClampNeg = 10
    · replace ho := (if_pos c12).symm.trans ho
      refine J_tabIn (pc := 50) h (10) 155 c12 (by decide) (by decide) rfl (by decide) dX4_doStep_50 ?_
      refine J_aload_n (pc := 155) (n := 0) (i := 0) h 2 rfl rfl dX4_doStep_155 ?_
      refine J_iload (pc := 156) h 1 rfl dX4_doStep_156 ?_
      refine J_iload (pc := 158) h 0 rfl dX4_doStep_158 ?_
      refine J_cD (pc := 160) h hR (by omega) (c_X4_doWithValue _ _ ad n (f_X4_leaveInTrace (100 + (σ (10 + 3 * p + 0) a.toNatClampNeg)) (up2 σ 0 5 ((σ 0 5) + 1))) (σ (10 + 3 * p + 0) a.toNatClampNeg) (σ (10 + 3 * p + 1) a.toNatClampNeg) hN ) (by decide) m_230 m_232 ms_7 m_233 ⟨rfl, hd_X4_doWithValue⟩ (by omega) rfl rfl (Nat.le_of_ble_eq_true rfl) [.int ((f_X4_doWithValue (σ (10 + 3 * p + 0) a.toNatClampNeg) (σ (10 + 3 * p + 1) a.toNatClampNeg) (f_X4_leaveInTrace (100 + (σ (10 + 3 * p + 0) a.toNatClampNeg)) (up2 σ 0 5 ((σ 0 5) + 1)))).1)] rfl dX4_doStep_160 ?_
      exact J_iret (pc := 163) h hr (by subst ho; exact ⟨rfl, rfl⟩) dX4_doStep_163
    replace ho := (if_neg c12).symm.trans ho
    by_cases c13 : σ (10 + 3 * p + 0) a.toNatClampNeg = 11
    · replace ho := (if_pos c13).symm.trans ho
      refine J_tabIn (pc := 50) h (11) 155 c13 (by decide) (by decide) rfl (by decide) dX4_doStep_50 ?_
      refine J_aload_n (pc := 155) (n := 0) (i := 0) h 2 rfl rfl dX4_doStep_155 ?_
      refine J_iload (pc := 156) h 1 rfl dX4_doStep_156 ?_
      refine J_iload (pc := 158) h 0 rfl dX4_doStep_158 ?_
      refine J_cD (pc := 160) h hR (by omega) (c_X4_doWithValue _ _ ad n (f_X4_leaveInTrace (100 + (σ (10 + 3 * p + 0) a.toNatClampNeg)) (up2 σ 0 5 ((σ 0 5) + 1))) (σ (10 + 3 * p + 0) a.toNatClampNeg) (σ (10 + 3 * p + 1) a.toNatClampNeg) hN ) (by decide) m_230 m_232 ms_7 m_233 ⟨rfl, hd_X4_doWithValue⟩ (by omega) rfl rfl (Nat.le_of_ble_eq_true rfl) [.int ((f_X4_doWithValue (σ (10 + 3 * p + 0) a.toNatClampNeg) (σ (10 + 3 * p + 1) a.toNatClampNeg) (f_X4_leaveInTrace (100 + (σ (10 + 3 * p + 0) a.toNatClampNeg)) (up2 σ 0 5 ((σ 0 5) + 1)))).1)] rfl dX4_doStep_160 ?_
      exact J_iret (pc := 163) h hr (by subst ho; exact ⟨rfl, rfl⟩) dX4_doStep_163
    replace ho := (if_neg c13).symm.trans ho
    by_cases c14 : σ (10 + 3 * p + 0) a.toNatClampNeg = 12
    · replace ho := (if_pos c14).symm.trans ho
      refine J_tabIn (pc := 50) h (12) 148 c14 (by decide) (by decide) rfl (by decide) dX4_doStep_50 ?_
      refine J_aload_n (pc := 148) (n := 0) (i := 0) h 2 rfl rfl dX4_doStep_148 ?_
      refine J_iload (pc := 149) h 0 rfl dX4_doStep_149 ?_
      refine J_cD (pc := 151) h hR (by omega) (c_X4_doPlan _ _ ad n rec σ0 d Lr hL hrec hrs hPI (f_X4_leaveInTrace (100 + (σ (10 + 3 * p + 0) a.toNatClampNeg)) (up2 σ 0 5 ((σ 0 5) + 1))) (σ (10 + 3 * p + 1) a.toNatClampNeg) hN (show Sm n σ0 σ (f_X4_leaveInTrace (100 + (σ (10 + 3 * p + 0) a.toNatClampNeg)) (up2 σ 0 5 ((σ 0 5) + 1))) from (((Sm.refl hc.di).up0 (by decide) _).trace _)).1 wk ((show Sm n σ0 σ (f_X4_leaveInTrace (100 + (σ (10 + 3 * p + 0) a.toNatClampNeg)) (up2 σ 0 5 ((σ 0 5) + 1))) from (((Sm.refl hc.di).up0 (by decide) _).trace _)).2.trans hc.w7) hc.w4 hc.hd) (by decide) m_178 m_180 ms_0 m_181 ⟨rfl, hd_X4_doPlan⟩ (by omega) rfl rfl (Nat.le_of_ble_eq_true rfl) [.int ((F_X4_doPlan rec (σ (10 + 3 * p + 1) a.toNatClampNeg) (f_X4_leaveInTrace (100 + (σ (10 + 3 * p + 0) a.toNatClampNeg)) (up2 σ 0 5 ((σ 0 5) + 1)))).1)] rfl dX4_doStep_151 ?_
      exact J_iret (pc := 154) h hr (by subst ho; exact ⟨rfl, rfl⟩) dX4_doStep_154
    replace ho := (if_neg c14).symm.trans ho
    by_cases c15 : σ (10 + 3 * p + 0) a.toNatClampNeg = 13
    · replace ho := (if_pos c15).symm.trans ho
      refine J_tabIn (pc := 50) h (13) 164 c15 (by decide) (by decide) rfl (by decide) dX4_doStep_50 ?_
      refine J_aload_n (pc := 164) (n := 0) (i := 0) h 2 rfl rfl dX4_doStep_164 ?_
      refine J_iload (pc := 165) h 1 rfl dX4_doStep_165 ?_
      refine J_iload (pc := 167) h 0 rfl dX4_doStep_167 ?_
      refine J_aload_n (pc := 169) (n := 1) (i := 1) h 3 rfl rfl dX4_doStep_169 ?_
      refine J_Pr2 (pc := 170) h hc.1 (by omega) m_30 dX4_doStep_170 ?_
      refine J_iload_n (pc := 173) (n := 2) (i := 2) h 4 rfl rfl dX4_doStep_173 ?_
      refine J_Ia (pc := 174) h hc.1 (by decide) (by omega) hat ((f_X4_leaveInTrace (100 + (σ (10 + 3 * p + 0) a.toNatClampNeg)) (up2 σ 0 5 ((σ 0 5) + 1))) (10 + 3 * p + 2) a.toNatClampNeg) rfl dX4_doStep_174 ?_
      refine J_cD (pc := 175) h hR (by omega) (c_X4_doWithRooms _ _ ad n (f_X4_leaveInTrace (100 + (σ (10 + 3 * p + 0) a.toNatClampNeg)) (up2 σ 0 5 ((σ 0 5) + 1))) (σ (10 + 3 * p + 0) a.toNatClampNeg) (σ (10 + 3 * p + 1) a.toNatClampNeg) ((f_X4_leaveInTrace (100 + (σ (10 + 3 * p + 0) a.toNatClampNeg)) (up2 σ 0 5 ((σ 0 5) + 1))) (10 + 3 * p + 2) a.toNatClampNeg) hN  (show Sm n σ0 σ (f_X4_leaveInTrace (100 + (σ (10 + 3 * p + 0) a.toNatClampNeg)) (up2 σ 0 5 ((σ 0 5) + 1))) from (((Sm.refl hc.di).up0 (by decide) _).trace _)).1.1 (fun _ _ => step_room hv (by first | exact Or.inl (by assumption) | exact Or.inr (Or.inl (by assumption)) | exact Or.inr (Or.inr (by assumption))))) (by decide) m_234 m_236 ms_8 m_237 ⟨rfl, hd_X4_doWithRooms⟩ (by omega) rfl rfl (Nat.le_of_ble_eq_true rfl) [.int ((f_X4_doWithRooms (σ (10 + 3 * p + 0) a.toNatClampNeg) (σ (10 + 3 * p + 1) a.toNatClampNeg) ((f_X4_leaveInTrace (100 + (σ (10 + 3 * p + 0) a.toNatClampNeg)) (up2 σ 0 5 ((σ 0 5) + 1))) (10 + 3 * p + 2) a.toNatClampNeg) (f_X4_leaveInTrace (100 + (σ (10 + 3 * p + 0) a.toNatClampNeg)) (up2 σ 0 5 ((σ 0 5) + 1)))).1)] rfl dX4_doStep_175 ?_
      exact J_iret (pc := 178) h hr (by subst ho; exact ⟨rfl, rfl⟩) dX4_doStep_178
    replace ho := (if_neg c15).symm.trans ho
    refine J_tabOut (pc := 50) h 179 (by have zc2 := ne_toI c2 (n := 0) rfl; have zc3 := ne_toI c3 (n := 1) rfl; have zc4 := ne_toI c4 (n := 2) rfl; have zc5 := ne_toI c5 (n := 3) rfl; have zc6 := ne_toI c6 (n := 4) rfl; have zc7 := ne_toI c7 (n := 5) rfl; have zc8 := ne_toI c8 (n := 6) rfl; have zc9 := ne_toI c9 (n := 7) rfl; have zc10 := ne_toI c10 (n := 8) rfl; have zc11 := ne_toI c11 (n := 9) rfl; have zc12 := ne_toI c12 (n := 10) rfl; have zc13 := ne_toI c13 (n := 11) rfl; have zc14 := ne_toI c14 (n := 12) rfl; have zc15 := ne_toI c15 (n := 13) rfl; omega) (by decide) dX4_doStep_50 ?_
    refine J_aload_n (pc := 179) (n := 0) (i := 0) h 2 rfl rfl dX4_doStep_179 ?_
    refine J_iload (pc := 180) h 1 rfl dX4_doStep_180 ?_
    refine J_aload_n (pc := 182) (n := 0) (i := 0) h 2 rfl rfl dX4_doStep_182 ?_
    refine J_iload (pc := 183) h 0 rfl dX4_doStep_183 ?_
    refine J_cD (pc := 185) h hR (by omega) (c_X4_safeIn _ _ ad n (f_X4_leaveInTrace (100 + (σ (10 + 3 * p + 0) a.toNatClampNeg)) (up2 σ 0 5 ((σ 0 5) + 1))) (σ (10 + 3 * p + 1) a.toNatClampNeg) hN ) (by decide) m_204 m_206 ms_4 m_207 ⟨rfl, hd_X4_safeIn⟩ (by omega) rfl rfl (Nat.le_of_ble_eq_true rfl) [va_rf (rfa ad (f_X4_safeIn (σ (10 + 3 * p + 1) a.toNatClampNeg) (f_X4_leaveInTrace (100 + (σ (10 + 3 * p + 0) a.toNatClampNeg)) (up2 σ 0 5 ((σ 0 5) + 1))))), .int (σ (10 + 3 * p + 0) a.toNatClampNeg), .ref (ad 0)] rfl dX4_doStep_185 ?_
    refine J_aload_n (pc := 188) (n := 1) (i := 1) h 3 rfl rfl dX4_doStep_188 ?_
    refine J_Pr2 (pc := 189) h hc.1 (by omega) m_30 dX4_doStep_189 ?_
    refine J_iload_n (pc := 192) (n := 2) (i := 2) h 4 rfl rfl dX4_doStep_192 ?_
    refine J_Ia (pc := 193) h hc.1 (by decide) (by omega) hat ((f_X4_leaveInTrace (100 + (σ (10 + 3 * p + 0) a.toNatClampNeg)) (up2 σ 0 5 ((σ 0 5) + 1))) (10 + 3 * p + 2) a.toNatClampNeg) rfl dX4_doStep_193 ?_
    refine J_cD (pc := 194) h hR (by omega) (c_X4_doWithSafe _ _ ad n (f_X4_leaveInTrace (100 + (σ (10 + 3 * p + 0) a.toNatClampNeg)) (up2 σ 0 5 ((σ 0 5) + 1))) (σ (10 + 3 * p + 0) a.toNatClampNeg) (f_X4_safeIn (σ (10 + 3 * p + 1) a.toNatClampNeg) (f_X4_leaveInTrace (100 + (σ (10 + 3 * p + 0) a.toNatClampNeg)) (up2 σ 0 5 ((σ 0 5) + 1)))) ((f_X4_leaveInTrace (100 + (σ (10 + 3 * p + 0) a.toNatClampNeg)) (up2 σ 0 5 ((σ 0 5) + 1))) (10 + 3 * p + 2) a.toNatClampNeg) hN  (safeIn_ok (show Sm n σ0 σ (f_X4_leaveInTrace (100 + (σ (10 + 3 * p + 0) a.toNatClampNeg)) (up2 σ 0 5 ((σ 0 5) + 1))) from (((Sm.refl hc.di).up0 (by decide) _).trace _)).1.1 _) (show Sm n σ0 σ (f_X4_leaveInTrace (100 + (σ (10 + 3 * p + 0) a.toNatClampNeg)) (up2 σ 0 5 ((σ 0 5) + 1))) from (((Sm.refl hc.di).up0 (by decide) _).trace _)).1.1) (by decide) m_249 m_251 ms_11 m_252 ⟨rfl, hd_X4_doWithSafe⟩ (by omega) rfl rfl (Nat.le_of_ble_eq_true rfl) [.int ((f_X4_doWithSafe (σ (10 + 3 * p + 0) a.toNatClampNeg) (f_X4_safeIn (σ (10 + 3 * p + 1) a.toNatClampNeg) (f_X4_leaveInTrace (100 + (σ (10 + 3 * p + 0) a.toNatClampNeg)) (up2 σ 0 5 ((σ 0 5) + 1)))) ((f_X4_leaveInTrace (100 + (σ (10 + 3 * p + 0) a.toNatClampNeg)) (up2 σ 0 5 ((σ 0 5) + 1))) (10 + 3 * p + 2) a.toNatClampNeg) (f_X4_leaveInTrace (100 + (σ (10 + 3 * p + 0) a.toNatClampNeg)) (up2 σ 0 5 ((σ 0 5) + 1)))).1)] rfl dX4_doStep_194 ?_
    exact J_iret (pc := 197) h hr (by subst ho; exact ⟨rfl, rfl⟩) dX4_doStep_197
  · replace ho := (if_neg c1).symm.trans ho
    refine J_bipush (pc := 10) h (40) rfl dX4_doStep_10 ?_
    exact J_iret (pc := 12) h hr (by subst ho; exact ⟨rfl, rfl⟩) dX4_doStep_12
