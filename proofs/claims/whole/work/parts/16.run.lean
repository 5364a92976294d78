theorem DI_run {n : Nat} {σ : Sg} (hI : RI n σ) (v : Int32) : DI n σ (up2 (up2 (up2 (up2 σ 0 4 v) 0 5 0) 0 3 0) 0 8 0) := by
  refine ⟨fun r hr => ?_, ?_, fun k h1 h2 => ?_⟩
  · rw [up2_off _ _ (by decide), up2_off _ _ (by decide), up2_off _ _ (by decide), up2_off _ _ (by decide)]; exact hI r hr
  · rw [up2_row _ _ _ (by decide), up2_self]; exact ⟨by decide, by decide⟩
  · funext j
    rw [up2_off _ _ (by omega), up2_off _ _ (by omega), up2_off _ _ (by omega), up2_off _ _ (by omega)]
def f_X4_run (pl : Int32) (v : Int32) (σ : Sg) : Int32 × Sg := (if f_X4_isPlan pl = 0 then ((-1), σ) else (if (F_X4_doPlan (gS 52) pl (up2 (up2 (up2 (up2 σ 0 4 v) 0 5 0) 0 3 0) 0 8 0)).1 = 0 then (1, up2 ((F_X4_doPlan (gS 52) pl (up2 (up2 (up2 (up2 σ 0 4 v) 0 5 0) 0 3 0) 0 8 0)).2) 0 6 ((F_X4_doPlan (gS 52) pl (up2 (up2 (up2 (up2 σ 0 4 v) 0 5 0) 0 3 0) 0 8 0)).1)) else ((-10) - ((F_X4_doPlan (gS 52) pl (up2 (up2 (up2 (up2 σ 0 4 v) 0 5 0) 0 3 0) 0 8 0)).1), up2 ((F_X4_doPlan (gS 52) pl (up2 (up2 (up2 (up2 σ 0 4 v) 0 5 0) 0 3 0) 0 8 0)).2) 0 6 ((F_X4_doPlan (gS 52) pl (up2 (up2 (up2 (up2 σ 0 4 v) 0 5 0) 0 3 0) 0 8 0)).1))))
theorem hd_X4_run : yX4_run.cls ≠ "java/lang/invoke/MethodHandle" ∧ yX4_run.cls ≠ "java/lang/invoke/VarHandle" ∧ (parseMethodDescriptor yX4_run.desc).map (fun d => d.parameters.length) = some 2 := by decide +kernel
set_option maxHeartbeats 4000000 in
set_option maxRecDepth 20000 in
theorem c_X4_run (l : Launch) (g : Gy) (ad : Nat → Nat) (n : Nat) (σ : Sg) (pl : Int32) (v : Int32) (hN : 28 ≤ n) (hI : RI n σ) (hPI : PI σ) (hw : σ 0 7 = nI 0) : Con l g yX4_run cX4_run 3 (some .int) (rmL 168) [.ref (ad 0), .int pl, .int v] (wC g ad n σ) (Det (some (.int (f_X4_run pl v σ).1)) (wC g ad n ((f_X4_run pl v σ).2))) := by
  refine Con.of (by decide) (Nat.le_of_ble_eq_true rfl) ?_
  intro x h e1 e2 e3 e4 e5 hr
  subst e1 e2
  have h : Ok x cX4_run "SafeDesk" (some .int) := h
  have hR : RmOk x 168 0 0 := RmOk.of e3 (Nat.le_refl _) (Nat.le_refl _)
  obtain ⟨out, ho⟩ : ∃ o, f_X4_run pl v σ = o := ⟨_, rfl⟩
  rw [ho] at hr
  unfold f_X4_run at ho
  show J x 0 0 _ 0 [(0, .ref (ad 0)), (1, .int pl), (2, .int v)] []
  refine J_iload_n (pc := 0) (n := 1) (i := 1) h 1 rfl rfl dX4_run_0 ?_
  refine J_cS (pc := 1) h hR (by decide) (c_X4_isPlan _ _ _ pl ) (by decide) m_151 m_152 m_1 m_153 hd_X4_isPlan rfl rfl (Nat.le_of_ble_eq_true rfl) [.int (f_X4_isPlan pl)] rfl dX4_run_1 ?_
  refine J_if_ne (pc := 4) h 9 (by decide) dX4_run_4 (fun c1 => ?_) (fun c1 => ?_)
  · replace ho := (if_neg c1).symm.trans ho
    refine J_aload_n (pc := 9) (n := 0) (i := 0) h 0 rfl rfl dX4_run_9 ?_
    refine J_iload_n (pc := 10) (n := 2) (i := 2) h 2 rfl rfl dX4_run_10 ?_
    refine J_Dp4 (pc := 11) h (by omega) m_47 dX4_run_11 ?_
    refine J_aload_n (pc := 14) (n := 0) (i := 0) h 0 rfl rfl dX4_run_14 ?_
    refine J_iconst (pc := 15) h (0) rfl dX4_run_15 ?_
    refine J_Dp5 (pc := 16) h (by omega) m_48 dX4_run_16 ?_
    refine J_aload_n (pc := 19) (n := 0) (i := 0) h 0 rfl rfl dX4_run_19 ?_
    refine J_iconst (pc := 20) h (0) rfl dX4_run_20 ?_
    refine J_Dp3 (pc := 21) h (by omega) m_46 dX4_run_21 ?_
    refine J_aload_n (pc := 24) (n := 0) (i := 0) h 0 rfl rfl dX4_run_24 ?_
    refine J_iconst (pc := 25) h (0) rfl dX4_run_25 ?_
    refine J_Dp8 (pc := 26) h (by omega) m_51 dX4_run_26 ?_
    refine J_aload_n (pc := 29) (n := 0) (i := 0) h 0 rfl rfl dX4_run_29 ?_
    refine J_aload_n (pc := 30) (n := 0) (i := 0) h 0 rfl rfl dX4_run_30 ?_
    refine J_iload_n (pc := 31) (n := 1) (i := 1) h 1 rfl rfl dX4_run_31 ?_
    refine J_cD (pc := 32) h hR (by decide) (c_X4_doPlan _ _ ad n (gS 52) σ 52 166 (by decide) (gS_RC _ _ ad hN hPI 52) (gS_RS hPI 52) hPI (up2 (up2 (up2 (up2 σ 0 4 v) 0 5 0) 0 3 0) 0 8 0) pl hN (DI_run hI v) 0 (by rw [up2_row _ _ _ (by decide), up2_row _ _ _ (by decide), up2_row _ _ _ (by decide), up2_row _ _ _ (by decide)]; exact hw) (by decide) (by decide)) (by decide) m_178 m_180 ms_0 m_181 ⟨rfl, hd_X4_doPlan⟩ (by omega) rfl rfl (Nat.le_of_ble_eq_true rfl) [.int ((F_X4_doPlan (gS 52) pl (up2 (up2 (up2 (up2 σ 0 4 v) 0 5 0) 0 3 0) 0 8 0)).1), .ref (ad 0)] rfl dX4_run_32 ?_
    refine J_Dp6 (pc := 35) h (by omega) m_49 dX4_run_35 ?_
    refine J_aload_n (pc := 38) (n := 0) (i := 0) h 0 rfl rfl dX4_run_38 ?_
    refine J_Dg6 (pc := 39) h (by omega) m_49 ((F_X4_doPlan (gS 52) pl (up2 (up2 (up2 (up2 σ 0 4 v) 0 5 0) 0 3 0) 0 8 0)).1) (up2_self _ _ _ _) dX4_run_39 ?_
    refine J_if_ne (pc := 42) h 49 (by decide) dX4_run_42 (fun c2 => ?_) (fun c2 => ?_)
    · replace ho := (if_neg c2).symm.trans ho
      refine J_bipush (pc := 49) h (-10) rfl dX4_run_49 ?_
      refine J_aload_n (pc := 51) (n := 0) (i := 0) h 0 rfl rfl dX4_run_51 ?_
      refine J_Dg6 (pc := 52) h (by omega) m_49 ((F_X4_doPlan (gS 52) pl (up2 (up2 (up2 (up2 σ 0 4 v) 0 5 0) 0 3 0) 0 8 0)).1) (up2_self _ _ _ _) dX4_run_52 ?_
      refine J_isub (pc := 55) h dX4_run_55 ?_
      exact J_iret (pc := 56) h hr (by subst ho; exact ⟨rfl, rfl⟩) dX4_run_56
    · replace ho := (if_pos c2).symm.trans ho
      refine J_iconst (pc := 45) h (1) rfl dX4_run_45 ?_
      refine J_goto (pc := 46) h 56 (by decide) dX4_run_46 ?_
      exact J_iret (pc := 56) h hr (by subst ho; exact ⟨rfl, rfl⟩) dX4_run_56
  · replace ho := (if_pos c1).symm.trans ho
    refine J_iconst (pc := 7) h (-1) rfl dX4_run_7 ?_
    exact J_iret (pc := 8) h hr (by subst ho; exact ⟨rfl, rfl⟩) dX4_run_8
