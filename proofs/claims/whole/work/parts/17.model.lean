theorem in_no {a b c : Int32} (h : ¬ f_X5_in a b c = 0) : ¬ a < b ∧ ¬ c < a := by
  unfold f_X5_in at h
  refine ⟨fun q => h (if_pos q), fun q => h ?_⟩
  by_cases c1 : a < b
  · exact if_pos c1
  · rw [if_neg c1, if_pos q]
theorem vp_le {i b : Int32} {N : Nat} (hb : b.toInt + 1 = N) (h0 : ¬ i < 0) (h1 : ¬ b < i) : vp_in i N := by
  rw [i_lt, ti0] at h0
  rw [i_lt] at h1
  exact vp_in_iff.mpr ⟨by omega, by omega⟩
theorem in_room {a : Int32} (h : ¬ f_X5_in a 0 7 = 0) : vp_in a 8 := vp_le (b := 7) rfl (in_no h).1 (in_no h).2
theorem in_plan {a : Int32} (h : ¬ f_X5_in a 0 5 = 0) : vp_in a 6 := vp_le (b := 5) rfl (in_no h).1 (in_no h).2
theorem tr_in2 {a b : Int32} (h : ¬ f_X5_in a 0 (b - 1) = 0) (h2 : b ≤ 120 ∧ ¬ b < 0) : vp_in a 120 := by
  obtain ⟨h3, h4⟩ := in_no h
  obtain ⟨h5, h6⟩ := h2
  obtain ⟨j, hj, rfl⟩ := nI_of h6
  rw [i_le, nI_toInt hj, show (120 : Int32).toInt = 120 from rfl] at h5
  have : j ≤ 120 := by omega
  rcases Nat.eq_zero_or_pos j with rfl | hp
  · rw [i_lt, ti0] at h3
    rw [i_lt, show (nI 0 - 1).toInt = -1 from rfl] at h4
    omega
  · rw [i_lt, show nI j - 1 = nI (j - 1) from by have := nI_pred (j - 1); rwa [Nat.sub_add_cancel hp] at this, nI_toInt (by omega)] at h4
    rw [i_lt, ti0] at h3
    exact vp_in_iff.mpr ⟨by omega, by omega⟩
def f_X5_enter (s : Int32) (σ : Sg) : Sg := (if (σ 5 s.toNatClampNeg) + 1 ≤ σ 6 s.toNatClampNeg then (up2 (up2 (up2 σ 5 s.toNatClampNeg ((σ 5 s.toNatClampNeg) + 1)) 4 s.toNatClampNeg ((σ 4 s.toNatClampNeg) + 1)) 6 s.toNatClampNeg (σ 6 s.toNatClampNeg)) else (up2 (up2 (up2 σ 5 s.toNatClampNeg ((σ 5 s.toNatClampNeg) + 1)) 4 s.toNatClampNeg ((σ 4 s.toNatClampNeg) + 1)) 6 s.toNatClampNeg ((σ 5 s.toNatClampNeg) + 1)))
theorem hd_X5_enter : yX5_enter.cls ≠ "java/lang/invoke/MethodHandle" ∧ yX5_enter.cls ≠ "java/lang/invoke/VarHandle" ∧ (parseMethodDescriptor yX5_enter.desc).map (fun d => d.parameters.length) = some 1 := by decide +kernel
set_option maxHeartbeats 4000000 in
set_option maxRecDepth 20000 in
theorem c_X5_enter (l : Launch) (g : Gy) (ad : Nat → Nat) (σ : Sg) (s : Int32) (hs : vp_in s 4200) : Con l g yX5_enter cX5_enter 2 none (rmL 0) [.ref (ad 0), .int s] (wM g ad σ) (Det none (wM g ad (f_X5_enter s σ))) := by
  refine Con.of (by decide) (Nat.le_of_ble_eq_true rfl) ?_
  intro x h e1 e2 e3 e4 e5 hr
  subst e1 e2
  have h : Ok x cX5_enter "SafeDeskModel" none := h
  have hR : RmOk x 0 0 0 := RmOk.of e3 (Nat.le_refl _) (Nat.le_refl _)
  obtain ⟨out, ho⟩ : ∃ o, f_X5_enter s σ = o := ⟨_, rfl⟩
  rw [ho] at hr
  unfold f_X5_enter at ho
  show J x 0 0 _ 0 [(0, .ref (ad 0)), (1, .int s)] []
  refine J_aload_n (pc := 0) (n := 0) (i := 0) h 0 rfl rfl dX5_enter_0 ?_
  refine J_Mr5 (pc := 1) h m_337 dX5_enter_1 ?_
  refine J_iload_n (pc := 4) (n := 1) (i := 1) h 1 rfl rfl dX5_enter_4 ?_
  refine J_dup2 (pc := 5) h rfl rfl dX5_enter_5 ?_
  refine J_Ma (pc := 6) h 5 4200 ⟨by decide, by decide⟩ rfl hs (σ 5 s.toNatClampNeg) rfl dX5_enter_6 ?_
  refine J_iconst (pc := 7) h (1) rfl dX5_enter_7 ?_
  refine J_iadd (pc := 8) h dX5_enter_8 ?_
  refine J_Ms (pc := 9) h 5 4200 ⟨by decide, by decide⟩ rfl hs dX5_enter_9 ?_
  refine J_aload_n (pc := 10) (n := 0) (i := 0) h 0 rfl rfl dX5_enter_10 ?_
  refine J_Mr4 (pc := 11) h m_336 dX5_enter_11 ?_
  refine J_iload_n (pc := 14) (n := 1) (i := 1) h 1 rfl rfl dX5_enter_14 ?_
  refine J_dup2 (pc := 15) h rfl rfl dX5_enter_15 ?_
  refine J_Ma (pc := 16) h 4 4200 ⟨by decide, by decide⟩ rfl hs (σ 4 s.toNatClampNeg) (up2_off _ _ (by decide)) dX5_enter_16 ?_
  refine J_iconst (pc := 17) h (1) rfl dX5_enter_17 ?_
  refine J_iadd (pc := 18) h dX5_enter_18 ?_
  refine J_Ms (pc := 19) h 4 4200 ⟨by decide, by decide⟩ rfl hs dX5_enter_19 ?_
  refine J_aload_n (pc := 20) (n := 0) (i := 0) h 0 rfl rfl dX5_enter_20 ?_
  refine J_Mr6 (pc := 21) h m_338 dX5_enter_21 ?_
  refine J_iload_n (pc := 24) (n := 1) (i := 1) h 1 rfl rfl dX5_enter_24 ?_
  refine J_aload_n (pc := 25) (n := 0) (i := 0) h 0 rfl rfl dX5_enter_25 ?_
  refine J_Mr5 (pc := 26) h m_337 dX5_enter_26 ?_
  refine J_iload_n (pc := 29) (n := 1) (i := 1) h 1 rfl rfl dX5_enter_29 ?_
  refine J_Ma (pc := 30) h 5 4200 ⟨by decide, by decide⟩ rfl hs ((σ 5 s.toNatClampNeg) + 1) ((up2_off _ _ (by decide)).trans (up2_self _ _ _ _)) dX5_enter_30 ?_
  refine J_aload_n (pc := 31) (n := 0) (i := 0) h 0 rfl rfl dX5_enter_31 ?_
  refine J_Mr6 (pc := 32) h m_338 dX5_enter_32 ?_
  refine J_iload_n (pc := 35) (n := 1) (i := 1) h 1 rfl rfl dX5_enter_35 ?_
  refine J_Ma (pc := 36) h 6 4200 ⟨by decide, by decide⟩ rfl hs (σ 6 s.toNatClampNeg) ((up2_off _ _ (by decide)).trans (up2_off _ _ (by decide))) dX5_enter_36 ?_
  refine J_icmp_le (pc := 37) h 49 (by decide) dX5_enter_37 (fun c1 => ?_) (fun c1 => ?_)
  · replace ho := (if_pos c1).symm.trans ho
    refine J_aload_n (pc := 49) (n := 0) (i := 0) h 0 rfl rfl dX5_enter_49 ?_
    refine J_Mr6 (pc := 50) h m_338 dX5_enter_50 ?_
    refine J_iload_n (pc := 53) (n := 1) (i := 1) h 1 rfl rfl dX5_enter_53 ?_
    refine J_Ma (pc := 54) h 6 4200 ⟨by decide, by decide⟩ rfl hs (σ 6 s.toNatClampNeg) ((up2_off _ _ (by decide)).trans (up2_off _ _ (by decide))) dX5_enter_54 ?_
    refine J_Ms (pc := 55) h 6 4200 ⟨by decide, by decide⟩ rfl hs dX5_enter_55 ?_
    exact J_vret (pc := 56) h hr (by subst ho; exact ⟨rfl, rfl⟩) dX5_enter_56
  · replace ho := (if_neg c1).symm.trans ho
    refine J_aload_n (pc := 40) (n := 0) (i := 0) h 0 rfl rfl dX5_enter_40 ?_
    refine J_Mr5 (pc := 41) h m_337 dX5_enter_41 ?_
    refine J_iload_n (pc := 44) (n := 1) (i := 1) h 1 rfl rfl dX5_enter_44 ?_
    refine J_Ma (pc := 45) h 5 4200 ⟨by decide, by decide⟩ rfl hs ((σ 5 s.toNatClampNeg) + 1) ((up2_off _ _ (by decide)).trans (up2_self _ _ _ _)) dX5_enter_45 ?_
    refine J_goto (pc := 46) h 55 (by decide) dX5_enter_46 ?_
    refine J_Ms (pc := 55) h 6 4200 ⟨by decide, by decide⟩ rfl hs dX5_enter_55 ?_
    exact J_vret (pc := 56) h hr (by subst ho; exact ⟨rfl, rfl⟩) dX5_enter_56
def f_X5_putPlain (s : Int32) (v : Int32) (σ : Sg) : Int32 × Sg := (if lg_cmp ((((f_X5_enter s σ) 2 s.toNatClampNeg).toInt64) + v.toInt64) 0 < 0 then (0, up2 (up2 (f_X5_enter s σ) 2 s.toNatClampNeg ((f_X5_enter s σ) 2 s.toNatClampNeg)) 5 s.toNatClampNeg (((f_X5_enter s σ) 5 s.toNatClampNeg) - 1)) else (if 0 < lg_cmp ((((f_X5_enter s σ) 2 s.toNatClampNeg).toInt64) + v.toInt64) 1000000 then (0, up2 (up2 (f_X5_enter s σ) 2 s.toNatClampNeg ((f_X5_enter s σ) 2 s.toNatClampNeg)) 5 s.toNatClampNeg (((f_X5_enter s σ) 5 s.toNatClampNeg) - 1)) else (1, up2 (up2 (f_X5_enter s σ) 2 s.toNatClampNeg (((((f_X5_enter s σ) 2 s.toNatClampNeg).toInt64) + v.toInt64).toInt32)) 5 s.toNatClampNeg (((f_X5_enter s σ) 5 s.toNatClampNeg) - 1))))
theorem bn_X5_putPlain (s : Int32) (v : Int32) (σ : Sg) : Bn (f_X5_putPlain s v σ).1 := by
  unfold f_X5_putPlain
  repeat' (first | exact Bn.z | exact Bn.o | refine Bn.ite1 ?_ ?_)
theorem zb_X5_putPlain (s : Int32) (v : Int32) (σ : Sg) : narrow .boolean (.int (f_X5_putPlain s v σ).1) = .int (f_X5_putPlain s v σ).1 := zb01 (bn_X5_putPlain s v σ)
theorem hd_X5_putPlain : yX5_putPlain.cls ≠ "java/lang/invoke/MethodHandle" ∧ yX5_putPlain.cls ≠ "java/lang/invoke/VarHandle" ∧ (parseMethodDescriptor yX5_putPlain.desc).map (fun d => d.parameters.length) = some 2 := by decide +kernel
set_option maxHeartbeats 4000000 in
set_option maxRecDepth 20000 in
theorem c_X5_putPlain (l : Launch) (g : Gy) (ad : Nat → Nat) (σ : Sg) (s : Int32) (v : Int32) (hs : vp_in s 4200) : Con l g yX5_putPlain cX5_putPlain 6 (some .boolean) (rmL 1) [.ref (ad 0), .int s, .int v] (wM g ad σ) (Det (some (.int (f_X5_putPlain s v σ).1)) (wM g ad ((f_X5_putPlain s v σ).2))) := by
  refine Con.of (by decide) (Nat.le_of_ble_eq_true rfl) ?_
  intro x h e1 e2 e3 e4 e5 hr
  subst e1 e2
  have h : Ok x cX5_putPlain "SafeDeskModel" (some .boolean) := h
  have hR : RmOk x 1 0 0 := RmOk.of e3 (Nat.le_refl _) (Nat.le_refl _)
  obtain ⟨out, ho⟩ : ∃ o, f_X5_putPlain s v σ = o := ⟨_, rfl⟩
  rw [ho] at hr
  unfold f_X5_putPlain at ho
  show J x 0 0 _ 0 [(0, .ref (ad 0)), (1, .int s), (2, .int v)] []
  refine J_aload_n (pc := 0) (n := 0) (i := 0) h 0 rfl rfl dX5_putPlain_0 ?_
  refine J_iload_n (pc := 1) (n := 1) (i := 1) h 1 rfl rfl dX5_putPlain_1 ?_
  refine J_cM (pc := 2) h hR (by decide) (c_X5_enter _ _ _ σ s hs) (by decide) m_475 m_477 ms_22 m_478 ⟨rfl, hd_X5_enter⟩ rfl rfl (Nat.le_of_ble_eq_true rfl) [] rfl dX5_putPlain_2 ?_
  refine J_aload_n (pc := 5) (n := 0) (i := 0) h 0 rfl rfl dX5_putPlain_5 ?_
  refine J_Mr2 (pc := 6) h m_334 dX5_putPlain_6 ?_
  refine J_iload_n (pc := 9) (n := 1) (i := 1) h 1 rfl rfl dX5_putPlain_9 ?_
  refine J_Ma (pc := 10) h 2 4200 ⟨by decide, by decide⟩ rfl hs ((f_X5_enter s σ) 2 s.toNatClampNeg) rfl dX5_putPlain_10 ?_
  refine J_i2l (pc := 11) h dX5_putPlain_11 ?_
  refine J_iload_n (pc := 12) (n := 2) (i := 2) h 2 rfl rfl dX5_putPlain_12 ?_
  refine J_i2l (pc := 13) h dX5_putPlain_13 ?_
  refine J_ladd (pc := 14) h dX5_putPlain_14 ?_
  refine J_lstore_n (pc := 15) (n := 3) (i := 3) h [(3, .long ((((f_X5_enter s σ) 2 s.toNatClampNeg).toInt64) + v.toInt64)), (0, .ref (ad 0)), (1, .int s), (2, .int v)] rfl (by rw [e4]; decide) rfl dX5_putPlain_15 ?_
  refine J_lload_n (pc := 16) (n := 3) (i := 3) h 0 rfl rfl dX5_putPlain_16 ?_
  refine J_lconst (pc := 17) h (0) rfl dX5_putPlain_17 ?_
  refine J_lcmp (pc := 18) h dX5_putPlain_18 ?_
  refine J_if_lt (pc := 19) h 34 (by decide) dX5_putPlain_19 (fun c1 => ?_) (fun c1 => ?_)
  · replace ho := (if_pos c1).symm.trans ho
    refine J_iconst (pc := 34) h (0) rfl dX5_putPlain_34 ?_
    refine J_istore (pc := 35) h [(5, .int 0), (3, .long ((((f_X5_enter s σ) 2 s.toNatClampNeg).toInt64) + v.toInt64)), (0, .ref (ad 0)), (1, .int s), (2, .int v)] (by rw [e4]; decide) rfl dX5_putPlain_35 ?_
    refine J_aload_n (pc := 37) (n := 0) (i := 0) h 2 rfl rfl dX5_putPlain_37 ?_
    refine J_Mr2 (pc := 38) h m_334 dX5_putPlain_38 ?_
    refine J_iload_n (pc := 41) (n := 1) (i := 1) h 3 rfl rfl dX5_putPlain_41 ?_
    refine J_iload (pc := 42) h 0 rfl dX5_putPlain_42 ?_
    refine J_if_eq (pc := 44) h 52 (by decide) dX5_putPlain_44 (fun c2 => ?_) (fun c2 => ?_)
    · skip
      refine J_aload_n (pc := 52) (n := 0) (i := 0) h 2 rfl rfl dX5_putPlain_52 ?_
      refine J_Mr2 (pc := 53) h m_334 dX5_putPlain_53 ?_
      refine J_iload_n (pc := 56) (n := 1) (i := 1) h 3 rfl rfl dX5_putPlain_56 ?_
      refine J_Ma (pc := 57) h 2 4200 ⟨by decide, by decide⟩ rfl hs ((f_X5_enter s σ) 2 s.toNatClampNeg) rfl dX5_putPlain_57 ?_
      refine J_Ms (pc := 58) h 2 4200 ⟨by decide, by decide⟩ rfl hs dX5_putPlain_58 ?_
      refine J_aload_n (pc := 59) (n := 0) (i := 0) h 2 rfl rfl dX5_putPlain_59 ?_
      refine J_Mr5 (pc := 60) h m_337 dX5_putPlain_60 ?_
      refine J_iload_n (pc := 63) (n := 1) (i := 1) h 3 rfl rfl dX5_putPlain_63 ?_
      refine J_dup2 (pc := 64) h rfl rfl dX5_putPlain_64 ?_
      refine J_Ma (pc := 65) h 5 4200 ⟨by decide, by decide⟩ rfl hs ((f_X5_enter s σ) 5 s.toNatClampNeg) (up2_off _ _ (by decide)) dX5_putPlain_65 ?_
      refine J_iconst (pc := 66) h (1) rfl dX5_putPlain_66 ?_
      refine J_isub (pc := 67) h dX5_putPlain_67 ?_
      refine J_Ms (pc := 68) h 5 4200 ⟨by decide, by decide⟩ rfl hs dX5_putPlain_68 ?_
      refine J_iload (pc := 69) h 0 rfl dX5_putPlain_69 ?_
      exact J_zret (pc := 71) h rfl hr (by subst ho; exact ⟨rfl, rfl⟩) dX5_putPlain_71
    · exact absurd rfl c2
  · replace ho := (if_neg c1).symm.trans ho
    refine J_lload_n (pc := 22) (n := 3) (i := 3) h 0 rfl rfl dX5_putPlain_22 ?_
    refine J_ldc2 (pc := 23) h m_491 dX5_putPlain_23 ?_
    refine J_lcmp (pc := 26) h dX5_putPlain_26 ?_
    refine J_if_gt (pc := 27) h 34 (by decide) dX5_putPlain_27 (fun c3 => ?_) (fun c3 => ?_)
    · replace ho := (if_pos c3).symm.trans ho
      refine J_iconst (pc := 34) h (0) rfl dX5_putPlain_34 ?_
      refine J_istore (pc := 35) h [(5, .int 0), (3, .long ((((f_X5_enter s σ) 2 s.toNatClampNeg).toInt64) + v.toInt64)), (0, .ref (ad 0)), (1, .int s), (2, .int v)] (by rw [e4]; decide) rfl dX5_putPlain_35 ?_
      refine J_aload_n (pc := 37) (n := 0) (i := 0) h 2 rfl rfl dX5_putPlain_37 ?_
      refine J_Mr2 (pc := 38) h m_334 dX5_putPlain_38 ?_
      refine J_iload_n (pc := 41) (n := 1) (i := 1) h 3 rfl rfl dX5_putPlain_41 ?_
      refine J_iload (pc := 42) h 0 rfl dX5_putPlain_42 ?_
      refine J_if_eq (pc := 44) h 52 (by decide) dX5_putPlain_44 (fun c4 => ?_) (fun c4 => ?_)
      · skip
        refine J_aload_n (pc := 52) (n := 0) (i := 0) h 2 rfl rfl dX5_putPlain_52 ?_
        refine J_Mr2 (pc := 53) h m_334 dX5_putPlain_53 ?_
        refine J_iload_n (pc := 56) (n := 1) (i := 1) h 3 rfl rfl dX5_putPlain_56 ?_
        refine J_Ma (pc := 57) h 2 4200 ⟨by decide, by decide⟩ rfl hs ((f_X5_enter s σ) 2 s.toNatClampNeg) rfl dX5_putPlain_57 ?_
        refine J_Ms (pc := 58) h 2 4200 ⟨by decide, by decide⟩ rfl hs dX5_putPlain_58 ?_
        refine J_aload_n (pc := 59) (n := 0) (i := 0) h 2 rfl rfl dX5_putPlain_59 ?_
        refine J_Mr5 (pc := 60) h m_337 dX5_putPlain_60 ?_
        refine J_iload_n (pc := 63) (n := 1) (i := 1) h 3 rfl rfl dX5_putPlain_63 ?_
        refine J_dup2 (pc := 64) h rfl rfl dX5_putPlain_64 ?_
        refine J_Ma (pc := 65) h 5 4200 ⟨by decide, by decide⟩ rfl hs ((f_X5_enter s σ) 5 s.toNatClampNeg) (up2_off _ _ (by decide)) dX5_putPlain_65 ?_
        refine J_iconst (pc := 66) h (1) rfl dX5_putPlain_66 ?_
        refine J_isub (pc := 67) h dX5_putPlain_67 ?_
        refine J_Ms (pc := 68) h 5 4200 ⟨by decide, by decide⟩ rfl hs dX5_putPlain_68 ?_
        refine J_iload (pc := 69) h 0 rfl dX5_putPlain_69 ?_
        exact J_zret (pc := 71) h rfl hr (by subst ho; exact ⟨rfl, rfl⟩) dX5_putPlain_71
      · exact absurd rfl c4
    · replace ho := (if_neg c3).symm.trans ho
      refine J_iconst (pc := 30) h (1) rfl dX5_putPlain_30 ?_
      refine J_goto (pc := 31) h 35 (by decide) dX5_putPlain_31 ?_
      refine J_istore (pc := 35) h [(5, .int 1), (3, .long ((((f_X5_enter s σ) 2 s.toNatClampNeg).toInt64) + v.toInt64)), (0, .ref (ad 0)), (1, .int s), (2, .int v)] (by rw [e4]; decide) rfl dX5_putPlain_35 ?_
      refine J_aload_n (pc := 37) (n := 0) (i := 0) h 2 rfl rfl dX5_putPlain_37 ?_
      refine J_Mr2 (pc := 38) h m_334 dX5_putPlain_38 ?_
      refine J_iload_n (pc := 41) (n := 1) (i := 1) h 3 rfl rfl dX5_putPlain_41 ?_
      refine J_iload (pc := 42) h 0 rfl dX5_putPlain_42 ?_
      refine J_if_eq (pc := 44) h 52 (by decide) dX5_putPlain_44 (fun c5 => ?_) (fun c5 => ?_)
      · exact absurd c5 (by decide)
      · skip
        refine J_lload_n (pc := 47) (n := 3) (i := 3) h 1 rfl rfl dX5_putPlain_47 ?_
        refine J_l2i (pc := 48) h dX5_putPlain_48 ?_
        refine J_goto (pc := 49) h 58 (by decide) dX5_putPlain_49 ?_
        refine J_Ms (pc := 58) h 2 4200 ⟨by decide, by decide⟩ rfl hs dX5_putPlain_58 ?_
        refine J_aload_n (pc := 59) (n := 0) (i := 0) h 2 rfl rfl dX5_putPlain_59 ?_
        refine J_Mr5 (pc := 60) h m_337 dX5_putPlain_60 ?_
        refine J_iload_n (pc := 63) (n := 1) (i := 1) h 3 rfl rfl dX5_putPlain_63 ?_
        refine J_dup2 (pc := 64) h rfl rfl dX5_putPlain_64 ?_
        refine J_Ma (pc := 65) h 5 4200 ⟨by decide, by decide⟩ rfl hs ((f_X5_enter s σ) 5 s.toNatClampNeg) (up2_off _ _ (by decide)) dX5_putPlain_65 ?_
        refine J_iconst (pc := 66) h (1) rfl dX5_putPlain_66 ?_
        refine J_isub (pc := 67) h dX5_putPlain_67 ?_
        refine J_Ms (pc := 68) h 5 4200 ⟨by decide, by decide⟩ rfl hs dX5_putPlain_68 ?_
        refine J_iload (pc := 69) h 0 rfl dX5_putPlain_69 ?_
        exact J_zret (pc := 71) h rfl hr (by subst ho; exact ⟨rfl, rfl⟩) dX5_putPlain_71
def f_X5_putTimed (s : Int32) (v : Int32) (σ : Sg) : Int32 × Sg := ((f_X5_putPlain s v (up2 (f_X5_enter s σ) 3 s.toNatClampNeg (((f_X5_enter s σ) 3 s.toNatClampNeg) + 1))).1, up2 ((f_X5_putPlain s v (up2 (f_X5_enter s σ) 3 s.toNatClampNeg (((f_X5_enter s σ) 3 s.toNatClampNeg) + 1))).2) 5 s.toNatClampNeg ((((f_X5_putPlain s v (up2 (f_X5_enter s σ) 3 s.toNatClampNeg (((f_X5_enter s σ) 3 s.toNatClampNeg) + 1))).2) 5 s.toNatClampNeg) - 1))
theorem bn_X5_putTimed (s : Int32) (v : Int32) (σ : Sg) : Bn (f_X5_putTimed s v σ).1 := by
  unfold f_X5_putTimed
  repeat' (first | exact Bn.z | exact Bn.o | exact bn_X5_putPlain _ _ _ | refine Bn.ite1 ?_ ?_)
theorem zb_X5_putTimed (s : Int32) (v : Int32) (σ : Sg) : narrow .boolean (.int (f_X5_putTimed s v σ).1) = .int (f_X5_putTimed s v σ).1 := zb01 (bn_X5_putTimed s v σ)
theorem hd_X5_putTimed : yX5_putTimed.cls ≠ "java/lang/invoke/MethodHandle" ∧ yX5_putTimed.cls ≠ "java/lang/invoke/VarHandle" ∧ (parseMethodDescriptor yX5_putTimed.desc).map (fun d => d.parameters.length) = some 2 := by decide +kernel
set_option maxHeartbeats 4000000 in
set_option maxRecDepth 20000 in
theorem c_X5_putTimed (l : Launch) (g : Gy) (ad : Nat → Nat) (σ : Sg) (s : Int32) (v : Int32) (hs : vp_in s 4200) : Con l g yX5_putTimed cX5_putTimed 4 (some .boolean) (rmL 2) [.ref (ad 0), .int s, .int v] (wM g ad σ) (Det (some (.int (f_X5_putTimed s v σ).1)) (wM g ad ((f_X5_putTimed s v σ).2))) := by
  refine Con.of (by decide) (Nat.le_of_ble_eq_true rfl) ?_
  intro x h e1 e2 e3 e4 e5 hr
  subst e1 e2
  have h : Ok x cX5_putTimed "SafeDeskModel" (some .boolean) := h
  have hR : RmOk x 2 0 0 := RmOk.of e3 (Nat.le_refl _) (Nat.le_refl _)
  obtain ⟨out, ho⟩ : ∃ o, f_X5_putTimed s v σ = o := ⟨_, rfl⟩
  rw [ho] at hr
  unfold f_X5_putTimed at ho
  show J x 0 0 _ 0 [(0, .ref (ad 0)), (1, .int s), (2, .int v)] []
  refine J_aload_n (pc := 0) (n := 0) (i := 0) h 0 rfl rfl dX5_putTimed_0 ?_
  refine J_iload_n (pc := 1) (n := 1) (i := 1) h 1 rfl rfl dX5_putTimed_1 ?_
  refine J_cM (pc := 2) h hR (by decide) (c_X5_enter _ _ _ σ s hs) (by decide) m_475 m_477 ms_22 m_478 ⟨rfl, hd_X5_enter⟩ rfl rfl (Nat.le_of_ble_eq_true rfl) [] rfl dX5_putTimed_2 ?_
  refine J_aload_n (pc := 5) (n := 0) (i := 0) h 0 rfl rfl dX5_putTimed_5 ?_
  refine J_Mr3 (pc := 6) h m_335 dX5_putTimed_6 ?_
  refine J_iload_n (pc := 9) (n := 1) (i := 1) h 1 rfl rfl dX5_putTimed_9 ?_
  refine J_dup2 (pc := 10) h rfl rfl dX5_putTimed_10 ?_
  refine J_Ma (pc := 11) h 3 4200 ⟨by decide, by decide⟩ rfl hs ((f_X5_enter s σ) 3 s.toNatClampNeg) rfl dX5_putTimed_11 ?_
  refine J_iconst (pc := 12) h (1) rfl dX5_putTimed_12 ?_
  refine J_iadd (pc := 13) h dX5_putTimed_13 ?_
  refine J_Ms (pc := 14) h 3 4200 ⟨by decide, by decide⟩ rfl hs dX5_putTimed_14 ?_
  refine J_aload_n (pc := 15) (n := 0) (i := 0) h 0 rfl rfl dX5_putTimed_15 ?_
  refine J_iload_n (pc := 16) (n := 1) (i := 1) h 1 rfl rfl dX5_putTimed_16 ?_
  refine J_iload_n (pc := 17) (n := 2) (i := 2) h 2 rfl rfl dX5_putTimed_17 ?_
  refine J_cM (pc := 18) h hR (by decide) (c_X5_putPlain _ _ _ (up2 (f_X5_enter s σ) 3 s.toNatClampNeg (((f_X5_enter s σ) 3 s.toNatClampNeg) + 1)) s v hs) (by decide) m_487 m_489 ms_25 m_490 ⟨rfl, hd_X5_putPlain⟩ rfl rfl (Nat.le_of_ble_eq_true rfl) [.int ((f_X5_putPlain s v (up2 (f_X5_enter s σ) 3 s.toNatClampNeg (((f_X5_enter s σ) 3 s.toNatClampNeg) + 1))).1)] rfl dX5_putTimed_18 ?_
  refine J_istore_n (pc := 21) (n := 3) (i := 3) h [(3, .int ((f_X5_putPlain s v (up2 (f_X5_enter s σ) 3 s.toNatClampNeg (((f_X5_enter s σ) 3 s.toNatClampNeg) + 1))).1)), (0, .ref (ad 0)), (1, .int s), (2, .int v)] rfl (by rw [e4]; decide) rfl dX5_putTimed_21 ?_
  refine J_aload_n (pc := 22) (n := 0) (i := 0) h 1 rfl rfl dX5_putTimed_22 ?_
  refine J_Mr5 (pc := 23) h m_337 dX5_putTimed_23 ?_
  refine J_iload_n (pc := 26) (n := 1) (i := 1) h 2 rfl rfl dX5_putTimed_26 ?_
  refine J_dup2 (pc := 27) h rfl rfl dX5_putTimed_27 ?_
  refine J_Ma (pc := 28) h 5 4200 ⟨by decide, by decide⟩ rfl hs (((f_X5_putPlain s v (up2 (f_X5_enter s σ) 3 s.toNatClampNeg (((f_X5_enter s σ) 3 s.toNatClampNeg) + 1))).2) 5 s.toNatClampNeg) rfl dX5_putTimed_28 ?_
  refine J_iconst (pc := 29) h (1) rfl dX5_putTimed_29 ?_
  refine J_isub (pc := 30) h dX5_putTimed_30 ?_
  refine J_Ms (pc := 31) h 5 4200 ⟨by decide, by decide⟩ rfl hs dX5_putTimed_31 ?_
  refine J_iload_n (pc := 32) (n := 3) (i := 3) h 0 rfl rfl dX5_putTimed_32 ?_
  exact J_zret (pc := 33) h (zb_X5_putPlain _ _ _) hr (by subst ho; exact ⟨rfl, rfl⟩) dX5_putTimed_33
def f_X5_put (s : Int32) (v : Int32) (σ : Sg) : Int32 × Sg := (if σ 1 s.toNatClampNeg = 0 then ((f_X5_putPlain s v σ).1, (f_X5_putPlain s v σ).2) else (if σ 1 s.toNatClampNeg = 1 then ((f_X5_putTimed s v σ).1, (f_X5_putTimed s v σ).2) else (if (f_X5_putTimed s v (f_X5_enter s σ)).1 = 0 then (0, up2 ((f_X5_putTimed s v (f_X5_enter s σ)).2) 5 s.toNatClampNeg ((((f_X5_putTimed s v (f_X5_enter s σ)).2) 5 s.toNatClampNeg) - 1)) else (if (f_X5_putTimed s v ((f_X5_putTimed s v (f_X5_enter s σ)).2)).1 = 0 then (0, up2 ((f_X5_putTimed s v ((f_X5_putTimed s v (f_X5_enter s σ)).2)).2) 5 s.toNatClampNeg ((((f_X5_putTimed s v ((f_X5_putTimed s v (f_X5_enter s σ)).2)).2) 5 s.toNatClampNeg) - 1)) else (1, up2 ((f_X5_putTimed s v ((f_X5_putTimed s v (f_X5_enter s σ)).2)).2) 5 s.toNatClampNeg ((((f_X5_putTimed s v ((f_X5_putTimed s v (f_X5_enter s σ)).2)).2) 5 s.toNatClampNeg) - 1))))))
theorem bn_X5_put (s v : Int32) (σ : Sg) : Bn (f_X5_put s v σ).1 := Bn.ite1 (bn_X5_putPlain _ _ _) (Bn.ite1 (bn_X5_putTimed _ _ _) (Bn.ite1 Bn.z (Bn.ite1 Bn.z Bn.o)))
theorem zb_X5_put (s v : Int32) (σ : Sg) : narrow .boolean (.int (f_X5_put s v σ).1) = .int (f_X5_put s v σ).1 := zb01 (bn_X5_put s v σ)
theorem hd_X5_put : yX5_put.cls ≠ "java/lang/invoke/MethodHandle" ∧ yX5_put.cls ≠ "java/lang/invoke/VarHandle" ∧ (parseMethodDescriptor yX5_put.desc).map (fun d => d.parameters.length) = some 2 := by decide +kernel
set_option maxHeartbeats 4000000 in
set_option maxRecDepth 20000 in
theorem c_X5_put (l : Launch) (g : Gy) (ad : Nat → Nat) (σ : Sg) (s : Int32) (v : Int32) (hs : vp_in s 4200) : Con l g yX5_put cX5_put 4 (some .boolean) (rmL 3) [.ref (ad 0), .int s, .int v] (wM g ad σ) (Det (some (.int (f_X5_put s v σ).1)) (wM g ad ((f_X5_put s v σ).2))) := by
  refine Con.of (by decide) (Nat.le_of_ble_eq_true rfl) ?_
  intro x h e1 e2 e3 e4 e5 hr
  subst e1 e2
  have h : Ok x cX5_put "SafeDeskModel" (some .boolean) := h
  have hR : RmOk x 3 0 0 := RmOk.of e3 (Nat.le_refl _) (Nat.le_refl _)
  obtain ⟨out, ho⟩ : ∃ o, f_X5_put s v σ = o := ⟨_, rfl⟩
  rw [ho] at hr
  unfold f_X5_put at ho
  show J x 0 0 _ 0 [(0, .ref (ad 0)), (1, .int s), (2, .int v)] []
  refine J_aload_n (pc := 0) (n := 0) (i := 0) h 0 rfl rfl dX5_put_0 ?_
  refine J_Mr1 (pc := 1) h m_333 dX5_put_1 ?_
  refine J_iload_n (pc := 4) (n := 1) (i := 1) h 1 rfl rfl dX5_put_4 ?_
  refine J_Ma (pc := 5) h 1 4200 ⟨by decide, by decide⟩ rfl hs (σ 1 s.toNatClampNeg) rfl dX5_put_5 ?_
  refine J_if_ne (pc := 6) h 16 (by decide) dX5_put_6 (fun c1 => ?_) (fun c1 => ?_)
  · replace ho := (if_neg c1).symm.trans ho
    refine J_aload_n (pc := 16) (n := 0) (i := 0) h 0 rfl rfl dX5_put_16 ?_
    refine J_Mr1 (pc := 17) h m_333 dX5_put_17 ?_
    refine J_iload_n (pc := 20) (n := 1) (i := 1) h 1 rfl rfl dX5_put_20 ?_
    refine J_Ma (pc := 21) h 1 4200 ⟨by decide, by decide⟩ rfl hs (σ 1 s.toNatClampNeg) rfl dX5_put_21 ?_
    refine J_iconst (pc := 22) h (1) rfl dX5_put_22 ?_
    refine J_icmp_ne (pc := 23) h 33 (by decide) dX5_put_23 (fun c2 => ?_) (fun c2 => ?_)
    · replace ho := (if_neg c2).symm.trans ho
      refine J_aload_n (pc := 33) (n := 0) (i := 0) h 0 rfl rfl dX5_put_33 ?_
      refine J_iload_n (pc := 34) (n := 1) (i := 1) h 1 rfl rfl dX5_put_34 ?_
      refine J_cM (pc := 35) h hR (by decide) (c_X5_enter _ _ _ σ s hs) (by decide) m_475 m_477 ms_22 m_478 ⟨rfl, hd_X5_enter⟩ rfl rfl (Nat.le_of_ble_eq_true rfl) [] rfl dX5_put_35 ?_
      refine J_aload_n (pc := 38) (n := 0) (i := 0) h 0 rfl rfl dX5_put_38 ?_
      refine J_iload_n (pc := 39) (n := 1) (i := 1) h 1 rfl rfl dX5_put_39 ?_
      refine J_iload_n (pc := 40) (n := 2) (i := 2) h 2 rfl rfl dX5_put_40 ?_
      refine J_cM (pc := 41) h hR (by decide) (c_X5_putTimed _ _ _ (f_X5_enter s σ) s v hs) (by decide) m_492 m_494 ms_26 m_495 ⟨rfl, hd_X5_putTimed⟩ rfl rfl (Nat.le_of_ble_eq_true rfl) [.int ((f_X5_putTimed s v (f_X5_enter s σ)).1)] rfl dX5_put_41 ?_
      refine J_if_eq (pc := 44) h 60 (by decide) dX5_put_44 (fun c3 => ?_) (fun c3 => ?_)
      · replace ho := (if_pos c3).symm.trans ho
        refine J_iconst (pc := 60) h (0) rfl dX5_put_60 ?_
        refine J_istore_n (pc := 61) (n := 3) (i := 3) h [(3, .int 0), (0, .ref (ad 0)), (1, .int s), (2, .int v)] rfl (by rw [e4]; decide) rfl dX5_put_61 ?_
        refine J_aload_n (pc := 62) (n := 0) (i := 0) h 1 rfl rfl dX5_put_62 ?_
        refine J_Mr5 (pc := 63) h m_337 dX5_put_63 ?_
        refine J_iload_n (pc := 66) (n := 1) (i := 1) h 2 rfl rfl dX5_put_66 ?_
        refine J_dup2 (pc := 67) h rfl rfl dX5_put_67 ?_
        refine J_Ma (pc := 68) h 5 4200 ⟨by decide, by decide⟩ rfl hs (((f_X5_putTimed s v (f_X5_enter s σ)).2) 5 s.toNatClampNeg) rfl dX5_put_68 ?_
        refine J_iconst (pc := 69) h (1) rfl dX5_put_69 ?_
        refine J_isub (pc := 70) h dX5_put_70 ?_
        refine J_Ms (pc := 71) h 5 4200 ⟨by decide, by decide⟩ rfl hs dX5_put_71 ?_
        refine J_iload_n (pc := 72) (n := 3) (i := 3) h 0 rfl rfl dX5_put_72 ?_
        exact J_zret (pc := 73) h rfl hr (by subst ho; exact ⟨rfl, rfl⟩) dX5_put_73
      · replace ho := (if_neg c3).symm.trans ho
        refine J_aload_n (pc := 47) (n := 0) (i := 0) h 0 rfl rfl dX5_put_47 ?_
        refine J_iload_n (pc := 48) (n := 1) (i := 1) h 1 rfl rfl dX5_put_48 ?_
        refine J_iload_n (pc := 49) (n := 2) (i := 2) h 2 rfl rfl dX5_put_49 ?_
        refine J_cM (pc := 50) h hR (by decide) (c_X5_putTimed _ _ _ ((f_X5_putTimed s v (f_X5_enter s σ)).2) s v hs) (by decide) m_492 m_494 ms_26 m_495 ⟨rfl, hd_X5_putTimed⟩ rfl rfl (Nat.le_of_ble_eq_true rfl) [.int ((f_X5_putTimed s v ((f_X5_putTimed s v (f_X5_enter s σ)).2)).1)] rfl dX5_put_50 ?_
        refine J_if_eq (pc := 53) h 60 (by decide) dX5_put_53 (fun c4 => ?_) (fun c4 => ?_)
        · replace ho := (if_pos c4).symm.trans ho
          refine J_iconst (pc := 60) h (0) rfl dX5_put_60 ?_
          refine J_istore_n (pc := 61) (n := 3) (i := 3) h [(3, .int 0), (0, .ref (ad 0)), (1, .int s), (2, .int v)] rfl (by rw [e4]; decide) rfl dX5_put_61 ?_
          refine J_aload_n (pc := 62) (n := 0) (i := 0) h 1 rfl rfl dX5_put_62 ?_
          refine J_Mr5 (pc := 63) h m_337 dX5_put_63 ?_
          refine J_iload_n (pc := 66) (n := 1) (i := 1) h 2 rfl rfl dX5_put_66 ?_
          refine J_dup2 (pc := 67) h rfl rfl dX5_put_67 ?_
          refine J_Ma (pc := 68) h 5 4200 ⟨by decide, by decide⟩ rfl hs (((f_X5_putTimed s v ((f_X5_putTimed s v (f_X5_enter s σ)).2)).2) 5 s.toNatClampNeg) rfl dX5_put_68 ?_
          refine J_iconst (pc := 69) h (1) rfl dX5_put_69 ?_
          refine J_isub (pc := 70) h dX5_put_70 ?_
          refine J_Ms (pc := 71) h 5 4200 ⟨by decide, by decide⟩ rfl hs dX5_put_71 ?_
          refine J_iload_n (pc := 72) (n := 3) (i := 3) h 0 rfl rfl dX5_put_72 ?_
          exact J_zret (pc := 73) h rfl hr (by subst ho; exact ⟨rfl, rfl⟩) dX5_put_73
        · replace ho := (if_neg c4).symm.trans ho
          refine J_iconst (pc := 56) h (1) rfl dX5_put_56 ?_
          refine J_goto (pc := 57) h 61 (by decide) dX5_put_57 ?_
          refine J_istore_n (pc := 61) (n := 3) (i := 3) h [(3, .int 1), (0, .ref (ad 0)), (1, .int s), (2, .int v)] rfl (by rw [e4]; decide) rfl dX5_put_61 ?_
          refine J_aload_n (pc := 62) (n := 0) (i := 0) h 1 rfl rfl dX5_put_62 ?_
          refine J_Mr5 (pc := 63) h m_337 dX5_put_63 ?_
          refine J_iload_n (pc := 66) (n := 1) (i := 1) h 2 rfl rfl dX5_put_66 ?_
          refine J_dup2 (pc := 67) h rfl rfl dX5_put_67 ?_
          refine J_Ma (pc := 68) h 5 4200 ⟨by decide, by decide⟩ rfl hs (((f_X5_putTimed s v ((f_X5_putTimed s v (f_X5_enter s σ)).2)).2) 5 s.toNatClampNeg) rfl dX5_put_68 ?_
          refine J_iconst (pc := 69) h (1) rfl dX5_put_69 ?_
          refine J_isub (pc := 70) h dX5_put_70 ?_
          refine J_Ms (pc := 71) h 5 4200 ⟨by decide, by decide⟩ rfl hs dX5_put_71 ?_
          refine J_iload_n (pc := 72) (n := 3) (i := 3) h 0 rfl rfl dX5_put_72 ?_
          exact J_zret (pc := 73) h rfl hr (by subst ho; exact ⟨rfl, rfl⟩) dX5_put_73
    · replace ho := (if_pos c2).symm.trans ho
      refine J_aload_n (pc := 26) (n := 0) (i := 0) h 0 rfl rfl dX5_put_26 ?_
      refine J_iload_n (pc := 27) (n := 1) (i := 1) h 1 rfl rfl dX5_put_27 ?_
      refine J_iload_n (pc := 28) (n := 2) (i := 2) h 2 rfl rfl dX5_put_28 ?_
      refine J_cM (pc := 29) h hR (by decide) (c_X5_putTimed _ _ _ σ s v hs) (by decide) m_492 m_494 ms_26 m_495 ⟨rfl, hd_X5_putTimed⟩ rfl rfl (Nat.le_of_ble_eq_true rfl) [.int ((f_X5_putTimed s v σ).1)] rfl dX5_put_29 ?_
      exact J_zret (pc := 32) h (zb_X5_putTimed _ _ _) hr (by subst ho; exact ⟨rfl, rfl⟩) dX5_put_32
  · replace ho := (if_pos c1).symm.trans ho
    refine J_aload_n (pc := 9) (n := 0) (i := 0) h 0 rfl rfl dX5_put_9 ?_
    refine J_iload_n (pc := 10) (n := 1) (i := 1) h 1 rfl rfl dX5_put_10 ?_
    refine J_iload_n (pc := 11) (n := 2) (i := 2) h 2 rfl rfl dX5_put_11 ?_
    refine J_cM (pc := 12) h hR (by decide) (c_X5_putPlain _ _ _ σ s v hs) (by decide) m_487 m_489 ms_25 m_490 ⟨rfl, hd_X5_putPlain⟩ rfl rfl (Nat.le_of_ble_eq_true rfl) [.int ((f_X5_putPlain s v σ).1)] rfl dX5_put_12 ?_
    exact J_zret (pc := 15) h (zb_X5_putPlain _ _ _) hr (by subst ho; exact ⟨rfl, rfl⟩) dX5_put_15
def f_X5_give (s : Int32) (w : Int32) (v : Int32) (σ : Sg) : Int32 × Sg := (if (f_X5_put s (-v) (f_X5_enter s σ)).1 = 0 then (30, up2 ((f_X5_put s (-v) (f_X5_enter s σ)).2) 5 s.toNatClampNeg ((((f_X5_put s (-v) (f_X5_enter s σ)).2) 5 s.toNatClampNeg) - 1)) else (if w = (-1) then (1, up2 ((f_X5_put s v ((f_X5_put s (-v) (f_X5_enter s σ)).2)).2) 5 s.toNatClampNeg ((((f_X5_put s v ((f_X5_put s (-v) (f_X5_enter s σ)).2)).2) 5 s.toNatClampNeg) - 1)) else (if (f_X5_put w v ((f_X5_put s (-v) (f_X5_enter s σ)).2)).1 = 0 then (30, up2 ((f_X5_put s v ((f_X5_put w v ((f_X5_put s (-v) (f_X5_enter s σ)).2)).2)).2) 5 s.toNatClampNeg ((((f_X5_put s v ((f_X5_put w v ((f_X5_put s (-v) (f_X5_enter s σ)).2)).2)).2) 5 s.toNatClampNeg) - 1)) else (0, up2 ((f_X5_put w v ((f_X5_put s (-v) (f_X5_enter s σ)).2)).2) 5 s.toNatClampNeg ((((f_X5_put w v ((f_X5_put s (-v) (f_X5_enter s σ)).2)).2) 5 s.toNatClampNeg) - 1)))))
theorem hd_X5_give : yX5_give.cls ≠ "java/lang/invoke/MethodHandle" ∧ yX5_give.cls ≠ "java/lang/invoke/VarHandle" ∧ (parseMethodDescriptor yX5_give.desc).map (fun d => d.parameters.length) = some 3 := by decide +kernel
set_option maxHeartbeats 4000000 in
set_option maxRecDepth 20000 in
theorem c_X5_give (l : Launch) (g : Gy) (ad : Nat → Nat) (σ : Sg) (s : Int32) (w : Int32) (v : Int32) (hs : vp_in s 4200) (hw : w = -1 ∨ vp_in w 4200) : Con l g yX5_give cX5_give 6 (some .int) (rmL 4) [.ref (ad 0), .int s, .int w, .int v] (wM g ad σ) (Det (some (.int (f_X5_give s w v σ).1)) (wM g ad ((f_X5_give s w v σ).2))) := by
  refine Con.of (by decide) (Nat.le_of_ble_eq_true rfl) ?_
  intro x h e1 e2 e3 e4 e5 hr
  subst e1 e2
  have h : Ok x cX5_give "SafeDeskModel" (some .int) := h
  have hR : RmOk x 4 0 0 := RmOk.of e3 (Nat.le_refl _) (Nat.le_refl _)
  obtain ⟨out, ho⟩ : ∃ o, f_X5_give s w v σ = o := ⟨_, rfl⟩
  rw [ho] at hr
  unfold f_X5_give at ho
  show J x 0 0 _ 0 [(0, .ref (ad 0)), (1, .int s), (2, .int w), (3, .int v)] []
  refine J_aload_n (pc := 0) (n := 0) (i := 0) h 0 rfl rfl dX5_give_0 ?_
  refine J_iload_n (pc := 1) (n := 1) (i := 1) h 1 rfl rfl dX5_give_1 ?_
  refine J_cM (pc := 2) h hR (by decide) (c_X5_enter _ _ _ σ s hs) (by decide) m_475 m_477 ms_22 m_478 ⟨rfl, hd_X5_enter⟩ rfl rfl (Nat.le_of_ble_eq_true rfl) [] rfl dX5_give_2 ?_
  refine J_aload_n (pc := 5) (n := 0) (i := 0) h 0 rfl rfl dX5_give_5 ?_
  refine J_iload_n (pc := 6) (n := 1) (i := 1) h 1 rfl rfl dX5_give_6 ?_
  refine J_iload_n (pc := 7) (n := 3) (i := 3) h 3 rfl rfl dX5_give_7 ?_
  refine J_ineg (pc := 8) h dX5_give_8 ?_
  refine J_cM (pc := 9) h hR (by decide) (c_X5_put _ _ _ (f_X5_enter s σ) s (-v) hs) (by decide) m_483 m_485 ms_24 m_486 ⟨rfl, hd_X5_put⟩ rfl rfl (Nat.le_of_ble_eq_true rfl) [.int ((f_X5_put s (-v) (f_X5_enter s σ)).1)] rfl dX5_give_9 ?_
  refine J_if_eq (pc := 12) h 19 (by decide) dX5_give_12 (fun c1 => ?_) (fun c1 => ?_)
  · replace ho := (if_pos c1).symm.trans ho
    refine J_bipush (pc := 19) h (30) rfl dX5_give_19 ?_
    refine J_istore (pc := 21) h [(4, .int 30), (0, .ref (ad 0)), (1, .int s), (2, .int w), (3, .int v)] (by rw [e4]; decide) rfl dX5_give_21 ?_
    refine J_iload (pc := 23) h 0 rfl dX5_give_23 ?_
    refine J_if_ne (pc := 25) h 67 (by decide) dX5_give_25 (fun c2 => ?_) (fun c2 => ?_)
    · skip
      refine J_aload_n (pc := 67) (n := 0) (i := 0) h 1 rfl rfl dX5_give_67 ?_
      refine J_Mr5 (pc := 68) h m_337 dX5_give_68 ?_
      refine J_iload_n (pc := 71) (n := 1) (i := 1) h 2 rfl rfl dX5_give_71 ?_
      refine J_dup2 (pc := 72) h rfl rfl dX5_give_72 ?_
      refine J_Ma (pc := 73) h 5 4200 ⟨by decide, by decide⟩ rfl hs (((f_X5_put s (-v) (f_X5_enter s σ)).2) 5 s.toNatClampNeg) rfl dX5_give_73 ?_
      refine J_iconst (pc := 74) h (1) rfl dX5_give_74 ?_
      refine J_isub (pc := 75) h dX5_give_75 ?_
      refine J_Ms (pc := 76) h 5 4200 ⟨by decide, by decide⟩ rfl hs dX5_give_76 ?_
      refine J_iload (pc := 77) h 0 rfl dX5_give_77 ?_
      exact J_iret (pc := 79) h hr (by subst ho; exact ⟨rfl, rfl⟩) dX5_give_79
    · exact absurd c2 (by decide)
  · replace ho := (if_neg c1).symm.trans ho
    refine J_iconst (pc := 15) h (0) rfl dX5_give_15 ?_
    refine J_goto (pc := 16) h 21 (by decide) dX5_give_16 ?_
    refine J_istore (pc := 21) h [(4, .int 0), (0, .ref (ad 0)), (1, .int s), (2, .int w), (3, .int v)] (by rw [e4]; decide) rfl dX5_give_21 ?_
    refine J_iload (pc := 23) h 0 rfl dX5_give_23 ?_
    refine J_if_ne (pc := 25) h 67 (by decide) dX5_give_25 (fun c3 => ?_) (fun c3 => ?_)
    · exact absurd rfl c3
    · skip
      refine J_iload_n (pc := 28) (n := 2) (i := 2) h 3 rfl rfl dX5_give_28 ?_
      refine J_iconst (pc := 29) h (-1) rfl dX5_give_29 ?_
      refine J_icmp_ne (pc := 30) h 37 (by decide) dX5_give_30 (fun c4 => ?_) (fun c4 => ?_)
      · replace ho := (if_neg c4).symm.trans ho
        refine J_aload_n (pc := 37) (n := 0) (i := 0) h 1 rfl rfl dX5_give_37 ?_
        refine J_iload_n (pc := 38) (n := 2) (i := 2) h 3 rfl rfl dX5_give_38 ?_
        refine J_iload_n (pc := 39) (n := 3) (i := 3) h 4 rfl rfl dX5_give_39 ?_
        refine J_cM (pc := 40) h hR (by decide) (c_X5_put _ _ _ ((f_X5_put s (-v) (f_X5_enter s σ)).2) w v (hw.resolve_left (by assumption))) (by decide) m_483 m_485 ms_24 m_486 ⟨rfl, hd_X5_put⟩ rfl rfl (Nat.le_of_ble_eq_true rfl) [.int ((f_X5_put w v ((f_X5_put s (-v) (f_X5_enter s σ)).2)).1)] rfl dX5_give_40 ?_
        refine J_if_eq (pc := 43) h 50 (by decide) dX5_give_43 (fun c5 => ?_) (fun c5 => ?_)
        · replace ho := (if_pos c5).symm.trans ho
          refine J_bipush (pc := 50) h (30) rfl dX5_give_50 ?_
          refine J_istore (pc := 52) h [(4, .int 30), (0, .ref (ad 0)), (1, .int s), (2, .int w), (3, .int v)] (by rw [e4]; decide) rfl dX5_give_52 ?_
          refine J_iload (pc := 54) h 0 rfl dX5_give_54 ?_
          refine J_if_eq (pc := 56) h 67 (by decide) dX5_give_56 (fun c6 => ?_) (fun c6 => ?_)
          · exact absurd c6 (by decide)
          · skip
            refine J_aload_n (pc := 59) (n := 0) (i := 0) h 1 rfl rfl dX5_give_59 ?_
            refine J_iload_n (pc := 60) (n := 1) (i := 1) h 2 rfl rfl dX5_give_60 ?_
            refine J_iload_n (pc := 61) (n := 3) (i := 3) h 4 rfl rfl dX5_give_61 ?_
            refine J_cM (pc := 62) h hR (by decide) (c_X5_put _ _ _ ((f_X5_put w v ((f_X5_put s (-v) (f_X5_enter s σ)).2)).2) s v hs) (by decide) m_483 m_485 ms_24 m_486 ⟨rfl, hd_X5_put⟩ rfl rfl (Nat.le_of_ble_eq_true rfl) [.int ((f_X5_put s v ((f_X5_put w v ((f_X5_put s (-v) (f_X5_enter s σ)).2)).2)).1)] rfl dX5_give_62 ?_
            refine J_istore (pc := 65) h [(5, .int ((f_X5_put s v ((f_X5_put w v ((f_X5_put s (-v) (f_X5_enter s σ)).2)).2)).1)), (4, .int 30), (0, .ref (ad 0)), (1, .int s), (2, .int w), (3, .int v)] (by rw [e4]; decide) rfl dX5_give_65 ?_
            refine J_aload_n (pc := 67) (n := 0) (i := 0) h 2 rfl rfl dX5_give_67 ?_
            refine J_Mr5 (pc := 68) h m_337 dX5_give_68 ?_
            refine J_iload_n (pc := 71) (n := 1) (i := 1) h 3 rfl rfl dX5_give_71 ?_
            refine J_dup2 (pc := 72) h rfl rfl dX5_give_72 ?_
            refine J_Ma (pc := 73) h 5 4200 ⟨by decide, by decide⟩ rfl hs (((f_X5_put s v ((f_X5_put w v ((f_X5_put s (-v) (f_X5_enter s σ)).2)).2)).2) 5 s.toNatClampNeg) rfl dX5_give_73 ?_
            refine J_iconst (pc := 74) h (1) rfl dX5_give_74 ?_
            refine J_isub (pc := 75) h dX5_give_75 ?_
            refine J_Ms (pc := 76) h 5 4200 ⟨by decide, by decide⟩ rfl hs dX5_give_76 ?_
            refine J_iload (pc := 77) h 1 rfl dX5_give_77 ?_
            exact J_iret (pc := 79) h hr (by subst ho; exact ⟨rfl, rfl⟩) dX5_give_79
        · replace ho := (if_neg c5).symm.trans ho
          refine J_iconst (pc := 46) h (0) rfl dX5_give_46 ?_
          refine J_goto (pc := 47) h 52 (by decide) dX5_give_47 ?_
          refine J_istore (pc := 52) h [(4, .int 0), (0, .ref (ad 0)), (1, .int s), (2, .int w), (3, .int v)] (by rw [e4]; decide) rfl dX5_give_52 ?_
          refine J_iload (pc := 54) h 0 rfl dX5_give_54 ?_
          refine J_if_eq (pc := 56) h 67 (by decide) dX5_give_56 (fun c7 => ?_) (fun c7 => ?_)
          · skip
            refine J_aload_n (pc := 67) (n := 0) (i := 0) h 1 rfl rfl dX5_give_67 ?_
            refine J_Mr5 (pc := 68) h m_337 dX5_give_68 ?_
            refine J_iload_n (pc := 71) (n := 1) (i := 1) h 2 rfl rfl dX5_give_71 ?_
            refine J_dup2 (pc := 72) h rfl rfl dX5_give_72 ?_
            refine J_Ma (pc := 73) h 5 4200 ⟨by decide, by decide⟩ rfl hs (((f_X5_put w v ((f_X5_put s (-v) (f_X5_enter s σ)).2)).2) 5 s.toNatClampNeg) rfl dX5_give_73 ?_
            refine J_iconst (pc := 74) h (1) rfl dX5_give_74 ?_
            refine J_isub (pc := 75) h dX5_give_75 ?_
            refine J_Ms (pc := 76) h 5 4200 ⟨by decide, by decide⟩ rfl hs dX5_give_76 ?_
            refine J_iload (pc := 77) h 0 rfl dX5_give_77 ?_
            exact J_iret (pc := 79) h hr (by subst ho; exact ⟨rfl, rfl⟩) dX5_give_79
          · exact absurd c3 c7
      · replace ho := (if_pos c4).symm.trans ho
        refine J_iconst (pc := 33) h (1) rfl dX5_give_33 ?_
        refine J_goto (pc := 34) h 52 (by decide) dX5_give_34 ?_
        refine J_istore (pc := 52) h [(4, .int 1), (0, .ref (ad 0)), (1, .int s), (2, .int w), (3, .int v)] (by rw [e4]; decide) rfl dX5_give_52 ?_
        refine J_iload (pc := 54) h 0 rfl dX5_give_54 ?_
        refine J_if_eq (pc := 56) h 67 (by decide) dX5_give_56 (fun c8 => ?_) (fun c8 => ?_)
        · exact absurd c8 (by decide)
        · skip
          refine J_aload_n (pc := 59) (n := 0) (i := 0) h 1 rfl rfl dX5_give_59 ?_
          refine J_iload_n (pc := 60) (n := 1) (i := 1) h 2 rfl rfl dX5_give_60 ?_
          refine J_iload_n (pc := 61) (n := 3) (i := 3) h 4 rfl rfl dX5_give_61 ?_
          refine J_cM (pc := 62) h hR (by decide) (c_X5_put _ _ _ ((f_X5_put s (-v) (f_X5_enter s σ)).2) s v hs) (by decide) m_483 m_485 ms_24 m_486 ⟨rfl, hd_X5_put⟩ rfl rfl (Nat.le_of_ble_eq_true rfl) [.int ((f_X5_put s v ((f_X5_put s (-v) (f_X5_enter s σ)).2)).1)] rfl dX5_give_62 ?_
          refine J_istore (pc := 65) h [(5, .int ((f_X5_put s v ((f_X5_put s (-v) (f_X5_enter s σ)).2)).1)), (4, .int 1), (0, .ref (ad 0)), (1, .int s), (2, .int w), (3, .int v)] (by rw [e4]; decide) rfl dX5_give_65 ?_
          refine J_aload_n (pc := 67) (n := 0) (i := 0) h 2 rfl rfl dX5_give_67 ?_
          refine J_Mr5 (pc := 68) h m_337 dX5_give_68 ?_
          refine J_iload_n (pc := 71) (n := 1) (i := 1) h 3 rfl rfl dX5_give_71 ?_
          refine J_dup2 (pc := 72) h rfl rfl dX5_give_72 ?_
          refine J_Ma (pc := 73) h 5 4200 ⟨by decide, by decide⟩ rfl hs (((f_X5_put s v ((f_X5_put s (-v) (f_X5_enter s σ)).2)).2) 5 s.toNatClampNeg) rfl dX5_give_73 ?_
          refine J_iconst (pc := 74) h (1) rfl dX5_give_74 ?_
          refine J_isub (pc := 75) h dX5_give_75 ?_
          refine J_Ms (pc := 76) h 5 4200 ⟨by decide, by decide⟩ rfl hs dX5_give_76 ?_
          refine J_iload (pc := 77) h 1 rfl dX5_give_77 ?_
          exact J_iret (pc := 79) h hr (by subst ho; exact ⟨rfl, rfl⟩) dX5_give_79
def f_X5_clear (pl : Int32) (σ : Sg) : Int32 × Sg := (if f_X5_in pl 0 5 = 0 then ((-1), σ) else (σ 8 pl.toNatClampNeg, up2 σ 8 pl.toNatClampNeg 0))
theorem hd_X5_clear : yX5_clear.cls ≠ "java/lang/invoke/MethodHandle" ∧ yX5_clear.cls ≠ "java/lang/invoke/VarHandle" ∧ (parseMethodDescriptor yX5_clear.desc).map (fun d => d.parameters.length) = some 1 := by decide +kernel
set_option maxHeartbeats 4000000 in
set_option maxRecDepth 20000 in
theorem c_X5_clear (l : Launch) (g : Gy) (ad : Nat → Nat) (σ : Sg) (pl : Int32)  : Con l g yX5_clear cX5_clear 3 (some .int) (rmL 1) [.ref (ad 0), .int pl] (wM g ad σ) (Det (some (.int (f_X5_clear pl σ).1)) (wM g ad ((f_X5_clear pl σ).2))) := by
  refine Con.of (by decide) (Nat.le_of_ble_eq_true rfl) ?_
  intro x h e1 e2 e3 e4 e5 hr
  subst e1 e2
  have h : Ok x cX5_clear "SafeDeskModel" (some .int) := h
  have hR : RmOk x 1 0 0 := RmOk.of e3 (Nat.le_refl _) (Nat.le_refl _)
  obtain ⟨out, ho⟩ : ∃ o, f_X5_clear pl σ = o := ⟨_, rfl⟩
  rw [ho] at hr
  unfold f_X5_clear at ho
  show J x 0 0 _ 0 [(0, .ref (ad 0)), (1, .int pl)] []
  refine J_iload_n (pc := 0) (n := 1) (i := 1) h 1 rfl rfl dX5_clear_0 ?_
  refine J_iconst (pc := 1) h (0) rfl dX5_clear_1 ?_
  refine J_iconst (pc := 2) h (5) rfl dX5_clear_2 ?_
  refine J_cS (pc := 3) h hR (by decide) (c_X5_in _ _ _ pl 0 5 ) (by decide) m_415 m_416 m_3 m_417 hd_X5_in rfl rfl (Nat.le_of_ble_eq_true rfl) [.int (f_X5_in pl 0 5)] rfl dX5_clear_3 ?_
  refine J_if_ne (pc := 6) h 11 (by decide) dX5_clear_6 (fun c1 => ?_) (fun c1 => ?_)
  · replace ho := (if_neg c1).symm.trans ho
    refine J_aload_n (pc := 11) (n := 0) (i := 0) h 0 rfl rfl dX5_clear_11 ?_
    refine J_Mr8 (pc := 12) h m_340 dX5_clear_12 ?_
    refine J_iload_n (pc := 15) (n := 1) (i := 1) h 1 rfl rfl dX5_clear_15 ?_
    refine J_Ma (pc := 16) h 8 6 ⟨by decide, by decide⟩ rfl (in_plan (by assumption)) (σ 8 pl.toNatClampNeg) rfl dX5_clear_16 ?_
    refine J_istore_n (pc := 17) (n := 2) (i := 2) h [(2, .int (σ 8 pl.toNatClampNeg)), (0, .ref (ad 0)), (1, .int pl)] rfl (by rw [e4]; decide) rfl dX5_clear_17 ?_
    refine J_aload_n (pc := 18) (n := 0) (i := 0) h 1 rfl rfl dX5_clear_18 ?_
    refine J_Mr8 (pc := 19) h m_340 dX5_clear_19 ?_
    refine J_iload_n (pc := 22) (n := 1) (i := 1) h 2 rfl rfl dX5_clear_22 ?_
    refine J_iconst (pc := 23) h (0) rfl dX5_clear_23 ?_
    refine J_Ms (pc := 24) h 8 6 ⟨by decide, by decide⟩ rfl (in_plan (by assumption)) dX5_clear_24 ?_
    refine J_iload_n (pc := 25) (n := 2) (i := 2) h 0 rfl rfl dX5_clear_25 ?_
    exact J_iret (pc := 26) h hr (by subst ho; exact ⟨rfl, rfl⟩) dX5_clear_26
  · replace ho := (if_pos c1).symm.trans ho
    refine J_iconst (pc := 9) h (-1) rfl dX5_clear_9 ?_
    exact J_iret (pc := 10) h hr (by subst ho; exact ⟨rfl, rfl⟩) dX5_clear_10
def f_X5_leave (a : Int32) (σ : Sg) : Sg := (if 120 ≤ σ 0 18 then σ else (up2 (up2 σ 12 ((σ 0 18).toNatClampNeg) a) 0 18 ((σ 0 18) + 1)))
theorem hd_X5_leave : yX5_leave.cls ≠ "java/lang/invoke/MethodHandle" ∧ yX5_leave.cls ≠ "java/lang/invoke/VarHandle" ∧ (parseMethodDescriptor yX5_leave.desc).map (fun d => d.parameters.length) = some 1 := by decide +kernel
set_option maxHeartbeats 4000000 in
set_option maxRecDepth 20000 in
theorem c_X5_leave (l : Launch) (g : Gy) (ad : Nat → Nat) (σ : Sg) (a : Int32) (ht : ¬ σ 0 18 < 0) : Con l g yX5_leave cX5_leave 2 none (rmL 0) [.ref (ad 0), .int a] (wM g ad σ) (Det none (wM g ad (f_X5_leave a σ))) := by
  refine Con.of (by decide) (Nat.le_of_ble_eq_true rfl) ?_
  intro x h e1 e2 e3 e4 e5 hr
  subst e1 e2
  have h : Ok x cX5_leave "SafeDeskModel" none := h
  have hR : RmOk x 0 0 0 := RmOk.of e3 (Nat.le_refl _) (Nat.le_refl _)
  obtain ⟨out, ho⟩ : ∃ o, f_X5_leave a σ = o := ⟨_, rfl⟩
  rw [ho] at hr
  unfold f_X5_leave at ho
  show J x 0 0 _ 0 [(0, .ref (ad 0)), (1, .int a)] []
  refine J_aload_n (pc := 0) (n := 0) (i := 0) h 0 rfl rfl dX5_leave_0 ?_
  refine J_Mg18 (pc := 1) h m_350 (σ 0 18) rfl dX5_leave_1 ?_
  refine J_bipush (pc := 4) h (120) rfl dX5_leave_4 ?_
  refine J_icmp_ge (pc := 6) h 29 (by decide) dX5_leave_6 (fun c1 => ?_) (fun c1 => ?_)
  · replace ho := (if_pos c1).symm.trans ho
    exact J_vret (pc := 29) h hr (by subst ho; exact ⟨rfl, rfl⟩) dX5_leave_29
  · replace ho := (if_neg c1).symm.trans ho
    refine J_aload_n (pc := 9) (n := 0) (i := 0) h 0 rfl rfl dX5_leave_9 ?_
    refine J_Mr19 (pc := 10) h m_351 dX5_leave_10 ?_
    refine J_aload_n (pc := 13) (n := 0) (i := 0) h 0 rfl rfl dX5_leave_13 ?_
    refine J_Mg18 (pc := 14) h m_350 (σ 0 18) rfl dX5_leave_14 ?_
    refine J_iload_n (pc := 17) (n := 1) (i := 1) h 1 rfl rfl dX5_leave_17 ?_
    refine J_Ms (pc := 18) h 12 120 ⟨by decide, by decide⟩ rfl (vp_of (b := 120) rfl ht (by assumption)) dX5_leave_18 ?_
    refine J_aload_n (pc := 19) (n := 0) (i := 0) h 0 rfl rfl dX5_leave_19 ?_
    refine J_dup (pc := 20) h rfl dX5_leave_20 ?_
    refine J_Mg18 (pc := 21) h m_350 (σ 0 18) (up2_off _ _ (by decide)) dX5_leave_21 ?_
    refine J_iconst (pc := 24) h (1) rfl dX5_leave_24 ?_
    refine J_iadd (pc := 25) h dX5_leave_25 ?_
    refine J_Mp18 (pc := 26) h m_350 dX5_leave_26 ?_
    exact J_vret (pc := 29) h hr (by subst ho; exact ⟨rfl, rfl⟩) dX5_leave_29
def f_X5_push (wt : Int32) (pl : Int32) (a : Int32) (b : Int32) (oo : Int32) (σ : Sg) : Sg := (up2 (up2 (up2 (up2 (up2 (up2 σ 13 ((σ 0 20).toNatClampNeg) wt) 14 ((σ 0 20).toNatClampNeg) pl) 15 ((σ 0 20).toNatClampNeg) a) 16 ((σ 0 20).toNatClampNeg) b) 17 ((σ 0 20).toNatClampNeg) oo) 0 20 ((σ 0 20) + 1))
theorem hd_X5_push : yX5_push.cls ≠ "java/lang/invoke/MethodHandle" ∧ yX5_push.cls ≠ "java/lang/invoke/VarHandle" ∧ (parseMethodDescriptor yX5_push.desc).map (fun d => d.parameters.length) = some 5 := by decide +kernel
set_option maxHeartbeats 4000000 in
set_option maxRecDepth 20000 in
theorem c_X5_push (l : Launch) (g : Gy) (ad : Nat → Nat) (σ : Sg) (wt : Int32) (pl : Int32) (a : Int32) (b : Int32) (oo : Int32) (hb : vp_in (σ 0 20) 80) : Con l g yX5_push cX5_push 6 none (rmL 0) [.ref (ad 0), .int wt, .int pl, .int a, .int b, .int oo] (wM g ad σ) (Det none (wM g ad (f_X5_push wt pl a b oo σ))) := by
  refine Con.of (by decide) (Nat.le_of_ble_eq_true rfl) ?_
  intro x h e1 e2 e3 e4 e5 hr
  subst e1 e2
  have h : Ok x cX5_push "SafeDeskModel" none := h
  have hR : RmOk x 0 0 0 := RmOk.of e3 (Nat.le_refl _) (Nat.le_refl _)
  obtain ⟨out, ho⟩ : ∃ o, f_X5_push wt pl a b oo σ = o := ⟨_, rfl⟩
  rw [ho] at hr
  unfold f_X5_push at ho
  show J x 0 0 _ 0 [(0, .ref (ad 0)), (1, .int wt), (2, .int pl), (3, .int a), (4, .int b), (5, .int oo)] []
  refine J_aload_n (pc := 0) (n := 0) (i := 0) h 0 rfl rfl dX5_push_0 ?_
  refine J_Mr21 (pc := 1) h m_353 dX5_push_1 ?_
  refine J_aload_n (pc := 4) (n := 0) (i := 0) h 0 rfl rfl dX5_push_4 ?_
  refine J_Mg20 (pc := 5) h m_352 (σ 0 20) rfl dX5_push_5 ?_
  refine J_iload_n (pc := 8) (n := 1) (i := 1) h 1 rfl rfl dX5_push_8 ?_
  refine J_Ms (pc := 9) h 13 80 ⟨by decide, by decide⟩ rfl hb dX5_push_9 ?_
  refine J_aload_n (pc := 10) (n := 0) (i := 0) h 0 rfl rfl dX5_push_10 ?_
  refine J_Mr22 (pc := 11) h m_354 dX5_push_11 ?_
  refine J_aload_n (pc := 14) (n := 0) (i := 0) h 0 rfl rfl dX5_push_14 ?_
  refine J_Mg20 (pc := 15) h m_352 (σ 0 20) (up2_off _ _ (by decide)) dX5_push_15 ?_
  refine J_iload_n (pc := 18) (n := 2) (i := 2) h 2 rfl rfl dX5_push_18 ?_
  refine J_Ms (pc := 19) h 14 80 ⟨by decide, by decide⟩ rfl hb dX5_push_19 ?_
  refine J_aload_n (pc := 20) (n := 0) (i := 0) h 0 rfl rfl dX5_push_20 ?_
  refine J_Mr23 (pc := 21) h m_355 dX5_push_21 ?_
  refine J_aload_n (pc := 24) (n := 0) (i := 0) h 0 rfl rfl dX5_push_24 ?_
  refine J_Mg20 (pc := 25) h m_352 (σ 0 20) ((up2_off _ _ (by decide)).trans (up2_off _ _ (by decide))) dX5_push_25 ?_
  refine J_iload_n (pc := 28) (n := 3) (i := 3) h 3 rfl rfl dX5_push_28 ?_
  refine J_Ms (pc := 29) h 15 80 ⟨by decide, by decide⟩ rfl hb dX5_push_29 ?_
  refine J_aload_n (pc := 30) (n := 0) (i := 0) h 0 rfl rfl dX5_push_30 ?_
  refine J_Mr24 (pc := 31) h m_356 dX5_push_31 ?_
  refine J_aload_n (pc := 34) (n := 0) (i := 0) h 0 rfl rfl dX5_push_34 ?_
  refine J_Mg20 (pc := 35) h m_352 (σ 0 20) ((up2_off _ _ (by decide)).trans ((up2_off _ _ (by decide)).trans (up2_off _ _ (by decide)))) dX5_push_35 ?_
  refine J_iload (pc := 38) h 4 rfl dX5_push_38 ?_
  refine J_Ms (pc := 40) h 16 80 ⟨by decide, by decide⟩ rfl hb dX5_push_40 ?_
  refine J_aload_n (pc := 41) (n := 0) (i := 0) h 0 rfl rfl dX5_push_41 ?_
  refine J_Mr25 (pc := 42) h m_357 dX5_push_42 ?_
  refine J_aload_n (pc := 45) (n := 0) (i := 0) h 0 rfl rfl dX5_push_45 ?_
  refine J_Mg20 (pc := 46) h m_352 (σ 0 20) ((up2_off _ _ (by decide)).trans ((up2_off _ _ (by decide)).trans ((up2_off _ _ (by decide)).trans (up2_off _ _ (by decide))))) dX5_push_46 ?_
  refine J_iload (pc := 49) h 5 rfl dX5_push_49 ?_
  refine J_Ms (pc := 51) h 17 80 ⟨by decide, by decide⟩ rfl hb dX5_push_51 ?_
  refine J_aload_n (pc := 52) (n := 0) (i := 0) h 0 rfl rfl dX5_push_52 ?_
  refine J_dup (pc := 53) h rfl dX5_push_53 ?_
  refine J_Mg20 (pc := 54) h m_352 (σ 0 20) ((up2_off _ _ (by decide)).trans ((up2_off _ _ (by decide)).trans ((up2_off _ _ (by decide)).trans ((up2_off _ _ (by decide)).trans (up2_off _ _ (by decide)))))) dX5_push_54 ?_
  refine J_iconst (pc := 57) h (1) rfl dX5_push_57 ?_
  refine J_iadd (pc := 58) h dX5_push_58 ?_
  refine J_Mp20 (pc := 59) h m_352 dX5_push_59 ?_
  exact J_vret (pc := 62) h hr (by subst ho; exact ⟨rfl, rfl⟩) dX5_push_62
def f_X5_beginPlan (pl : Int32) (σ : Sg) : Sg := (if (σ 0 16) + 1 ≤ σ 0 17 then (f_X5_push 0 pl 0 (σ 8 pl.toNatClampNeg) (-1) (up2 (up2 σ 0 16 ((σ 0 16) + 1)) 0 17 (σ 0 17))) else (f_X5_push 0 pl 0 (σ 8 pl.toNatClampNeg) (-1) (up2 (up2 σ 0 16 ((σ 0 16) + 1)) 0 17 ((σ 0 16) + 1))))
theorem hd_X5_beginPlan : yX5_beginPlan.cls ≠ "java/lang/invoke/MethodHandle" ∧ yX5_beginPlan.cls ≠ "java/lang/invoke/VarHandle" ∧ (parseMethodDescriptor yX5_beginPlan.desc).map (fun d => d.parameters.length) = some 1 := by decide +kernel
set_option maxHeartbeats 4000000 in
set_option maxRecDepth 20000 in
theorem c_X5_beginPlan (l : Launch) (g : Gy) (ad : Nat → Nat) (σ : Sg) (pl : Int32) (hp : vp_in pl 6) (hb : vp_in (σ 0 20) 80) : Con l g yX5_beginPlan cX5_beginPlan 2 none (rmL 1) [.ref (ad 0), .int pl] (wM g ad σ) (Det none (wM g ad (f_X5_beginPlan pl σ))) := by
  refine Con.of (by decide) (Nat.le_of_ble_eq_true rfl) ?_
  intro x h e1 e2 e3 e4 e5 hr
  subst e1 e2
  have h : Ok x cX5_beginPlan "SafeDeskModel" none := h
  have hR : RmOk x 1 0 0 := RmOk.of e3 (Nat.le_refl _) (Nat.le_refl _)
  obtain ⟨out, ho⟩ : ∃ o, f_X5_beginPlan pl σ = o := ⟨_, rfl⟩
  rw [ho] at hr
  unfold f_X5_beginPlan at ho
  show J x 0 0 _ 0 [(0, .ref (ad 0)), (1, .int pl)] []
  refine J_aload_n (pc := 0) (n := 0) (i := 0) h 0 rfl rfl dX5_beginPlan_0 ?_
  refine J_dup (pc := 1) h rfl dX5_beginPlan_1 ?_
  refine J_Mg16 (pc := 2) h m_348 (σ 0 16) rfl dX5_beginPlan_2 ?_
  refine J_iconst (pc := 5) h (1) rfl dX5_beginPlan_5 ?_
  refine J_iadd (pc := 6) h dX5_beginPlan_6 ?_
  refine J_Mp16 (pc := 7) h m_348 dX5_beginPlan_7 ?_
  refine J_aload_n (pc := 10) (n := 0) (i := 0) h 0 rfl rfl dX5_beginPlan_10 ?_
  refine J_aload_n (pc := 11) (n := 0) (i := 0) h 0 rfl rfl dX5_beginPlan_11 ?_
  refine J_Mg16 (pc := 12) h m_348 ((σ 0 16) + 1) (up2_self _ _ _ _) dX5_beginPlan_12 ?_
  refine J_aload_n (pc := 15) (n := 0) (i := 0) h 0 rfl rfl dX5_beginPlan_15 ?_
  refine J_Mg17 (pc := 16) h m_349 (σ 0 17) (up2_row _ _ _ (by decide)) dX5_beginPlan_16 ?_
  refine J_icmp_le (pc := 19) h 29 (by decide) dX5_beginPlan_19 (fun c1 => ?_) (fun c1 => ?_)
  · replace ho := (if_pos c1).symm.trans ho
    refine J_aload_n (pc := 29) (n := 0) (i := 0) h 0 rfl rfl dX5_beginPlan_29 ?_
    refine J_Mg17 (pc := 30) h m_349 (σ 0 17) (up2_row _ _ _ (by decide)) dX5_beginPlan_30 ?_
    refine J_Mp17 (pc := 33) h m_349 dX5_beginPlan_33 ?_
    refine J_aload_n (pc := 36) (n := 0) (i := 0) h 0 rfl rfl dX5_beginPlan_36 ?_
    refine J_iconst (pc := 37) h (0) rfl dX5_beginPlan_37 ?_
    refine J_iload_n (pc := 38) (n := 1) (i := 1) h 1 rfl rfl dX5_beginPlan_38 ?_
    refine J_iconst (pc := 39) h (0) rfl dX5_beginPlan_39 ?_
    refine J_aload_n (pc := 40) (n := 0) (i := 0) h 0 rfl rfl dX5_beginPlan_40 ?_
    refine J_Mr8 (pc := 41) h m_340 dX5_beginPlan_41 ?_
    refine J_iload_n (pc := 44) (n := 1) (i := 1) h 1 rfl rfl dX5_beginPlan_44 ?_
    refine J_Ma (pc := 45) h 8 6 ⟨by decide, by decide⟩ rfl hp (σ 8 pl.toNatClampNeg) ((up2_off _ _ (by decide)).trans (up2_off _ _ (by decide))) dX5_beginPlan_45 ?_
    refine J_iconst (pc := 46) h (-1) rfl dX5_beginPlan_46 ?_
    refine J_cM (pc := 47) h hR (by decide) (c_X5_push _ _ _ (up2 (up2 σ 0 16 ((σ 0 16) + 1)) 0 17 (σ 0 17)) 0 pl 0 (σ 8 pl.toNatClampNeg) (-1) (by rw [up2_row _ _ _ (by decide), up2_row _ _ _ (by decide)]; exact hb)) (by decide) m_443 m_445 ms_14 m_446 ⟨rfl, hd_X5_push⟩ rfl rfl (Nat.le_of_ble_eq_true rfl) [] rfl dX5_beginPlan_47 ?_
    exact J_vret (pc := 50) h hr (by subst ho; exact ⟨rfl, rfl⟩) dX5_beginPlan_50
  · replace ho := (if_neg c1).symm.trans ho
    refine J_aload_n (pc := 22) (n := 0) (i := 0) h 0 rfl rfl dX5_beginPlan_22 ?_
    refine J_Mg16 (pc := 23) h m_348 ((σ 0 16) + 1) (up2_self _ _ _ _) dX5_beginPlan_23 ?_
    refine J_goto (pc := 26) h 33 (by decide) dX5_beginPlan_26 ?_
    refine J_Mp17 (pc := 33) h m_349 dX5_beginPlan_33 ?_
    refine J_aload_n (pc := 36) (n := 0) (i := 0) h 0 rfl rfl dX5_beginPlan_36 ?_
    refine J_iconst (pc := 37) h (0) rfl dX5_beginPlan_37 ?_
    refine J_iload_n (pc := 38) (n := 1) (i := 1) h 1 rfl rfl dX5_beginPlan_38 ?_
    refine J_iconst (pc := 39) h (0) rfl dX5_beginPlan_39 ?_
    refine J_aload_n (pc := 40) (n := 0) (i := 0) h 0 rfl rfl dX5_beginPlan_40 ?_
    refine J_Mr8 (pc := 41) h m_340 dX5_beginPlan_41 ?_
    refine J_iload_n (pc := 44) (n := 1) (i := 1) h 1 rfl rfl dX5_beginPlan_44 ?_
    refine J_Ma (pc := 45) h 8 6 ⟨by decide, by decide⟩ rfl hp (σ 8 pl.toNatClampNeg) ((up2_off _ _ (by decide)).trans (up2_off _ _ (by decide))) dX5_beginPlan_45 ?_
    refine J_iconst (pc := 46) h (-1) rfl dX5_beginPlan_46 ?_
    refine J_cM (pc := 47) h hR (by decide) (c_X5_push _ _ _ (up2 (up2 σ 0 16 ((σ 0 16) + 1)) 0 17 ((σ 0 16) + 1)) 0 pl 0 (σ 8 pl.toNatClampNeg) (-1) (by rw [up2_row _ _ _ (by decide), up2_row _ _ _ (by decide)]; exact hb)) (by decide) m_443 m_445 ms_14 m_446 ⟨rfl, hd_X5_push⟩ rfl rfl (Nat.le_of_ble_eq_true rfl) [] rfl dX5_beginPlan_47 ?_
    exact J_vret (pc := 50) h hr (by subst ho; exact ⟨rfl, rfl⟩) dX5_beginPlan_50
def f_X5_pop  (σ : Sg) : Sg := (if σ 13 (((σ 0 20) - 1).toNatClampNeg) = 1 then (f_X5_leave 2 (up2 (up2 σ 0 20 ((σ 0 20) - 1)) 5 ((σ 17 (((σ 0 20) - 1).toNatClampNeg)).toNatClampNeg) ((σ 5 ((σ 17 (((σ 0 20) - 1).toNatClampNeg)).toNatClampNeg)) - 1))) else (if σ 13 (((σ 0 20) - 1).toNatClampNeg) = 0 then (up2 (up2 σ 0 20 ((σ 0 20) - 1)) 0 16 ((σ 0 16) - 1)) else (up2 σ 0 20 ((σ 0 20) - 1))))
theorem hd_X5_pop : yX5_pop.cls ≠ "java/lang/invoke/MethodHandle" ∧ yX5_pop.cls ≠ "java/lang/invoke/VarHandle" ∧ (parseMethodDescriptor yX5_pop.desc).map (fun d => d.parameters.length) = some 0 := by decide +kernel
set_option maxHeartbeats 4000000 in
set_option maxRecDepth 20000 in
theorem c_X5_pop (l : Launch) (g : Gy) (ad : Nat → Nat) (σ : Sg)  (hb : vp_in ((σ 0 20) - 1) 80) (ha : σ 13 ((σ 0 20) - 1).toNatClampNeg = 1 → vp_in (σ 17 ((σ 0 20) - 1).toNatClampNeg) 4200) (ht : ¬ σ 0 18 < 0) : Con l g yX5_pop cX5_pop 1 none (rmL 1) [.ref (ad 0)] (wM g ad σ) (Det none (wM g ad (f_X5_pop  σ))) := by
  refine Con.of (by decide) (Nat.le_of_ble_eq_true rfl) ?_
  intro x h e1 e2 e3 e4 e5 hr
  subst e1 e2
  have h : Ok x cX5_pop "SafeDeskModel" none := h
  have hR : RmOk x 1 0 0 := RmOk.of e3 (Nat.le_refl _) (Nat.le_refl _)
  obtain ⟨out, ho⟩ : ∃ o, f_X5_pop  σ = o := ⟨_, rfl⟩
  rw [ho] at hr
  unfold f_X5_pop at ho
  show J x 0 0 _ 0 [(0, .ref (ad 0))] []
  refine J_aload_n (pc := 0) (n := 0) (i := 0) h 0 rfl rfl dX5_pop_0 ?_
  refine J_dup (pc := 1) h rfl dX5_pop_1 ?_
  refine J_Mg20 (pc := 2) h m_352 (σ 0 20) rfl dX5_pop_2 ?_
  refine J_iconst (pc := 5) h (1) rfl dX5_pop_5 ?_
  refine J_isub (pc := 6) h dX5_pop_6 ?_
  refine J_Mp20 (pc := 7) h m_352 dX5_pop_7 ?_
  refine J_aload_n (pc := 10) (n := 0) (i := 0) h 0 rfl rfl dX5_pop_10 ?_
  refine J_Mr21 (pc := 11) h m_353 dX5_pop_11 ?_
  refine J_aload_n (pc := 14) (n := 0) (i := 0) h 0 rfl rfl dX5_pop_14 ?_
  refine J_Mg20 (pc := 15) h m_352 ((σ 0 20) - 1) (up2_self _ _ _ _) dX5_pop_15 ?_
  refine J_Ma (pc := 18) h 13 80 ⟨by decide, by decide⟩ rfl hb (σ 13 (((σ 0 20) - 1).toNatClampNeg)) (up2_off _ _ (by decide)) dX5_pop_18 ?_
  refine J_iconst (pc := 19) h (1) rfl dX5_pop_19 ?_
  refine J_icmp_ne (pc := 20) h 49 (by decide) dX5_pop_20 (fun c1 => ?_) (fun c1 => ?_)
  · replace ho := (if_neg c1).symm.trans ho
    refine J_aload_n (pc := 49) (n := 0) (i := 0) h 0 rfl rfl dX5_pop_49 ?_
    refine J_Mr21 (pc := 50) h m_353 dX5_pop_50 ?_
    refine J_aload_n (pc := 53) (n := 0) (i := 0) h 0 rfl rfl dX5_pop_53 ?_
    refine J_Mg20 (pc := 54) h m_352 ((σ 0 20) - 1) (up2_self _ _ _ _) dX5_pop_54 ?_
    refine J_Ma (pc := 57) h 13 80 ⟨by decide, by decide⟩ rfl hb (σ 13 (((σ 0 20) - 1).toNatClampNeg)) (up2_off _ _ (by decide)) dX5_pop_57 ?_
    refine J_if_ne (pc := 58) h 71 (by decide) dX5_pop_58 (fun c2 => ?_) (fun c2 => ?_)
    · replace ho := (if_neg c2).symm.trans ho
      exact J_vret (pc := 71) h hr (by subst ho; exact ⟨rfl, rfl⟩) dX5_pop_71
    · replace ho := (if_pos c2).symm.trans ho
      refine J_aload_n (pc := 61) (n := 0) (i := 0) h 0 rfl rfl dX5_pop_61 ?_
      refine J_dup (pc := 62) h rfl dX5_pop_62 ?_
      refine J_Mg16 (pc := 63) h m_348 (σ 0 16) (up2_row _ _ _ (by decide)) dX5_pop_63 ?_
      refine J_iconst (pc := 66) h (1) rfl dX5_pop_66 ?_
      refine J_isub (pc := 67) h dX5_pop_67 ?_
      refine J_Mp16 (pc := 68) h m_348 dX5_pop_68 ?_
      exact J_vret (pc := 71) h hr (by subst ho; exact ⟨rfl, rfl⟩) dX5_pop_71
  · replace ho := (if_pos c1).symm.trans ho
    refine J_aload_n (pc := 23) (n := 0) (i := 0) h 0 rfl rfl dX5_pop_23 ?_
    refine J_Mr5 (pc := 24) h m_337 dX5_pop_24 ?_
    refine J_aload_n (pc := 27) (n := 0) (i := 0) h 0 rfl rfl dX5_pop_27 ?_
    refine J_Mr25 (pc := 28) h m_357 dX5_pop_28 ?_
    refine J_aload_n (pc := 31) (n := 0) (i := 0) h 0 rfl rfl dX5_pop_31 ?_
    refine J_Mg20 (pc := 32) h m_352 ((σ 0 20) - 1) (up2_self _ _ _ _) dX5_pop_32 ?_
    refine J_Ma (pc := 35) h 17 80 ⟨by decide, by decide⟩ rfl hb (σ 17 (((σ 0 20) - 1).toNatClampNeg)) (up2_off _ _ (by decide)) dX5_pop_35 ?_
    refine J_dup2 (pc := 36) h rfl rfl dX5_pop_36 ?_
    refine J_Ma (pc := 37) h 5 4200 ⟨by decide, by decide⟩ rfl (ha (by assumption)) (σ 5 ((σ 17 (((σ 0 20) - 1).toNatClampNeg)).toNatClampNeg)) (up2_off _ _ (by decide)) dX5_pop_37 ?_
    refine J_iconst (pc := 38) h (1) rfl dX5_pop_38 ?_
    refine J_isub (pc := 39) h dX5_pop_39 ?_
    refine J_Ms (pc := 40) h 5 4200 ⟨by decide, by decide⟩ rfl (ha (by assumption)) dX5_pop_40 ?_
    refine J_aload_n (pc := 41) (n := 0) (i := 0) h 0 rfl rfl dX5_pop_41 ?_
    refine J_iconst (pc := 42) h (2) rfl dX5_pop_42 ?_
    refine J_cM (pc := 43) h hR (by decide) (c_X5_leave _ _ _ (up2 (up2 σ 0 20 ((σ 0 20) - 1)) 5 ((σ 17 (((σ 0 20) - 1).toNatClampNeg)).toNatClampNeg) ((σ 5 ((σ 17 (((σ 0 20) - 1).toNatClampNeg)).toNatClampNeg)) - 1)) 2 (by rw [up2_off _ _ (by decide), up2_row _ _ _ (by decide)]; exact ht)) (by decide) m_451 m_453 ms_16 m_454 ⟨rfl, hd_X5_leave⟩ rfl rfl (Nat.le_of_ble_eq_true rfl) [] rfl dX5_pop_43 ?_
    refine J_goto (pc := 46) h 71 (by decide) dX5_pop_46 ?_
    exact J_vret (pc := 71) h hr (by subst ho; exact ⟨rfl, rfl⟩) dX5_pop_71
def f_X5_within (wt : Int32) (v : Int32) (oo : Int32) (σ : Sg) : Sg := (if σ 16 (((σ 0 20) - 1).toNatClampNeg) ≤ (σ 15 (((σ 0 20) - 1).toNatClampNeg)) + v then (f_X5_push wt (σ 14 (((σ 0 20) - 1).toNatClampNeg)) (σ 15 (((σ 0 20) - 1).toNatClampNeg)) (σ 16 (((σ 0 20) - 1).toNatClampNeg)) oo (up2 σ 15 (((σ 0 20) - 1).toNatClampNeg) (σ 16 (((σ 0 20) - 1).toNatClampNeg)))) else (f_X5_push wt (σ 14 (((σ 0 20) - 1).toNatClampNeg)) (σ 15 (((σ 0 20) - 1).toNatClampNeg)) ((σ 15 (((σ 0 20) - 1).toNatClampNeg)) + v) oo (up2 σ 15 (((σ 0 20) - 1).toNatClampNeg) ((σ 15 (((σ 0 20) - 1).toNatClampNeg)) + v))))
theorem hd_X5_within : yX5_within.cls ≠ "java/lang/invoke/MethodHandle" ∧ yX5_within.cls ≠ "java/lang/invoke/VarHandle" ∧ (parseMethodDescriptor yX5_within.desc).map (fun d => d.parameters.length) = some 3 := by decide +kernel
set_option maxHeartbeats 4000000 in
set_option maxRecDepth 20000 in
theorem c_X5_within (l : Launch) (g : Gy) (ad : Nat → Nat) (σ : Sg) (wt : Int32) (v : Int32) (oo : Int32) (hb : vp_in ((σ 0 20) - 1) 80) (hb2 : vp_in (σ 0 20) 80) : Con l g yX5_within cX5_within 7 none (rmL 1) [.ref (ad 0), .int wt, .int v, .int oo] (wM g ad σ) (Det none (wM g ad (f_X5_within wt v oo σ))) := by
  refine Con.of (by decide) (Nat.le_of_ble_eq_true rfl) ?_
  intro x h e1 e2 e3 e4 e5 hr
  subst e1 e2
  have h : Ok x cX5_within "SafeDeskModel" none := h
  have hR : RmOk x 1 0 0 := RmOk.of e3 (Nat.le_refl _) (Nat.le_refl _)
  obtain ⟨out, ho⟩ : ∃ o, f_X5_within wt v oo σ = o := ⟨_, rfl⟩
  rw [ho] at hr
  unfold f_X5_within at ho
  show J x 0 0 _ 0 [(0, .ref (ad 0)), (1, .int wt), (2, .int v), (3, .int oo)] []
  refine J_aload_n (pc := 0) (n := 0) (i := 0) h 0 rfl rfl dX5_within_0 ?_
  refine J_Mg20 (pc := 1) h m_352 (σ 0 20) rfl dX5_within_1 ?_
  refine J_iconst (pc := 4) h (1) rfl dX5_within_4 ?_
  refine J_isub (pc := 5) h dX5_within_5 ?_
  refine J_istore (pc := 6) h [(4, .int ((σ 0 20) - 1)), (0, .ref (ad 0)), (1, .int wt), (2, .int v), (3, .int oo)] (by rw [e4]; decide) rfl dX5_within_6 ?_
  refine J_aload_n (pc := 8) (n := 0) (i := 0) h 1 rfl rfl dX5_within_8 ?_
  refine J_Mr23 (pc := 9) h m_355 dX5_within_9 ?_
  refine J_iload (pc := 12) h 0 rfl dX5_within_12 ?_
  refine J_Ma (pc := 14) h 15 80 ⟨by decide, by decide⟩ rfl hb (σ 15 (((σ 0 20) - 1).toNatClampNeg)) rfl dX5_within_14 ?_
  refine J_istore (pc := 15) h [(5, .int (σ 15 (((σ 0 20) - 1).toNatClampNeg))), (4, .int ((σ 0 20) - 1)), (0, .ref (ad 0)), (1, .int wt), (2, .int v), (3, .int oo)] (by rw [e4]; decide) rfl dX5_within_15 ?_
  refine J_iload (pc := 17) h 0 rfl dX5_within_17 ?_
  refine J_iload_n (pc := 19) (n := 2) (i := 2) h 4 rfl rfl dX5_within_19 ?_
  refine J_iadd (pc := 20) h dX5_within_20 ?_
  refine J_aload_n (pc := 21) (n := 0) (i := 0) h 2 rfl rfl dX5_within_21 ?_
  refine J_Mr24 (pc := 22) h m_356 dX5_within_22 ?_
  refine J_iload (pc := 25) h 1 rfl dX5_within_25 ?_
  refine J_Ma (pc := 27) h 16 80 ⟨by decide, by decide⟩ rfl hb (σ 16 (((σ 0 20) - 1).toNatClampNeg)) rfl dX5_within_27 ?_
  refine J_icmp_ge (pc := 28) h 38 (by decide) dX5_within_28 (fun c1 => ?_) (fun c1 => ?_)
  · replace ho := (if_pos c1).symm.trans ho
    refine J_aload_n (pc := 38) (n := 0) (i := 0) h 2 rfl rfl dX5_within_38 ?_
    refine J_Mr24 (pc := 39) h m_356 dX5_within_39 ?_
    refine J_iload (pc := 42) h 1 rfl dX5_within_42 ?_
    refine J_Ma (pc := 44) h 16 80 ⟨by decide, by decide⟩ rfl hb (σ 16 (((σ 0 20) - 1).toNatClampNeg)) rfl dX5_within_44 ?_
    refine J_istore (pc := 45) h [(6, .int (σ 16 (((σ 0 20) - 1).toNatClampNeg))), (5, .int (σ 15 (((σ 0 20) - 1).toNatClampNeg))), (4, .int ((σ 0 20) - 1)), (0, .ref (ad 0)), (1, .int wt), (2, .int v), (3, .int oo)] (by rw [e4]; decide) rfl dX5_within_45 ?_
    refine J_aload_n (pc := 47) (n := 0) (i := 0) h 3 rfl rfl dX5_within_47 ?_
    refine J_Mr23 (pc := 48) h m_355 dX5_within_48 ?_
    refine J_iload (pc := 51) h 2 rfl dX5_within_51 ?_
    refine J_iload (pc := 53) h 0 rfl dX5_within_53 ?_
    refine J_Ms (pc := 55) h 15 80 ⟨by decide, by decide⟩ rfl hb dX5_within_55 ?_
    refine J_aload_n (pc := 56) (n := 0) (i := 0) h 3 rfl rfl dX5_within_56 ?_
    refine J_iload_n (pc := 57) (n := 1) (i := 1) h 4 rfl rfl dX5_within_57 ?_
    refine J_aload_n (pc := 58) (n := 0) (i := 0) h 3 rfl rfl dX5_within_58 ?_
    refine J_Mr22 (pc := 59) h m_354 dX5_within_59 ?_
    refine J_iload (pc := 62) h 2 rfl dX5_within_62 ?_
    refine J_Ma (pc := 64) h 14 80 ⟨by decide, by decide⟩ rfl hb (σ 14 (((σ 0 20) - 1).toNatClampNeg)) (up2_off _ _ (by decide)) dX5_within_64 ?_
    refine J_iload (pc := 65) h 1 rfl dX5_within_65 ?_
    refine J_iload (pc := 67) h 0 rfl dX5_within_67 ?_
    refine J_iload_n (pc := 69) (n := 3) (i := 3) h 6 rfl rfl dX5_within_69 ?_
    refine J_cM (pc := 70) h hR (by decide) (c_X5_push _ _ _ (up2 σ 15 (((σ 0 20) - 1).toNatClampNeg) (σ 16 (((σ 0 20) - 1).toNatClampNeg))) wt (σ 14 (((σ 0 20) - 1).toNatClampNeg)) (σ 15 (((σ 0 20) - 1).toNatClampNeg)) (σ 16 (((σ 0 20) - 1).toNatClampNeg)) oo (by rw [up2_off _ _ (by decide)]; exact hb2)) (by decide) m_443 m_445 ms_14 m_446 ⟨rfl, hd_X5_push⟩ rfl rfl (Nat.le_of_ble_eq_true rfl) [] rfl dX5_within_70 ?_
    exact J_vret (pc := 73) h hr (by subst ho; exact ⟨rfl, rfl⟩) dX5_within_73
  · replace ho := (if_neg c1).symm.trans ho
    refine J_iload (pc := 31) h 0 rfl dX5_within_31 ?_
    refine J_iload_n (pc := 33) (n := 2) (i := 2) h 4 rfl rfl dX5_within_33 ?_
    refine J_iadd (pc := 34) h dX5_within_34 ?_
    refine J_goto (pc := 35) h 45 (by decide) dX5_within_35 ?_
    refine J_istore (pc := 45) h [(6, .int ((σ 15 (((σ 0 20) - 1).toNatClampNeg)) + v)), (5, .int (σ 15 (((σ 0 20) - 1).toNatClampNeg))), (4, .int ((σ 0 20) - 1)), (0, .ref (ad 0)), (1, .int wt), (2, .int v), (3, .int oo)] (by rw [e4]; decide) rfl dX5_within_45 ?_
    refine J_aload_n (pc := 47) (n := 0) (i := 0) h 3 rfl rfl dX5_within_47 ?_
    refine J_Mr23 (pc := 48) h m_355 dX5_within_48 ?_
    refine J_iload (pc := 51) h 2 rfl dX5_within_51 ?_
    refine J_iload (pc := 53) h 0 rfl dX5_within_53 ?_
    refine J_Ms (pc := 55) h 15 80 ⟨by decide, by decide⟩ rfl hb dX5_within_55 ?_
    refine J_aload_n (pc := 56) (n := 0) (i := 0) h 3 rfl rfl dX5_within_56 ?_
    refine J_iload_n (pc := 57) (n := 1) (i := 1) h 4 rfl rfl dX5_within_57 ?_
    refine J_aload_n (pc := 58) (n := 0) (i := 0) h 3 rfl rfl dX5_within_58 ?_
    refine J_Mr22 (pc := 59) h m_354 dX5_within_59 ?_
    refine J_iload (pc := 62) h 2 rfl dX5_within_62 ?_
    refine J_Ma (pc := 64) h 14 80 ⟨by decide, by decide⟩ rfl hb (σ 14 (((σ 0 20) - 1).toNatClampNeg)) (up2_off _ _ (by decide)) dX5_within_64 ?_
    refine J_iload (pc := 65) h 1 rfl dX5_within_65 ?_
    refine J_iload (pc := 67) h 0 rfl dX5_within_67 ?_
    refine J_iload_n (pc := 69) (n := 3) (i := 3) h 6 rfl rfl dX5_within_69 ?_
    refine J_cM (pc := 70) h hR (by decide) (c_X5_push _ _ _ (up2 σ 15 (((σ 0 20) - 1).toNatClampNeg) ((σ 15 (((σ 0 20) - 1).toNatClampNeg)) + v)) wt (σ 14 (((σ 0 20) - 1).toNatClampNeg)) (σ 15 (((σ 0 20) - 1).toNatClampNeg)) ((σ 15 (((σ 0 20) - 1).toNatClampNeg)) + v) oo (by rw [up2_off _ _ (by decide)]; exact hb2)) (by decide) m_443 m_445 ms_14 m_446 ⟨rfl, hd_X5_push⟩ rfl rfl (Nat.le_of_ble_eq_true rfl) [] rfl dX5_within_70 ?_
    exact J_vret (pc := 73) h hr (by subst ho; exact ⟨rfl, rfl⟩) dX5_within_73
def f_X5_value  (σ : Sg) : Int32 := (σ 0 12)
theorem hd_X5_value : yX5_value.cls ≠ "java/lang/invoke/MethodHandle" ∧ yX5_value.cls ≠ "java/lang/invoke/VarHandle" ∧ (parseMethodDescriptor yX5_value.desc).map (fun d => d.parameters.length) = some 0 := by decide +kernel
set_option maxHeartbeats 4000000 in
set_option maxRecDepth 20000 in
theorem c_X5_value (l : Launch) (g : Gy) (ad : Nat → Nat) (σ : Sg)   : Con l g yX5_value cX5_value 1 (some .int) (rmL 0) [.ref (ad 0)] (wM g ad σ) (Det (some (.int (f_X5_value  σ))) (wM g ad σ)) := by
  refine Con.of (by decide) (Nat.le_of_ble_eq_true rfl) ?_
  intro x h e1 e2 e3 e4 e5 hr
  subst e1 e2
  have h : Ok x cX5_value "SafeDeskModel" (some .int) := h
  have hR : RmOk x 0 0 0 := RmOk.of e3 (Nat.le_refl _) (Nat.le_refl _)
  obtain ⟨out, ho⟩ : ∃ o, f_X5_value  σ = o := ⟨_, rfl⟩
  rw [ho] at hr
  unfold f_X5_value at ho
  show J x 0 0 _ 0 [(0, .ref (ad 0))] []
  refine J_aload_n (pc := 0) (n := 0) (i := 0) h 0 rfl rfl dX5_value_0 ?_
  refine J_Mg12 (pc := 1) h m_344 (σ 0 12) rfl dX5_value_1 ?_
  exact J_iret (pc := 4) h hr (by subst ho; exact ⟨rfl, rfl⟩) dX5_value_4
def f_X5_trace (a : Int32) (σ : Sg) : Int32 := (if a = (-1) then (σ 0 18) else (if f_X5_in a 0 ((σ 0 18) - 1) = 0 then (-1) else (σ 12 a.toNatClampNeg)))
theorem hd_X5_trace : yX5_trace.cls ≠ "java/lang/invoke/MethodHandle" ∧ yX5_trace.cls ≠ "java/lang/invoke/VarHandle" ∧ (parseMethodDescriptor yX5_trace.desc).map (fun d => d.parameters.length) = some 1 := by decide +kernel
set_option maxHeartbeats 4000000 in
set_option maxRecDepth 20000 in
theorem c_X5_trace (l : Launch) (g : Gy) (ad : Nat → Nat) (σ : Sg) (a : Int32) (ht : σ 0 18 ≤ 120 ∧ ¬ σ 0 18 < 0) : Con l g yX5_trace cX5_trace 2 (some .int) (rmL 1) [.ref (ad 0), .int a] (wM g ad σ) (Det (some (.int (f_X5_trace a σ))) (wM g ad σ)) := by
  refine Con.of (by decide) (Nat.le_of_ble_eq_true rfl) ?_
  intro x h e1 e2 e3 e4 e5 hr
  subst e1 e2
  have h : Ok x cX5_trace "SafeDeskModel" (some .int) := h
  have hR : RmOk x 1 0 0 := RmOk.of e3 (Nat.le_refl _) (Nat.le_refl _)
  obtain ⟨out, ho⟩ : ∃ o, f_X5_trace a σ = o := ⟨_, rfl⟩
  rw [ho] at hr
  unfold f_X5_trace at ho
  show J x 0 0 _ 0 [(0, .ref (ad 0)), (1, .int a)] []
  refine J_iload_n (pc := 0) (n := 1) (i := 1) h 1 rfl rfl dX5_trace_0 ?_
  refine J_iconst (pc := 1) h (-1) rfl dX5_trace_1 ?_
  refine J_icmp_ne (pc := 2) h 12 (by decide) dX5_trace_2 (fun c1 => ?_) (fun c1 => ?_)
  · replace ho := (if_neg c1).symm.trans ho
    refine J_iload_n (pc := 12) (n := 1) (i := 1) h 1 rfl rfl dX5_trace_12 ?_
    refine J_iconst (pc := 13) h (0) rfl dX5_trace_13 ?_
    refine J_aload_n (pc := 14) (n := 0) (i := 0) h 0 rfl rfl dX5_trace_14 ?_
    refine J_Mg18 (pc := 15) h m_350 (σ 0 18) rfl dX5_trace_15 ?_
    refine J_iconst (pc := 18) h (1) rfl dX5_trace_18 ?_
    refine J_isub (pc := 19) h dX5_trace_19 ?_
    refine J_cS (pc := 20) h hR (by decide) (c_X5_in _ _ _ a 0 ((σ 0 18) - 1) ) (by decide) m_415 m_416 m_3 m_417 hd_X5_in rfl rfl (Nat.le_of_ble_eq_true rfl) [.int (f_X5_in a 0 ((σ 0 18) - 1))] rfl dX5_trace_20 ?_
    refine J_if_eq (pc := 23) h 35 (by decide) dX5_trace_23 (fun c2 => ?_) (fun c2 => ?_)
    · replace ho := (if_pos c2).symm.trans ho
      refine J_iconst (pc := 35) h (-1) rfl dX5_trace_35 ?_
      exact J_iret (pc := 36) h hr (by subst ho; exact ⟨rfl, rfl⟩) dX5_trace_36
    · replace ho := (if_neg c2).symm.trans ho
      refine J_aload_n (pc := 26) (n := 0) (i := 0) h 0 rfl rfl dX5_trace_26 ?_
      refine J_Mr19 (pc := 27) h m_351 dX5_trace_27 ?_
      refine J_iload_n (pc := 30) (n := 1) (i := 1) h 1 rfl rfl dX5_trace_30 ?_
      refine J_Ma (pc := 31) h 12 120 ⟨by decide, by decide⟩ rfl (tr_in2 (by assumption) ht) (σ 12 a.toNatClampNeg) rfl dX5_trace_31 ?_
      refine J_goto (pc := 32) h 36 (by decide) dX5_trace_32 ?_
      exact J_iret (pc := 36) h hr (by subst ho; exact ⟨rfl, rfl⟩) dX5_trace_36
  · replace ho := (if_pos c1).symm.trans ho
    refine J_aload_n (pc := 5) (n := 0) (i := 0) h 0 rfl rfl dX5_trace_5 ?_
    refine J_Mg18 (pc := 6) h m_350 (σ 0 18) rfl dX5_trace_6 ?_
    refine J_goto (pc := 9) h 36 (by decide) dX5_trace_9 ?_
    exact J_iret (pc := 36) h hr (by subst ho; exact ⟨rfl, rfl⟩) dX5_trace_36
def f_X5_share (a : Int32) (b : Int32) (σ : Sg) : Int32 × Sg := (if f_X5_in a 0 7 = 0 then ((-1), σ) else (if f_X5_in b 0 7 = 0 then ((-1), σ) else (if σ 7 a.toNatClampNeg = (-1) then (0, up2 σ 7 b.toNatClampNeg (σ 7 a.toNatClampNeg)) else (1, up2 σ 7 b.toNatClampNeg (σ 7 a.toNatClampNeg)))))
theorem hd_X5_share : yX5_share.cls ≠ "java/lang/invoke/MethodHandle" ∧ yX5_share.cls ≠ "java/lang/invoke/VarHandle" ∧ (parseMethodDescriptor yX5_share.desc).map (fun d => d.parameters.length) = some 2 := by decide +kernel
set_option maxHeartbeats 4000000 in
set_option maxRecDepth 20000 in
theorem c_X5_share (l : Launch) (g : Gy) (ad : Nat → Nat) (σ : Sg) (a : Int32) (b : Int32)  : Con l g yX5_share cX5_share 3 (some .int) (rmL 1) [.ref (ad 0), .int a, .int b] (wM g ad σ) (Det (some (.int (f_X5_share a b σ).1)) (wM g ad ((f_X5_share a b σ).2))) := by
  refine Con.of (by decide) (Nat.le_of_ble_eq_true rfl) ?_
  intro x h e1 e2 e3 e4 e5 hr
  subst e1 e2
  have h : Ok x cX5_share "SafeDeskModel" (some .int) := h
  have hR : RmOk x 1 0 0 := RmOk.of e3 (Nat.le_refl _) (Nat.le_refl _)
  obtain ⟨out, ho⟩ : ∃ o, f_X5_share a b σ = o := ⟨_, rfl⟩
  rw [ho] at hr
  unfold f_X5_share at ho
  show J x 0 0 _ 0 [(0, .ref (ad 0)), (1, .int a), (2, .int b)] []
  refine J_iload_n (pc := 0) (n := 1) (i := 1) h 1 rfl rfl dX5_share_0 ?_
  refine J_iconst (pc := 1) h (0) rfl dX5_share_1 ?_
  refine J_bipush (pc := 2) h (7) rfl dX5_share_2 ?_
  refine J_cS (pc := 4) h hR (by decide) (c_X5_in _ _ _ a 0 7 ) (by decide) m_415 m_416 m_3 m_417 hd_X5_in rfl rfl (Nat.le_of_ble_eq_true rfl) [.int (f_X5_in a 0 7)] rfl dX5_share_4 ?_
  refine J_if_eq (pc := 7) h 20 (by decide) dX5_share_7 (fun c1 => ?_) (fun c1 => ?_)
  · replace ho := (if_pos c1).symm.trans ho
    refine J_iconst (pc := 20) h (-1) rfl dX5_share_20 ?_
    exact J_iret (pc := 21) h hr (by subst ho; exact ⟨rfl, rfl⟩) dX5_share_21
  · replace ho := (if_neg c1).symm.trans ho
    refine J_iload_n (pc := 10) (n := 2) (i := 2) h 2 rfl rfl dX5_share_10 ?_
    refine J_iconst (pc := 11) h (0) rfl dX5_share_11 ?_
    refine J_bipush (pc := 12) h (7) rfl dX5_share_12 ?_
    refine J_cS (pc := 14) h hR (by decide) (c_X5_in _ _ _ b 0 7 ) (by decide) m_415 m_416 m_3 m_417 hd_X5_in rfl rfl (Nat.le_of_ble_eq_true rfl) [.int (f_X5_in b 0 7)] rfl dX5_share_14 ?_
    refine J_if_ne (pc := 17) h 22 (by decide) dX5_share_17 (fun c2 => ?_) (fun c2 => ?_)
    · replace ho := (if_neg c2).symm.trans ho
      refine J_aload_n (pc := 22) (n := 0) (i := 0) h 0 rfl rfl dX5_share_22 ?_
      refine J_Mr7 (pc := 23) h m_339 dX5_share_23 ?_
      refine J_iload_n (pc := 26) (n := 2) (i := 2) h 2 rfl rfl dX5_share_26 ?_
      refine J_aload_n (pc := 27) (n := 0) (i := 0) h 0 rfl rfl dX5_share_27 ?_
      refine J_Mr7 (pc := 28) h m_339 dX5_share_28 ?_
      refine J_iload_n (pc := 31) (n := 1) (i := 1) h 1 rfl rfl dX5_share_31 ?_
      refine J_Ma (pc := 32) h 7 8 ⟨by decide, by decide⟩ rfl (in_room (by assumption)) (σ 7 a.toNatClampNeg) rfl dX5_share_32 ?_
      refine J_Ms (pc := 33) h 7 8 ⟨by decide, by decide⟩ rfl (in_room (by assumption)) dX5_share_33 ?_
      refine J_aload_n (pc := 34) (n := 0) (i := 0) h 0 rfl rfl dX5_share_34 ?_
      refine J_Mr7 (pc := 35) h m_339 dX5_share_35 ?_
      refine J_iload_n (pc := 38) (n := 2) (i := 2) h 2 rfl rfl dX5_share_38 ?_
      refine J_Ma (pc := 39) h 7 8 ⟨by decide, by decide⟩ rfl (in_room (by assumption)) (σ 7 a.toNatClampNeg) (up2_self _ _ _ _) dX5_share_39 ?_
      refine J_iconst (pc := 40) h (-1) rfl dX5_share_40 ?_
      refine J_icmp_ne (pc := 41) h 48 (by decide) dX5_share_41 (fun c3 => ?_) (fun c3 => ?_)
      · replace ho := (if_neg c3).symm.trans ho
        refine J_iconst (pc := 48) h (1) rfl dX5_share_48 ?_
        exact J_iret (pc := 49) h hr (by subst ho; exact ⟨rfl, rfl⟩) dX5_share_49
      · replace ho := (if_pos c3).symm.trans ho
        refine J_iconst (pc := 44) h (0) rfl dX5_share_44 ?_
        refine J_goto (pc := 45) h 49 (by decide) dX5_share_45 ?_
        exact J_iret (pc := 49) h hr (by subst ho; exact ⟨rfl, rfl⟩) dX5_share_49
    · replace ho := (if_pos c2).symm.trans ho
      refine J_iconst (pc := 20) h (-1) rfl dX5_share_20 ?_
      exact J_iret (pc := 21) h hr (by subst ho; exact ⟨rfl, rfl⟩) dX5_share_21
def f_X5_same (a : Int32) (b : Int32) (σ : Sg) : Int32 := (if f_X5_in a 0 7 = 0 then (-1) else (if f_X5_in b 0 7 = 0 then (-1) else (if σ 7 a.toNatClampNeg = σ 7 b.toNatClampNeg then 1 else 0)))
theorem hd_X5_same : yX5_same.cls ≠ "java/lang/invoke/MethodHandle" ∧ yX5_same.cls ≠ "java/lang/invoke/VarHandle" ∧ (parseMethodDescriptor yX5_same.desc).map (fun d => d.parameters.length) = some 2 := by decide +kernel
set_option maxHeartbeats 4000000 in
set_option maxRecDepth 20000 in
theorem c_X5_same (l : Launch) (g : Gy) (ad : Nat → Nat) (σ : Sg) (a : Int32) (b : Int32)  : Con l g yX5_same cX5_same 3 (some .int) (rmL 1) [.ref (ad 0), .int a, .int b] (wM g ad σ) (Det (some (.int (f_X5_same a b σ))) (wM g ad σ)) := by
  refine Con.of (by decide) (Nat.le_of_ble_eq_true rfl) ?_
  intro x h e1 e2 e3 e4 e5 hr
  subst e1 e2
  have h : Ok x cX5_same "SafeDeskModel" (some .int) := h
  have hR : RmOk x 1 0 0 := RmOk.of e3 (Nat.le_refl _) (Nat.le_refl _)
  obtain ⟨out, ho⟩ : ∃ o, f_X5_same a b σ = o := ⟨_, rfl⟩
  rw [ho] at hr
  unfold f_X5_same at ho
  show J x 0 0 _ 0 [(0, .ref (ad 0)), (1, .int a), (2, .int b)] []
  refine J_iload_n (pc := 0) (n := 1) (i := 1) h 1 rfl rfl dX5_same_0 ?_
  refine J_iconst (pc := 1) h (0) rfl dX5_same_1 ?_
  refine J_bipush (pc := 2) h (7) rfl dX5_same_2 ?_
  refine J_cS (pc := 4) h hR (by decide) (c_X5_in _ _ _ a 0 7 ) (by decide) m_415 m_416 m_3 m_417 hd_X5_in rfl rfl (Nat.le_of_ble_eq_true rfl) [.int (f_X5_in a 0 7)] rfl dX5_same_4 ?_
  refine J_if_eq (pc := 7) h 20 (by decide) dX5_same_7 (fun c1 => ?_) (fun c1 => ?_)
  · replace ho := (if_pos c1).symm.trans ho
    refine J_iconst (pc := 20) h (-1) rfl dX5_same_20 ?_
    refine J_goto (pc := 21) h 44 (by decide) dX5_same_21 ?_
    exact J_iret (pc := 44) h hr (by subst ho; exact ⟨rfl, rfl⟩) dX5_same_44
  · replace ho := (if_neg c1).symm.trans ho
    refine J_iload_n (pc := 10) (n := 2) (i := 2) h 2 rfl rfl dX5_same_10 ?_
    refine J_iconst (pc := 11) h (0) rfl dX5_same_11 ?_
    refine J_bipush (pc := 12) h (7) rfl dX5_same_12 ?_
    refine J_cS (pc := 14) h hR (by decide) (c_X5_in _ _ _ b 0 7 ) (by decide) m_415 m_416 m_3 m_417 hd_X5_in rfl rfl (Nat.le_of_ble_eq_true rfl) [.int (f_X5_in b 0 7)] rfl dX5_same_14 ?_
    refine J_if_ne (pc := 17) h 24 (by decide) dX5_same_17 (fun c2 => ?_) (fun c2 => ?_)
    · replace ho := (if_neg c2).symm.trans ho
      refine J_aload_n (pc := 24) (n := 0) (i := 0) h 0 rfl rfl dX5_same_24 ?_
      refine J_Mr7 (pc := 25) h m_339 dX5_same_25 ?_
      refine J_iload_n (pc := 28) (n := 1) (i := 1) h 1 rfl rfl dX5_same_28 ?_
      refine J_Ma (pc := 29) h 7 8 ⟨by decide, by decide⟩ rfl (in_room (by assumption)) (σ 7 a.toNatClampNeg) rfl dX5_same_29 ?_
      refine J_aload_n (pc := 30) (n := 0) (i := 0) h 0 rfl rfl dX5_same_30 ?_
      refine J_Mr7 (pc := 31) h m_339 dX5_same_31 ?_
      refine J_iload_n (pc := 34) (n := 2) (i := 2) h 2 rfl rfl dX5_same_34 ?_
      refine J_Ma (pc := 35) h 7 8 ⟨by decide, by decide⟩ rfl (in_room (by assumption)) (σ 7 b.toNatClampNeg) rfl dX5_same_35 ?_
      refine J_icmp_ne (pc := 36) h 43 (by decide) dX5_same_36 (fun c3 => ?_) (fun c3 => ?_)
      · replace ho := (if_neg c3).symm.trans ho
        refine J_iconst (pc := 43) h (0) rfl dX5_same_43 ?_
        exact J_iret (pc := 44) h hr (by subst ho; exact ⟨rfl, rfl⟩) dX5_same_44
      · replace ho := (if_pos c3).symm.trans ho
        refine J_iconst (pc := 39) h (1) rfl dX5_same_39 ?_
        refine J_goto (pc := 40) h 44 (by decide) dX5_same_40 ?_
        exact J_iret (pc := 44) h hr (by subst ho; exact ⟨rfl, rfl⟩) dX5_same_44
    · replace ho := (if_pos c2).symm.trans ho
      refine J_iconst (pc := 20) h (-1) rfl dX5_same_20 ?_
      refine J_goto (pc := 21) h 44 (by decide) dX5_same_21 ?_
      exact J_iret (pc := 44) h hr (by subst ho; exact ⟨rfl, rfl⟩) dX5_same_44
def f_X5_told (a : Int32) (b : Int32) (σ : Sg) : Int32 := (if f_X5_in a 0 7 = 0 then (-1) else (if σ 7 a.toNatClampNeg = (-1) then (-1) else (if f_X5_in b 0 5 = 0 then (-1) else (if b = 0 then (σ 1 ((σ 7 a.toNatClampNeg).toNatClampNeg)) else (if b = 1 then (σ 2 ((σ 7 a.toNatClampNeg).toNatClampNeg)) else (if b = 2 then (σ 3 ((σ 7 a.toNatClampNeg).toNatClampNeg)) else (if b = 3 then (σ 4 ((σ 7 a.toNatClampNeg).toNatClampNeg)) else (if b = 4 then (σ 5 ((σ 7 a.toNatClampNeg).toNatClampNeg)) else (σ 6 ((σ 7 a.toNatClampNeg).toNatClampNeg))))))))))
theorem hd_X5_told : yX5_told.cls ≠ "java/lang/invoke/MethodHandle" ∧ yX5_told.cls ≠ "java/lang/invoke/VarHandle" ∧ (parseMethodDescriptor yX5_told.desc).map (fun d => d.parameters.length) = some 2 := by decide +kernel
set_option maxHeartbeats 4000000 in
set_option maxRecDepth 20000 in
theorem c_X5_told (l : Launch) (g : Gy) (ad : Nat → Nat) (σ : Sg) (a : Int32) (b : Int32) (hR7 : ∀ r : Nat, r < 8 → σ 7 r = -1 ∨ vp_in (σ 7 r) 4200) : Con l g yX5_told cX5_told 4 (some .int) (rmL 1) [.ref (ad 0), .int a, .int b] (wM g ad σ) (Det (some (.int (f_X5_told a b σ))) (wM g ad σ)) := by
  refine Con.of (by decide) (Nat.le_of_ble_eq_true rfl) ?_
  intro x h e1 e2 e3 e4 e5 hr
  subst e1 e2
  have h : Ok x cX5_told "SafeDeskModel" (some .int) := h
  have hR : RmOk x 1 0 0 := RmOk.of e3 (Nat.le_refl _) (Nat.le_refl _)
  obtain ⟨out, ho⟩ : ∃ o, f_X5_told a b σ = o := ⟨_, rfl⟩
  rw [ho] at hr
  unfold f_X5_told at ho
  show J x 0 0 _ 0 [(0, .ref (ad 0)), (1, .int a), (2, .int b)] []
  refine J_iload_n (pc := 0) (n := 1) (i := 1) h 1 rfl rfl dX5_told_0 ?_
  refine J_iconst (pc := 1) h (0) rfl dX5_told_1 ?_
  refine J_bipush (pc := 2) h (7) rfl dX5_told_2 ?_
  refine J_cS (pc := 4) h hR (by decide) (c_X5_in _ _ _ a 0 7 ) (by decide) m_415 m_416 m_3 m_417 hd_X5_in rfl rfl (Nat.le_of_ble_eq_true rfl) [.int (f_X5_in a 0 7)] rfl dX5_told_4 ?_
  refine J_if_eq (pc := 7) h 29 (by decide) dX5_told_7 (fun c1 => ?_) (fun c1 => ?_)
  · replace ho := (if_pos c1).symm.trans ho
    refine J_iconst (pc := 29) h (-1) rfl dX5_told_29 ?_
    exact J_iret (pc := 30) h hr (by subst ho; exact ⟨rfl, rfl⟩) dX5_told_30
  · replace ho := (if_neg c1).symm.trans ho
    refine J_aload_n (pc := 10) (n := 0) (i := 0) h 0 rfl rfl dX5_told_10 ?_
    refine J_Mr7 (pc := 11) h m_339 dX5_told_11 ?_
    refine J_iload_n (pc := 14) (n := 1) (i := 1) h 1 rfl rfl dX5_told_14 ?_
    refine J_Ma (pc := 15) h 7 8 ⟨by decide, by decide⟩ rfl (in_room (by assumption)) (σ 7 a.toNatClampNeg) rfl dX5_told_15 ?_
    refine J_iconst (pc := 16) h (-1) rfl dX5_told_16 ?_
    refine J_icmp_eq (pc := 17) h 29 (by decide) dX5_told_17 (fun c2 => ?_) (fun c2 => ?_)
    · replace ho := (if_pos c2).symm.trans ho
      refine J_iconst (pc := 29) h (-1) rfl dX5_told_29 ?_
      exact J_iret (pc := 30) h hr (by subst ho; exact ⟨rfl, rfl⟩) dX5_told_30
    · replace ho := (if_neg c2).symm.trans ho
      refine J_iload_n (pc := 20) (n := 2) (i := 2) h 2 rfl rfl dX5_told_20 ?_
      refine J_iconst (pc := 21) h (0) rfl dX5_told_21 ?_
      refine J_iconst (pc := 22) h (5) rfl dX5_told_22 ?_
      refine J_cS (pc := 23) h hR (by decide) (c_X5_in _ _ _ b 0 5 ) (by decide) m_415 m_416 m_3 m_417 hd_X5_in rfl rfl (Nat.le_of_ble_eq_true rfl) [.int (f_X5_in b 0 5)] rfl dX5_told_23 ?_
      refine J_if_ne (pc := 26) h 31 (by decide) dX5_told_26 (fun c3 => ?_) (fun c3 => ?_)
      · replace ho := (if_neg c3).symm.trans ho
        refine J_aload_n (pc := 31) (n := 0) (i := 0) h 0 rfl rfl dX5_told_31 ?_
        refine J_Mr7 (pc := 32) h m_339 dX5_told_32 ?_
        refine J_iload_n (pc := 35) (n := 1) (i := 1) h 1 rfl rfl dX5_told_35 ?_
        refine J_Ma (pc := 36) h 7 8 ⟨by decide, by decide⟩ rfl (in_room (by assumption)) (σ 7 a.toNatClampNeg) rfl dX5_told_36 ?_
        refine J_istore_n (pc := 37) (n := 3) (i := 3) h [(3, .int (σ 7 a.toNatClampNeg)), (0, .ref (ad 0)), (1, .int a), (2, .int b)] rfl (by rw [e4]; decide) rfl dX5_told_37 ?_
        refine J_iload_n (pc := 38) (n := 2) (i := 2) h 3 rfl rfl dX5_told_38 ?_
        refine J_if_ne (pc := 39) h 51 (by decide) dX5_told_39 (fun c4 => ?_) (fun c4 => ?_)
        · replace ho := (if_neg c4).symm.trans ho
          refine J_iload_n (pc := 51) (n := 2) (i := 2) h 3 rfl rfl dX5_told_51 ?_
          refine J_iconst (pc := 52) h (1) rfl dX5_told_52 ?_
          refine J_icmp_ne (pc := 53) h 65 (by decide) dX5_told_53 (fun c5 => ?_) (fun c5 => ?_)
          · replace ho := (if_neg c5).symm.trans ho
            refine J_iload_n (pc := 65) (n := 2) (i := 2) h 3 rfl rfl dX5_told_65 ?_
            refine J_iconst (pc := 66) h (2) rfl dX5_told_66 ?_
            refine J_icmp_ne (pc := 67) h 79 (by decide) dX5_told_67 (fun c6 => ?_) (fun c6 => ?_)
            · replace ho := (if_neg c6).symm.trans ho
              refine J_iload_n (pc := 79) (n := 2) (i := 2) h 3 rfl rfl dX5_told_79 ?_
              refine J_iconst (pc := 80) h (3) rfl dX5_told_80 ?_
              refine J_icmp_ne (pc := 81) h 93 (by decide) dX5_told_81 (fun c7 => ?_) (fun c7 => ?_)
              · replace ho := (if_neg c7).symm.trans ho
                refine J_iload_n (pc := 93) (n := 2) (i := 2) h 3 rfl rfl dX5_told_93 ?_
                refine J_iconst (pc := 94) h (4) rfl dX5_told_94 ?_
                refine J_icmp_ne (pc := 95) h 107 (by decide) dX5_told_95 (fun c8 => ?_) (fun c8 => ?_)
                · replace ho := (if_neg c8).symm.trans ho
                  refine J_aload_n (pc := 107) (n := 0) (i := 0) h 1 rfl rfl dX5_told_107 ?_
                  refine J_Mr6 (pc := 108) h m_338 dX5_told_108 ?_
                  refine J_iload_n (pc := 111) (n := 3) (i := 3) h 0 rfl rfl dX5_told_111 ?_
                  refine J_Ma (pc := 112) h 6 4200 ⟨by decide, by decide⟩ rfl ((hR7 _ (vp_lt (in_room (by assumption)))).resolve_left (by assumption)) (σ 6 ((σ 7 a.toNatClampNeg).toNatClampNeg)) rfl dX5_told_112 ?_
                  exact J_iret (pc := 113) h hr (by subst ho; exact ⟨rfl, rfl⟩) dX5_told_113
                · replace ho := (if_pos c8).symm.trans ho
                  refine J_aload_n (pc := 98) (n := 0) (i := 0) h 1 rfl rfl dX5_told_98 ?_
                  refine J_Mr5 (pc := 99) h m_337 dX5_told_99 ?_
                  refine J_iload_n (pc := 102) (n := 3) (i := 3) h 0 rfl rfl dX5_told_102 ?_
                  refine J_Ma (pc := 103) h 5 4200 ⟨by decide, by decide⟩ rfl ((hR7 _ (vp_lt (in_room (by assumption)))).resolve_left (by assumption)) (σ 5 ((σ 7 a.toNatClampNeg).toNatClampNeg)) rfl dX5_told_103 ?_
                  refine J_goto (pc := 104) h 113 (by decide) dX5_told_104 ?_
                  exact J_iret (pc := 113) h hr (by subst ho; exact ⟨rfl, rfl⟩) dX5_told_113
              · replace ho := (if_pos c7).symm.trans ho
                refine J_aload_n (pc := 84) (n := 0) (i := 0) h 1 rfl rfl dX5_told_84 ?_
                refine J_Mr4 (pc := 85) h m_336 dX5_told_85 ?_
                refine J_iload_n (pc := 88) (n := 3) (i := 3) h 0 rfl rfl dX5_told_88 ?_
                refine J_Ma (pc := 89) h 4 4200 ⟨by decide, by decide⟩ rfl ((hR7 _ (vp_lt (in_room (by assumption)))).resolve_left (by assumption)) (σ 4 ((σ 7 a.toNatClampNeg).toNatClampNeg)) rfl dX5_told_89 ?_
                refine J_goto (pc := 90) h 113 (by decide) dX5_told_90 ?_
                exact J_iret (pc := 113) h hr (by subst ho; exact ⟨rfl, rfl⟩) dX5_told_113
            · replace ho := (if_pos c6).symm.trans ho
              refine J_aload_n (pc := 70) (n := 0) (i := 0) h 1 rfl rfl dX5_told_70 ?_
              refine J_Mr3 (pc := 71) h m_335 dX5_told_71 ?_
              refine J_iload_n (pc := 74) (n := 3) (i := 3) h 0 rfl rfl dX5_told_74 ?_
              refine J_Ma (pc := 75) h 3 4200 ⟨by decide, by decide⟩ rfl ((hR7 _ (vp_lt (in_room (by assumption)))).resolve_left (by assumption)) (σ 3 ((σ 7 a.toNatClampNeg).toNatClampNeg)) rfl dX5_told_75 ?_
              refine J_goto (pc := 76) h 113 (by decide) dX5_told_76 ?_
              exact J_iret (pc := 113) h hr (by subst ho; exact ⟨rfl, rfl⟩) dX5_told_113
          · replace ho := (if_pos c5).symm.trans ho
            refine J_aload_n (pc := 56) (n := 0) (i := 0) h 1 rfl rfl dX5_told_56 ?_
            refine J_Mr2 (pc := 57) h m_334 dX5_told_57 ?_
            refine J_iload_n (pc := 60) (n := 3) (i := 3) h 0 rfl rfl dX5_told_60 ?_
            refine J_Ma (pc := 61) h 2 4200 ⟨by decide, by decide⟩ rfl ((hR7 _ (vp_lt (in_room (by assumption)))).resolve_left (by assumption)) (σ 2 ((σ 7 a.toNatClampNeg).toNatClampNeg)) rfl dX5_told_61 ?_
            refine J_goto (pc := 62) h 113 (by decide) dX5_told_62 ?_
            exact J_iret (pc := 113) h hr (by subst ho; exact ⟨rfl, rfl⟩) dX5_told_113
        · replace ho := (if_pos c4).symm.trans ho
          refine J_aload_n (pc := 42) (n := 0) (i := 0) h 1 rfl rfl dX5_told_42 ?_
          refine J_Mr1 (pc := 43) h m_333 dX5_told_43 ?_
          refine J_iload_n (pc := 46) (n := 3) (i := 3) h 0 rfl rfl dX5_told_46 ?_
          refine J_Ma (pc := 47) h 1 4200 ⟨by decide, by decide⟩ rfl ((hR7 _ (vp_lt (in_room (by assumption)))).resolve_left (by assumption)) (σ 1 ((σ 7 a.toNatClampNeg).toNatClampNeg)) rfl dX5_told_47 ?_
          refine J_goto (pc := 48) h 113 (by decide) dX5_told_48 ?_
          exact J_iret (pc := 113) h hr (by subst ho; exact ⟨rfl, rfl⟩) dX5_told_113
      · replace ho := (if_pos c3).symm.trans ho
        refine J_iconst (pc := 29) h (-1) rfl dX5_told_29 ?_
        exact J_iret (pc := 30) h hr (by subst ho; exact ⟨rfl, rfl⟩) dX5_told_30
theorem at_in {pl m : Int32} (hp : vp_in pl 6) (hm : 0 ≤ m.toInt ∧ m.toInt ≤ 12) (h : ¬ m = 12) : vp_in ((12 * pl) + m) 72 := by
  obtain ⟨j, hj, rfl⟩ := vp_in_of hp (by decide)
  have hn : ¬ m < 0 := by rw [i_lt, ti0]; omega
  obtain ⟨k, hk, rfl⟩ := nI_of hn
  rw [nI_toInt hk] at hm
  have hk12 : k ≠ 12 := fun q => h (by rw [q]; rfl)
  rw [show (12 : Int32) = nI 12 from rfl, pk_mul, nI_add]
  exact vp_in_nI (by omega) (by decide)
def f_X5_step_j145 (pl : Int32) (kd : Int32) (a : Int32) (b : Int32) (σ : Sg) : Int32 × Sg := (if σ 8 pl.toNatClampNeg = 12 then ((-2), σ) else ((σ 8 pl.toNatClampNeg) + 1, up2 (up2 (up2 (up2 σ 9 (((12 * pl) + (σ 8 pl.toNatClampNeg)).toNatClampNeg) kd) 10 (((12 * pl) + (σ 8 pl.toNatClampNeg)).toNatClampNeg) a) 11 (((12 * pl) + (σ 8 pl.toNatClampNeg)).toNatClampNeg) b) 8 pl.toNatClampNeg ((σ 8 pl.toNatClampNeg) + 1)))
set_option maxHeartbeats 4000000 in
theorem jn_X5_step_145 {x : Cx} {ad : Nat → Nat} {σ : Sg} {L : Nat} (h : Ok x cX5_step "SafeDeskModel" (some .int)) (hR : RmOk x L 0 0) (hL : 1 ≤ L) (e4 : xN x = 6) (pl : Int32) (kd : Int32) (a : Int32) (b : Int32) (hm : ∀ p : Nat, p < 6 → 0 ≤ (σ 8 p).toInt ∧ (σ 8 p).toInt ≤ 12) (hpl : ¬ f_X5_in pl 0 5 = 0) {out : Int32 × Sg} (hr : Rt x 0 0 (Det (some (.int out.1)) (wM (xG x) ad out.2))) (ho : f_X5_step_j145 pl kd a b σ = out) : J x 0 0 (wM (xG x) ad σ) 145 [(0, .ref (ad 0)), (1, .int pl), (2, .int kd), (3, .int a), (4, .int b)] [] := by
  unfold f_X5_step_j145 at ho
  refine J_aload_n (pc := 145) (n := 0) (i := 0) h 0 rfl rfl dX5_step_145 ?_
  refine J_Mr8 (pc := 146) h m_340 dX5_step_146 ?_
  refine J_iload_n (pc := 149) (n := 1) (i := 1) h 1 rfl rfl dX5_step_149 ?_
  refine J_Ma (pc := 150) h 8 6 ⟨by decide, by decide⟩ rfl (in_plan hpl) (σ 8 pl.toNatClampNeg) rfl dX5_step_150 ?_
  refine J_bipush (pc := 151) h (12) rfl dX5_step_151 ?_
  refine J_icmp_ne (pc := 153) h 159 (by decide) dX5_step_153 (fun c1 => ?_) (fun c1 => ?_)
  · replace ho := (if_neg c1).symm.trans ho
    refine J_bipush (pc := 159) h (12) rfl dX5_step_159 ?_
    refine J_iload_n (pc := 161) (n := 1) (i := 1) h 1 rfl rfl dX5_step_161 ?_
    refine J_imul (pc := 162) h dX5_step_162 ?_
    refine J_aload_n (pc := 163) (n := 0) (i := 0) h 0 rfl rfl dX5_step_163 ?_
    refine J_Mr8 (pc := 164) h m_340 dX5_step_164 ?_
    refine J_iload_n (pc := 167) (n := 1) (i := 1) h 1 rfl rfl dX5_step_167 ?_
    refine J_Ma (pc := 168) h 8 6 ⟨by decide, by decide⟩ rfl (in_plan hpl) (σ 8 pl.toNatClampNeg) rfl dX5_step_168 ?_
    refine J_iadd (pc := 169) h dX5_step_169 ?_
    refine J_istore (pc := 170) h [(5, .int ((12 * pl) + (σ 8 pl.toNatClampNeg))), (0, .ref (ad 0)), (1, .int pl), (2, .int kd), (3, .int a), (4, .int b)] (by rw [e4]; decide) rfl dX5_step_170 ?_
    refine J_aload_n (pc := 172) (n := 0) (i := 0) h 1 rfl rfl dX5_step_172 ?_
    refine J_Mr9 (pc := 173) h m_341 dX5_step_173 ?_
    refine J_iload (pc := 176) h 0 rfl dX5_step_176 ?_
    refine J_iload_n (pc := 178) (n := 2) (i := 2) h 3 rfl rfl dX5_step_178 ?_
    refine J_Ms (pc := 179) h 9 72 ⟨by decide, by decide⟩ rfl (at_in (in_plan hpl) (hm _ (vp_lt (in_plan hpl))) (by assumption)) dX5_step_179 ?_
    refine J_aload_n (pc := 180) (n := 0) (i := 0) h 1 rfl rfl dX5_step_180 ?_
    refine J_Mr10 (pc := 181) h m_342 dX5_step_181 ?_
    refine J_iload (pc := 184) h 0 rfl dX5_step_184 ?_
    refine J_iload_n (pc := 186) (n := 3) (i := 3) h 4 rfl rfl dX5_step_186 ?_
    refine J_Ms (pc := 187) h 10 72 ⟨by decide, by decide⟩ rfl (at_in (in_plan hpl) (hm _ (vp_lt (in_plan hpl))) (by assumption)) dX5_step_187 ?_
    refine J_aload_n (pc := 188) (n := 0) (i := 0) h 1 rfl rfl dX5_step_188 ?_
    refine J_Mr11 (pc := 189) h m_343 dX5_step_189 ?_
    refine J_iload (pc := 192) h 0 rfl dX5_step_192 ?_
    refine J_iload (pc := 194) h 5 rfl dX5_step_194 ?_
    refine J_Ms (pc := 196) h 11 72 ⟨by decide, by decide⟩ rfl (at_in (in_plan hpl) (hm _ (vp_lt (in_plan hpl))) (by assumption)) dX5_step_196 ?_
    refine J_aload_n (pc := 197) (n := 0) (i := 0) h 1 rfl rfl dX5_step_197 ?_
    refine J_Mr8 (pc := 198) h m_340 dX5_step_198 ?_
    refine J_iload_n (pc := 201) (n := 1) (i := 1) h 2 rfl rfl dX5_step_201 ?_
    refine J_dup2 (pc := 202) h rfl rfl dX5_step_202 ?_
    refine J_Ma (pc := 203) h 8 6 ⟨by decide, by decide⟩ rfl (in_plan hpl) (σ 8 pl.toNatClampNeg) ((up2_off _ _ (by decide)).trans ((up2_off _ _ (by decide)).trans (up2_off _ _ (by decide)))) dX5_step_203 ?_
    refine J_iconst (pc := 204) h (1) rfl dX5_step_204 ?_
    refine J_iadd (pc := 205) h dX5_step_205 ?_
    refine J_Ms (pc := 206) h 8 6 ⟨by decide, by decide⟩ rfl (in_plan hpl) dX5_step_206 ?_
    refine J_aload_n (pc := 207) (n := 0) (i := 0) h 1 rfl rfl dX5_step_207 ?_
    refine J_Mr8 (pc := 208) h m_340 dX5_step_208 ?_
    refine J_iload_n (pc := 211) (n := 1) (i := 1) h 2 rfl rfl dX5_step_211 ?_
    refine J_Ma (pc := 212) h 8 6 ⟨by decide, by decide⟩ rfl (in_plan hpl) ((σ 8 pl.toNatClampNeg) + 1) (up2_self _ _ _ _) dX5_step_212 ?_
    exact J_iret (pc := 213) h hr (by subst ho; exact ⟨rfl, rfl⟩) dX5_step_213
  · replace ho := (if_pos c1).symm.trans ho
    refine J_bipush (pc := 156) h (-2) rfl dX5_step_156 ?_
    exact J_iret (pc := 158) h hr (by subst ho; exact ⟨rfl, rfl⟩) dX5_step_158
def f_X5_step_j127 (pl : Int32) (kd : Int32) (a : Int32) (b : Int32) (σ : Sg) : Int32 × Sg := (if 2 ≤ kd then (f_X5_step_j145 pl kd a b σ) else (if f_X5_in b 1 11 = 0 then ((-1), σ) else (f_X5_step_j145 pl kd a b σ)))
set_option maxHeartbeats 4000000 in
theorem jn_X5_step_127 {x : Cx} {ad : Nat → Nat} {σ : Sg} {L : Nat} (h : Ok x cX5_step "SafeDeskModel" (some .int)) (hR : RmOk x L 0 0) (hL : 1 ≤ L) (e4 : xN x = 6) (pl : Int32) (kd : Int32) (a : Int32) (b : Int32) (hm : ∀ p : Nat, p < 6 → 0 ≤ (σ 8 p).toInt ∧ (σ 8 p).toInt ≤ 12) (hpl : ¬ f_X5_in pl 0 5 = 0) {out : Int32 × Sg} (hr : Rt x 0 0 (Det (some (.int out.1)) (wM (xG x) ad out.2))) (ho : f_X5_step_j127 pl kd a b σ = out) : J x 0 0 (wM (xG x) ad σ) 127 [(0, .ref (ad 0)), (1, .int pl), (2, .int kd), (3, .int a), (4, .int b)] [] := by
  unfold f_X5_step_j127 at ho
  refine J_iload_n (pc := 127) (n := 2) (i := 2) h 2 rfl rfl dX5_step_127 ?_
  refine J_iconst (pc := 128) h (2) rfl dX5_step_128 ?_
  refine J_icmp_ge (pc := 129) h 145 (by decide) dX5_step_129 (fun c1 => ?_) (fun c1 => ?_)
  · replace ho := (if_pos c1).symm.trans ho
    exact jn_X5_step_145 h hR hL e4 pl kd a b hm hpl hr ho
  · replace ho := (if_neg c1).symm.trans ho
    refine J_iload (pc := 132) h 4 rfl dX5_step_132 ?_
    refine J_iconst (pc := 134) h (1) rfl dX5_step_134 ?_
    refine J_bipush (pc := 135) h (11) rfl dX5_step_135 ?_
    refine J_cS (pc := 137) h hR (by omega) (c_X5_in _ _ _ b 1 11 ) (by decide) m_415 m_416 m_3 m_417 hd_X5_in rfl rfl (Nat.le_of_ble_eq_true rfl) [.int (f_X5_in b 1 11)] rfl dX5_step_137 ?_
    refine J_if_ne (pc := 140) h 145 (by decide) dX5_step_140 (fun c2 => ?_) (fun c2 => ?_)
    · replace ho := (if_neg c2).symm.trans ho
      exact jn_X5_step_145 h hR hL e4 pl kd a b hm hpl hr ho
    · replace ho := (if_pos c2).symm.trans ho
      refine J_iconst (pc := 143) h (-1) rfl dX5_step_143 ?_
      exact J_iret (pc := 144) h hr (by subst ho; exact ⟨rfl, rfl⟩) dX5_step_144
def f_X5_step_j85 (pl : Int32) (kd : Int32) (a : Int32) (b : Int32) (σ : Sg) : Int32 × Sg := (if kd = 1 then (if f_X5_in a 0 1 = 0 then (if f_X5_in a 6 7 = 0 then (if f_X5_in a 20 23 = 0 then (if a = 30 then (f_X5_step_j127 pl kd a b σ) else ((-1), σ)) else (f_X5_step_j127 pl kd a b σ)) else (f_X5_step_j127 pl kd a b σ)) else (f_X5_step_j127 pl kd a b σ)) else (f_X5_step_j127 pl kd a b σ))
set_option maxHeartbeats 4000000 in
theorem jn_X5_step_85 {x : Cx} {ad : Nat → Nat} {σ : Sg} {L : Nat} (h : Ok x cX5_step "SafeDeskModel" (some .int)) (hR : RmOk x L 0 0) (hL : 1 ≤ L) (e4 : xN x = 6) (pl : Int32) (kd : Int32) (a : Int32) (b : Int32) (hm : ∀ p : Nat, p < 6 → 0 ≤ (σ 8 p).toInt ∧ (σ 8 p).toInt ≤ 12) (hpl : ¬ f_X5_in pl 0 5 = 0) {out : Int32 × Sg} (hr : Rt x 0 0 (Det (some (.int out.1)) (wM (xG x) ad out.2))) (ho : f_X5_step_j85 pl kd a b σ = out) : J x 0 0 (wM (xG x) ad σ) 85 [(0, .ref (ad 0)), (1, .int pl), (2, .int kd), (3, .int a), (4, .int b)] [] := by
  unfold f_X5_step_j85 at ho
  refine J_iload_n (pc := 85) (n := 2) (i := 2) h 2 rfl rfl dX5_step_85 ?_
  refine J_iconst (pc := 86) h (1) rfl dX5_step_86 ?_
  refine J_icmp_ne (pc := 87) h 127 (by decide) dX5_step_87 (fun c1 => ?_) (fun c1 => ?_)
  · replace ho := (if_neg c1).symm.trans ho
    exact jn_X5_step_127 h hR hL e4 pl kd a b hm hpl hr ho
  · replace ho := (if_pos c1).symm.trans ho
    refine J_iload_n (pc := 90) (n := 3) (i := 3) h 3 rfl rfl dX5_step_90 ?_
    refine J_iconst (pc := 91) h (0) rfl dX5_step_91 ?_
    refine J_iconst (pc := 92) h (1) rfl dX5_step_92 ?_
    refine J_cS (pc := 93) h hR (by omega) (c_X5_in _ _ _ a 0 1 ) (by decide) m_415 m_416 m_3 m_417 hd_X5_in rfl rfl (Nat.le_of_ble_eq_true rfl) [.int (f_X5_in a 0 1)] rfl dX5_step_93 ?_
    refine J_if_ne (pc := 96) h 127 (by decide) dX5_step_96 (fun c2 => ?_) (fun c2 => ?_)
    · replace ho := (if_neg c2).symm.trans ho
      exact jn_X5_step_127 h hR hL e4 pl kd a b hm hpl hr ho
    · replace ho := (if_pos c2).symm.trans ho
      refine J_iload_n (pc := 99) (n := 3) (i := 3) h 3 rfl rfl dX5_step_99 ?_
      refine J_bipush (pc := 100) h (6) rfl dX5_step_100 ?_
      refine J_bipush (pc := 102) h (7) rfl dX5_step_102 ?_
      refine J_cS (pc := 104) h hR (by omega) (c_X5_in _ _ _ a 6 7 ) (by decide) m_415 m_416 m_3 m_417 hd_X5_in rfl rfl (Nat.le_of_ble_eq_true rfl) [.int (f_X5_in a 6 7)] rfl dX5_step_104 ?_
      refine J_if_ne (pc := 107) h 127 (by decide) dX5_step_107 (fun c3 => ?_) (fun c3 => ?_)
      · replace ho := (if_neg c3).symm.trans ho
        exact jn_X5_step_127 h hR hL e4 pl kd a b hm hpl hr ho
      · replace ho := (if_pos c3).symm.trans ho
        refine J_iload_n (pc := 110) (n := 3) (i := 3) h 3 rfl rfl dX5_step_110 ?_
        refine J_bipush (pc := 111) h (20) rfl dX5_step_111 ?_
        refine J_bipush (pc := 113) h (23) rfl dX5_step_113 ?_
        refine J_cS (pc := 115) h hR (by omega) (c_X5_in _ _ _ a 20 23 ) (by decide) m_415 m_416 m_3 m_417 hd_X5_in rfl rfl (Nat.le_of_ble_eq_true rfl) [.int (f_X5_in a 20 23)] rfl dX5_step_115 ?_
        refine J_if_ne (pc := 118) h 127 (by decide) dX5_step_118 (fun c4 => ?_) (fun c4 => ?_)
        · replace ho := (if_neg c4).symm.trans ho
          exact jn_X5_step_127 h hR hL e4 pl kd a b hm hpl hr ho
        · replace ho := (if_pos c4).symm.trans ho
          refine J_iload_n (pc := 121) (n := 3) (i := 3) h 3 rfl rfl dX5_step_121 ?_
          refine J_bipush (pc := 122) h (30) rfl dX5_step_122 ?_
          refine J_icmp_ne (pc := 124) h 143 (by decide) dX5_step_124 (fun c5 => ?_) (fun c5 => ?_)
          · replace ho := (if_neg c5).symm.trans ho
            refine J_iconst (pc := 143) h (-1) rfl dX5_step_143 ?_
            exact J_iret (pc := 144) h hr (by subst ho; exact ⟨rfl, rfl⟩) dX5_step_144
          · replace ho := (if_pos c5).symm.trans ho
            exact jn_X5_step_127 h hR hL e4 pl kd a b hm hpl hr ho
def f_X5_step_j68 (pl : Int32) (kd : Int32) (a : Int32) (b : Int32) (σ : Sg) : Int32 × Sg := (if kd = 12 then (if f_X5_in a 0 5 = 0 then ((-1), σ) else (f_X5_step_j85 pl kd a b σ)) else (f_X5_step_j85 pl kd a b σ))
set_option maxHeartbeats 4000000 in
theorem jn_X5_step_68 {x : Cx} {ad : Nat → Nat} {σ : Sg} {L : Nat} (h : Ok x cX5_step "SafeDeskModel" (some .int)) (hR : RmOk x L 0 0) (hL : 1 ≤ L) (e4 : xN x = 6) (pl : Int32) (kd : Int32) (a : Int32) (b : Int32) (hm : ∀ p : Nat, p < 6 → 0 ≤ (σ 8 p).toInt ∧ (σ 8 p).toInt ≤ 12) (hpl : ¬ f_X5_in pl 0 5 = 0) {out : Int32 × Sg} (hr : Rt x 0 0 (Det (some (.int out.1)) (wM (xG x) ad out.2))) (ho : f_X5_step_j68 pl kd a b σ = out) : J x 0 0 (wM (xG x) ad σ) 68 [(0, .ref (ad 0)), (1, .int pl), (2, .int kd), (3, .int a), (4, .int b)] [] := by
  unfold f_X5_step_j68 at ho
  refine J_iload_n (pc := 68) (n := 2) (i := 2) h 2 rfl rfl dX5_step_68 ?_
  refine J_bipush (pc := 69) h (12) rfl dX5_step_69 ?_
  refine J_icmp_ne (pc := 71) h 85 (by decide) dX5_step_71 (fun c1 => ?_) (fun c1 => ?_)
  · replace ho := (if_neg c1).symm.trans ho
    exact jn_X5_step_85 h hR hL e4 pl kd a b hm hpl hr ho
  · replace ho := (if_pos c1).symm.trans ho
    refine J_iload_n (pc := 74) (n := 3) (i := 3) h 3 rfl rfl dX5_step_74 ?_
    refine J_iconst (pc := 75) h (0) rfl dX5_step_75 ?_
    refine J_iconst (pc := 76) h (5) rfl dX5_step_76 ?_
    refine J_cS (pc := 77) h hR (by omega) (c_X5_in _ _ _ a 0 5 ) (by decide) m_415 m_416 m_3 m_417 hd_X5_in rfl rfl (Nat.le_of_ble_eq_true rfl) [.int (f_X5_in a 0 5)] rfl dX5_step_77 ?_
    refine J_if_ne (pc := 80) h 85 (by decide) dX5_step_80 (fun c2 => ?_) (fun c2 => ?_)
    · replace ho := (if_neg c2).symm.trans ho
      exact jn_X5_step_85 h hR hL e4 pl kd a b hm hpl hr ho
    · replace ho := (if_pos c2).symm.trans ho
      refine J_iconst (pc := 83) h (-1) rfl dX5_step_83 ?_
      exact J_iret (pc := 84) h hr (by subst ho; exact ⟨rfl, rfl⟩) dX5_step_84
def f_X5_step_j51 (pl : Int32) (kd : Int32) (a : Int32) (b : Int32) (σ : Sg) : Int32 × Sg := (if kd = 9 then (if f_X5_in a 20 23 = 0 then ((-1), σ) else (f_X5_step_j68 pl kd a b σ)) else (f_X5_step_j68 pl kd a b σ))
set_option maxHeartbeats 4000000 in
theorem jn_X5_step_51 {x : Cx} {ad : Nat → Nat} {σ : Sg} {L : Nat} (h : Ok x cX5_step "SafeDeskModel" (some .int)) (hR : RmOk x L 0 0) (hL : 1 ≤ L) (e4 : xN x = 6) (pl : Int32) (kd : Int32) (a : Int32) (b : Int32) (hm : ∀ p : Nat, p < 6 → 0 ≤ (σ 8 p).toInt ∧ (σ 8 p).toInt ≤ 12) (hpl : ¬ f_X5_in pl 0 5 = 0) {out : Int32 × Sg} (hr : Rt x 0 0 (Det (some (.int out.1)) (wM (xG x) ad out.2))) (ho : f_X5_step_j51 pl kd a b σ = out) : J x 0 0 (wM (xG x) ad σ) 51 [(0, .ref (ad 0)), (1, .int pl), (2, .int kd), (3, .int a), (4, .int b)] [] := by
  unfold f_X5_step_j51 at ho
  refine J_iload_n (pc := 51) (n := 2) (i := 2) h 2 rfl rfl dX5_step_51 ?_
  refine J_bipush (pc := 52) h (9) rfl dX5_step_52 ?_
  refine J_icmp_ne (pc := 54) h 68 (by decide) dX5_step_54 (fun c1 => ?_) (fun c1 => ?_)
  · replace ho := (if_neg c1).symm.trans ho
    exact jn_X5_step_68 h hR hL e4 pl kd a b hm hpl hr ho
  · replace ho := (if_pos c1).symm.trans ho
    refine J_iload_n (pc := 57) (n := 3) (i := 3) h 3 rfl rfl dX5_step_57 ?_
    refine J_bipush (pc := 58) h (20) rfl dX5_step_58 ?_
    refine J_bipush (pc := 60) h (23) rfl dX5_step_60 ?_
    refine J_cS (pc := 62) h hR (by omega) (c_X5_in _ _ _ a 20 23 ) (by decide) m_415 m_416 m_3 m_417 hd_X5_in rfl rfl (Nat.le_of_ble_eq_true rfl) [.int (f_X5_in a 20 23)] rfl dX5_step_62 ?_
    refine J_if_eq (pc := 65) h 83 (by decide) dX5_step_65 (fun c2 => ?_) (fun c2 => ?_)
    · replace ho := (if_pos c2).symm.trans ho
      refine J_iconst (pc := 83) h (-1) rfl dX5_step_83 ?_
      exact J_iret (pc := 84) h hr (by subst ho; exact ⟨rfl, rfl⟩) dX5_step_84
    · replace ho := (if_neg c2).symm.trans ho
      exact jn_X5_step_68 h hR hL e4 pl kd a b hm hpl hr ho
def f_X5_step (pl : Int32) (kd : Int32) (a : Int32) (b : Int32) (σ : Sg) : Int32 × Sg := (if f_X5_in pl 0 5 = 0 then ((-1), σ) else (if f_X5_in kd 0 13 = 0 then ((-1), σ) else (if kd = 0 then (if f_X5_in a 0 7 = 0 then ((-1), σ) else (f_X5_step_j51 pl kd a b σ)) else (if f_X5_in kd 2 7 = 0 then (if kd = 13 then (if f_X5_in a 0 7 = 0 then ((-1), σ) else (f_X5_step_j51 pl kd a b σ)) else (f_X5_step_j51 pl kd a b σ)) else (if f_X5_in a 0 7 = 0 then ((-1), σ) else (f_X5_step_j51 pl kd a b σ))))))
theorem hd_X5_step : yX5_step.cls ≠ "java/lang/invoke/MethodHandle" ∧ yX5_step.cls ≠ "java/lang/invoke/VarHandle" ∧ (parseMethodDescriptor yX5_step.desc).map (fun d => d.parameters.length) = some 4 := by decide +kernel
set_option maxHeartbeats 4000000 in
set_option maxRecDepth 20000 in
theorem c_X5_step (l : Launch) (g : Gy) (ad : Nat → Nat) (σ : Sg) (pl : Int32) (kd : Int32) (a : Int32) (b : Int32) (hm : ∀ p : Nat, p < 6 → 0 ≤ (σ 8 p).toInt ∧ (σ 8 p).toInt ≤ 12) : Con l g yX5_step cX5_step 6 (some .int) (rmL 1) [.ref (ad 0), .int pl, .int kd, .int a, .int b] (wM g ad σ) (Det (some (.int (f_X5_step pl kd a b σ).1)) (wM g ad ((f_X5_step pl kd a b σ).2))) := by
  refine Con.of (by decide) (Nat.le_of_ble_eq_true rfl) ?_
  intro x h e1 e2 e3 e4 e5 hr
  subst e1 e2
  have h : Ok x cX5_step "SafeDeskModel" (some .int) := h
  have hR : RmOk x 1 0 0 := RmOk.of e3 (Nat.le_refl _) (Nat.le_refl _)
  obtain ⟨out, ho⟩ : ∃ o, f_X5_step pl kd a b σ = o := ⟨_, rfl⟩
  rw [ho] at hr
  unfold f_X5_step at ho
  show J x 0 0 _ 0 [(0, .ref (ad 0)), (1, .int pl), (2, .int kd), (3, .int a), (4, .int b)] []
  refine J_iload_n (pc := 0) (n := 1) (i := 1) h 1 rfl rfl dX5_step_0 ?_
  refine J_iconst (pc := 1) h (0) rfl dX5_step_1 ?_
  refine J_iconst (pc := 2) h (5) rfl dX5_step_2 ?_
  refine J_cS (pc := 3) h hR (by decide) (c_X5_in _ _ _ pl 0 5 ) (by decide) m_415 m_416 m_3 m_417 hd_X5_in rfl rfl (Nat.le_of_ble_eq_true rfl) [.int (f_X5_in pl 0 5)] rfl dX5_step_3 ?_
  refine J_if_eq (pc := 6) h 19 (by decide) dX5_step_6 (fun c1 => ?_) (fun c1 => ?_)
  · replace ho := (if_pos c1).symm.trans ho
    refine J_iconst (pc := 19) h (-1) rfl dX5_step_19 ?_
    exact J_iret (pc := 20) h hr (by subst ho; exact ⟨rfl, rfl⟩) dX5_step_20
  · replace ho := (if_neg c1).symm.trans ho
    refine J_iload_n (pc := 9) (n := 2) (i := 2) h 2 rfl rfl dX5_step_9 ?_
    refine J_iconst (pc := 10) h (0) rfl dX5_step_10 ?_
    refine J_bipush (pc := 11) h (13) rfl dX5_step_11 ?_
    refine J_cS (pc := 13) h hR (by decide) (c_X5_in _ _ _ kd 0 13 ) (by decide) m_415 m_416 m_3 m_417 hd_X5_in rfl rfl (Nat.le_of_ble_eq_true rfl) [.int (f_X5_in kd 0 13)] rfl dX5_step_13 ?_
    refine J_if_ne (pc := 16) h 21 (by decide) dX5_step_16 (fun c2 => ?_) (fun c2 => ?_)
    · replace ho := (if_neg c2).symm.trans ho
      refine J_iload_n (pc := 21) (n := 2) (i := 2) h 2 rfl rfl dX5_step_21 ?_
      refine J_if_eq (pc := 22) h 41 (by decide) dX5_step_22 (fun c3 => ?_) (fun c3 => ?_)
      · replace ho := (if_pos c3).symm.trans ho
        refine J_iload_n (pc := 41) (n := 3) (i := 3) h 3 rfl rfl dX5_step_41 ?_
        refine J_iconst (pc := 42) h (0) rfl dX5_step_42 ?_
        refine J_bipush (pc := 43) h (7) rfl dX5_step_43 ?_
        refine J_cS (pc := 45) h hR (by decide) (c_X5_in _ _ _ a 0 7 ) (by decide) m_415 m_416 m_3 m_417 hd_X5_in rfl rfl (Nat.le_of_ble_eq_true rfl) [.int (f_X5_in a 0 7)] rfl dX5_step_45 ?_
        refine J_if_eq (pc := 48) h 83 (by decide) dX5_step_48 (fun c4 => ?_) (fun c4 => ?_)
        · replace ho := (if_pos c4).symm.trans ho
          refine J_iconst (pc := 83) h (-1) rfl dX5_step_83 ?_
          exact J_iret (pc := 84) h hr (by subst ho; exact ⟨rfl, rfl⟩) dX5_step_84
        · replace ho := (if_neg c4).symm.trans ho
          exact jn_X5_step_51 h hR (by decide) e4 pl kd a b hm (by assumption) hr ho
      · replace ho := (if_neg c3).symm.trans ho
        refine J_iload_n (pc := 25) (n := 2) (i := 2) h 2 rfl rfl dX5_step_25 ?_
        refine J_iconst (pc := 26) h (2) rfl dX5_step_26 ?_
        refine J_bipush (pc := 27) h (7) rfl dX5_step_27 ?_
        refine J_cS (pc := 29) h hR (by decide) (c_X5_in _ _ _ kd 2 7 ) (by decide) m_415 m_416 m_3 m_417 hd_X5_in rfl rfl (Nat.le_of_ble_eq_true rfl) [.int (f_X5_in kd 2 7)] rfl dX5_step_29 ?_
        refine J_if_ne (pc := 32) h 41 (by decide) dX5_step_32 (fun c5 => ?_) (fun c5 => ?_)
        · replace ho := (if_neg c5).symm.trans ho
          refine J_iload_n (pc := 41) (n := 3) (i := 3) h 3 rfl rfl dX5_step_41 ?_
          refine J_iconst (pc := 42) h (0) rfl dX5_step_42 ?_
          refine J_bipush (pc := 43) h (7) rfl dX5_step_43 ?_
          refine J_cS (pc := 45) h hR (by decide) (c_X5_in _ _ _ a 0 7 ) (by decide) m_415 m_416 m_3 m_417 hd_X5_in rfl rfl (Nat.le_of_ble_eq_true rfl) [.int (f_X5_in a 0 7)] rfl dX5_step_45 ?_
          refine J_if_eq (pc := 48) h 83 (by decide) dX5_step_48 (fun c6 => ?_) (fun c6 => ?_)
          · replace ho := (if_pos c6).symm.trans ho
            refine J_iconst (pc := 83) h (-1) rfl dX5_step_83 ?_
            exact J_iret (pc := 84) h hr (by subst ho; exact ⟨rfl, rfl⟩) dX5_step_84
          · replace ho := (if_neg c6).symm.trans ho
            exact jn_X5_step_51 h hR (by decide) e4 pl kd a b hm (by assumption) hr ho
        · replace ho := (if_pos c5).symm.trans ho
          refine J_iload_n (pc := 35) (n := 2) (i := 2) h 2 rfl rfl dX5_step_35 ?_
          refine J_bipush (pc := 36) h (13) rfl dX5_step_36 ?_
          refine J_icmp_ne (pc := 38) h 51 (by decide) dX5_step_38 (fun c7 => ?_) (fun c7 => ?_)
          · replace ho := (if_neg c7).symm.trans ho
            exact jn_X5_step_51 h hR (by decide) e4 pl kd a b hm (by assumption) hr ho
          · replace ho := (if_pos c7).symm.trans ho
            refine J_iload_n (pc := 41) (n := 3) (i := 3) h 3 rfl rfl dX5_step_41 ?_
            refine J_iconst (pc := 42) h (0) rfl dX5_step_42 ?_
            refine J_bipush (pc := 43) h (7) rfl dX5_step_43 ?_
            refine J_cS (pc := 45) h hR (by decide) (c_X5_in _ _ _ a 0 7 ) (by decide) m_415 m_416 m_3 m_417 hd_X5_in rfl rfl (Nat.le_of_ble_eq_true rfl) [.int (f_X5_in a 0 7)] rfl dX5_step_45 ?_
            refine J_if_eq (pc := 48) h 83 (by decide) dX5_step_48 (fun c8 => ?_) (fun c8 => ?_)
            · replace ho := (if_pos c8).symm.trans ho
              refine J_iconst (pc := 83) h (-1) rfl dX5_step_83 ?_
              exact J_iret (pc := 84) h hr (by subst ho; exact ⟨rfl, rfl⟩) dX5_step_84
            · replace ho := (if_neg c8).symm.trans ho
              exact jn_X5_step_51 h hR (by decide) e4 pl kd a b hm (by assumption) hr ho
    · replace ho := (if_pos c2).symm.trans ho
      refine J_iconst (pc := 19) h (-1) rfl dX5_step_19 ?_
      exact J_iret (pc := 20) h hr (by subst ho; exact ⟨rfl, rfl⟩) dX5_step_20
