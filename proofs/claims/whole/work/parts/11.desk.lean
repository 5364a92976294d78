theorem vp_of {i b : Int32} {N : Nat} (hb : b.toInt = N) (h0 : ¬ i < 0) (h1 : ¬ b ≤ i) : vp_in i N := by
  rw [Int32.lt_iff_toInt_lt] at h0
  rw [Int32.le_iff_toInt_le, hb] at h1
  have z : (0 : Int32).toInt = 0 := rfl
  rw [z] at h0
  exact vp_in_iff.mpr ⟨by omega, by omega⟩
theorem vp_lt {i : Int32} {N : Nat} (h : vp_in i N) : i.toNatClampNeg < N := Nat.not_le.mp fun q => h (Or.inr q)
theorem isRoom_in {a : Int32} (h : ¬ f_X4_isRoom a = 0) : vp_in a 8 := by
  unfold f_X4_isRoom at h
  by_cases c1 : a < 0
  · rw [if_pos c1] at h; exact absurd rfl h
  · by_cases c2 : (8 : Int32) ≤ a
    · rw [if_neg c1, if_pos c2] at h; exact absurd rfl h
    · exact vp_of (b := 8) rfl c1 c2
theorem isPlan_in {a : Int32} (h : ¬ f_X4_isPlan a = 0) : vp_in a 6 := by
  unfold f_X4_isPlan at h
  by_cases c1 : a < 0
  · rw [if_pos c1] at h; exact absurd rfl h
  · by_cases c2 : (6 : Int32) ≤ a
    · rw [if_neg c1, if_pos c2] at h; exact absurd rfl h
    · exact vp_of (b := 6) rfl c1 c2
theorem isPlan_lt {a : Int32} (h : ¬ f_X4_isPlan a = 0) : a.toNatClampNeg < 6 := vp_lt (isPlan_in h)
/-- what stands in the rooms is there -/
def RI (n : Nat) (σ : Sg) : Prop := ∀ r : Nat, r < 8 → σ 1 r = -1 ∨ 28 + (σ 1 r).toNatClampNeg < n
theorem tr_in {a b : Int32} (h0 : ¬ a < 0) (h1 : ¬ b ≤ a) (h2 : b ≤ 120) : vp_in a 120 := by
  rw [Int32.lt_iff_toInt_lt] at h0
  rw [Int32.le_iff_toInt_le] at h1 h2
  have z : (0 : Int32).toInt = 0 := rfl
  have z2 : (120 : Int32).toInt = 120 := rfl
  rw [z] at h0
  rw [z2] at h2
  exact vp_in_iff.mpr ⟨by omega, by omega⟩
def f_X0_add (p : Nat) (kd : Int32) (a : Int32) (b : Int32) (σ : Sg) : Sg := (if 12 ≤ σ (4 + p) 3 then σ else (up2 (up2 (up2 (up2 σ (10 + 3 * p + 0) ((σ (4 + p) 3).toNatClampNeg) kd) (10 + 3 * p + 1) ((σ (4 + p) 3).toNatClampNeg) a) (10 + 3 * p + 2) ((σ (4 + p) 3).toNatClampNeg) b) (4 + p) 3 ((σ (4 + p) 3) + 1)))
theorem hd_X0_add : yX0_add.cls ≠ "java/lang/invoke/MethodHandle" ∧ yX0_add.cls ≠ "java/lang/invoke/VarHandle" ∧ (parseMethodDescriptor yX0_add.desc).map (fun d => d.parameters.length) = some 3 := by decide +kernel
set_option maxHeartbeats 4000000 in
set_option maxRecDepth 20000 in
theorem c_X0_add (l : Launch) (g : Gy) (ad : Nat → Nat) (n : Nat) (σ : Sg) (p : Nat) (kd : Int32) (a : Int32) (b : Int32) (hp : p < 6) (hN : 28 ≤ n) (hs : ¬ σ (4 + p) 3 < 0) : Con l g yX0_add cX0_add 4 none (rmL 0) [.ref (ad (4 + p)), .int kd, .int a, .int b] (wC g ad n σ) (Det none (wC g ad n (f_X0_add p kd a b σ))) := by
  refine Con.of (by decide) (Nat.le_of_ble_eq_true rfl) ?_
  intro x h e1 e2 e3 e4 e5 hr
  subst e1 e2
  have h : Ok x cX0_add "SafeDesk$Plan" none := h
  have hR : RmOk x 0 0 0 := RmOk.of e3 (Nat.le_refl _) (Nat.le_refl _)
  obtain ⟨out, ho⟩ : ∃ o, f_X0_add p kd a b σ = o := ⟨_, rfl⟩
  rw [ho] at hr
  unfold f_X0_add at ho
  show J x 0 0 _ 0 [(0, .ref (ad (4 + p))), (1, .int kd), (2, .int a), (3, .int b)] []
  refine J_aload_n (pc := 0) (n := 0) (i := 0) h 0 rfl rfl dX0_add_0 ?_
  refine J_Pz (pc := 1) h hp (by omega) m_31 (σ (4 + p) 3) rfl dX0_add_1 ?_
  refine J_bipush (pc := 4) h (12) rfl dX0_add_4 ?_
  refine J_icmp_ge (pc := 6) h 49 (by decide) dX0_add_6 (fun c1 => ?_) (fun c1 => ?_)
  · replace ho := (if_pos c1).symm.trans ho
    exact J_vret (pc := 49) h hr (by subst ho; exact ⟨rfl, rfl⟩) dX0_add_49
  · replace ho := (if_neg c1).symm.trans ho
    refine J_aload_n (pc := 9) (n := 0) (i := 0) h 0 rfl rfl dX0_add_9 ?_
    refine J_Pr0 (pc := 10) h hp (by omega) m_25 dX0_add_10 ?_
    refine J_aload_n (pc := 13) (n := 0) (i := 0) h 0 rfl rfl dX0_add_13 ?_
    refine J_Pz (pc := 14) h hp (by omega) m_31 (σ (4 + p) 3) rfl dX0_add_14 ?_
    refine J_iload_n (pc := 17) (n := 1) (i := 1) h 1 rfl rfl dX0_add_17 ?_
    refine J_Is (pc := 18) h hp (by decide) (by omega) (vp_of (b := 12) rfl hs (by assumption)) dX0_add_18 ?_
    refine J_aload_n (pc := 19) (n := 0) (i := 0) h 0 rfl rfl dX0_add_19 ?_
    refine J_Pr1 (pc := 20) h hp (by omega) m_27 dX0_add_20 ?_
    refine J_aload_n (pc := 23) (n := 0) (i := 0) h 0 rfl rfl dX0_add_23 ?_
    refine J_Pz (pc := 24) h hp (by omega) m_31 (σ (4 + p) 3) (up2_off _ _ (by omega)) dX0_add_24 ?_
    refine J_iload_n (pc := 27) (n := 2) (i := 2) h 2 rfl rfl dX0_add_27 ?_
    refine J_Is (pc := 28) h hp (by decide) (by omega) (vp_of (b := 12) rfl hs (by assumption)) dX0_add_28 ?_
    refine J_aload_n (pc := 29) (n := 0) (i := 0) h 0 rfl rfl dX0_add_29 ?_
    refine J_Pr2 (pc := 30) h hp (by omega) m_29 dX0_add_30 ?_
    refine J_aload_n (pc := 33) (n := 0) (i := 0) h 0 rfl rfl dX0_add_33 ?_
    refine J_Pz (pc := 34) h hp (by omega) m_31 (σ (4 + p) 3) ((up2_off _ _ (by omega)).trans (up2_off _ _ (by omega))) dX0_add_34 ?_
    refine J_iload_n (pc := 37) (n := 3) (i := 3) h 3 rfl rfl dX0_add_37 ?_
    refine J_Is (pc := 38) h hp (by decide) (by omega) (vp_of (b := 12) rfl hs (by assumption)) dX0_add_38 ?_
    refine J_aload_n (pc := 39) (n := 0) (i := 0) h 0 rfl rfl dX0_add_39 ?_
    refine J_dup (pc := 40) h rfl dX0_add_40 ?_
    refine J_Pz (pc := 41) h hp (by omega) m_31 (σ (4 + p) 3) ((up2_off _ _ (by omega)).trans ((up2_off _ _ (by omega)).trans (up2_off _ _ (by omega)))) dX0_add_41 ?_
    refine J_iconst (pc := 44) h (1) rfl dX0_add_44 ?_
    refine J_iadd (pc := 45) h dX0_add_45 ?_
    refine J_Pzp (pc := 46) h hp (by omega) m_31 dX0_add_46 ?_
    exact J_vret (pc := 49) h hr (by subst ho; exact ⟨rfl, rfl⟩) dX0_add_49
def f_X0_behind (p : Nat) (a : Int32) (b : Int32) (σ : Sg) : Int32 := (if σ (10 + 3 * p + 0) a.toNatClampNeg = 0 then (f_J9_min_7cf53 ((a + 1) + (σ (10 + 3 * p + 2) a.toNatClampNeg)) b) else (if σ (10 + 3 * p + 0) a.toNatClampNeg = 1 then (f_J9_min_7cf53 ((a + 1) + (σ (10 + 3 * p + 2) a.toNatClampNeg)) b) else (a + 1)))
theorem hd_X0_behind : yX0_behind.cls ≠ "java/lang/invoke/MethodHandle" ∧ yX0_behind.cls ≠ "java/lang/invoke/VarHandle" ∧ (parseMethodDescriptor yX0_behind.desc).map (fun d => d.parameters.length) = some 2 := by decide +kernel
set_option maxHeartbeats 4000000 in
set_option maxRecDepth 20000 in
theorem c_X0_behind (l : Launch) (g : Gy) (ad : Nat → Nat) (n : Nat) (σ : Sg) (p : Nat) (a : Int32) (b : Int32) (hp : p < 6) (hN : 28 ≤ n) (ha : vp_in a 12) : Con l g yX0_behind cX0_behind 4 (some .int) (rmL 1) [.ref (ad (4 + p)), .int a, .int b] (wC g ad n σ) (Det (some (.int (f_X0_behind p a b σ))) (wC g ad n σ)) := by
  refine Con.of (by decide) (Nat.le_of_ble_eq_true rfl) ?_
  intro x h e1 e2 e3 e4 e5 hr
  subst e1 e2
  have h : Ok x cX0_behind "SafeDesk$Plan" (some .int) := h
  have hR : RmOk x 1 0 0 := RmOk.of e3 (Nat.le_refl _) (Nat.le_refl _)
  obtain ⟨out, ho⟩ : ∃ o, f_X0_behind p a b σ = o := ⟨_, rfl⟩
  rw [ho] at hr
  unfold f_X0_behind at ho
  show J x 0 0 _ 0 [(0, .ref (ad (4 + p))), (1, .int a), (2, .int b)] []
  refine J_aload_n (pc := 0) (n := 0) (i := 0) h 0 rfl rfl dX0_behind_0 ?_
  refine J_Pr0 (pc := 1) h hp (by omega) m_25 dX0_behind_1 ?_
  refine J_iload_n (pc := 4) (n := 1) (i := 1) h 1 rfl rfl dX0_behind_4 ?_
  refine J_Ia (pc := 5) h hp (by decide) (by omega) ha (σ (10 + 3 * p + 0) a.toNatClampNeg) rfl dX0_behind_5 ?_
  refine J_if_eq (pc := 6) h 19 (by decide) dX0_behind_6 (fun c1 => ?_) (fun c1 => ?_)
  · replace ho := (if_pos c1).symm.trans ho
    refine J_iconst (pc := 19) h (1) rfl dX0_behind_19 ?_
    refine J_goto (pc := 20) h 24 (by decide) dX0_behind_20 ?_
    refine J_istore_n (pc := 24) (n := 3) (i := 3) h [(3, .int 1), (0, .ref (ad (4 + p))), (1, .int a), (2, .int b)] rfl (by rw [e4]; decide) rfl dX0_behind_24 ?_
    refine J_iload_n (pc := 25) (n := 3) (i := 3) h 0 rfl rfl dX0_behind_25 ?_
    refine J_if_eq (pc := 26) h 46 (by decide) dX0_behind_26 (fun c2 => ?_) (fun c2 => ?_)
    · exact absurd c2 (by decide)
    · skip
      refine J_iload_n (pc := 29) (n := 1) (i := 1) h 2 rfl rfl dX0_behind_29 ?_
      refine J_iconst (pc := 30) h (1) rfl dX0_behind_30 ?_
      refine J_iadd (pc := 31) h dX0_behind_31 ?_
      refine J_aload_n (pc := 32) (n := 0) (i := 0) h 1 rfl rfl dX0_behind_32 ?_
      refine J_Pr2 (pc := 33) h hp (by omega) m_29 dX0_behind_33 ?_
      refine J_iload_n (pc := 36) (n := 1) (i := 1) h 2 rfl rfl dX0_behind_36 ?_
      refine J_Ia (pc := 37) h hp (by decide) (by omega) ha (σ (10 + 3 * p + 2) a.toNatClampNeg) rfl dX0_behind_37 ?_
      refine J_iadd (pc := 38) h dX0_behind_38 ?_
      refine J_iload_n (pc := 39) (n := 2) (i := 2) h 3 rfl rfl dX0_behind_39 ?_
      refine J_cS (pc := 40) h hR (by decide) (c_J9_min_7cf53 _ _ _ ((a + 1) + (σ (10 + 3 * p + 2) a.toNatClampNeg)) b ) (by decide) m_193 m_194 m_7 m_195 hd_J9_min_7cf53 rfl rfl (Nat.le_of_ble_eq_true rfl) [.int (f_J9_min_7cf53 ((a + 1) + (σ (10 + 3 * p + 2) a.toNatClampNeg)) b)] rfl dX0_behind_40 ?_
      refine J_goto (pc := 43) h 49 (by decide) dX0_behind_43 ?_
      exact J_iret (pc := 49) h hr (by subst ho; exact ⟨rfl, rfl⟩) dX0_behind_49
  · replace ho := (if_neg c1).symm.trans ho
    refine J_aload_n (pc := 9) (n := 0) (i := 0) h 0 rfl rfl dX0_behind_9 ?_
    refine J_Pr0 (pc := 10) h hp (by omega) m_25 dX0_behind_10 ?_
    refine J_iload_n (pc := 13) (n := 1) (i := 1) h 1 rfl rfl dX0_behind_13 ?_
    refine J_Ia (pc := 14) h hp (by decide) (by omega) ha (σ (10 + 3 * p + 0) a.toNatClampNeg) rfl dX0_behind_14 ?_
    refine J_iconst (pc := 15) h (1) rfl dX0_behind_15 ?_
    refine J_icmp_ne (pc := 16) h 23 (by decide) dX0_behind_16 (fun c3 => ?_) (fun c3 => ?_)
    · replace ho := (if_neg c3).symm.trans ho
      refine J_iconst (pc := 23) h (0) rfl dX0_behind_23 ?_
      refine J_istore_n (pc := 24) (n := 3) (i := 3) h [(3, .int 0), (0, .ref (ad (4 + p))), (1, .int a), (2, .int b)] rfl (by rw [e4]; decide) rfl dX0_behind_24 ?_
      refine J_iload_n (pc := 25) (n := 3) (i := 3) h 0 rfl rfl dX0_behind_25 ?_
      refine J_if_eq (pc := 26) h 46 (by decide) dX0_behind_26 (fun c4 => ?_) (fun c4 => ?_)
      · skip
        refine J_iload_n (pc := 46) (n := 1) (i := 1) h 2 rfl rfl dX0_behind_46 ?_
        refine J_iconst (pc := 47) h (1) rfl dX0_behind_47 ?_
        refine J_iadd (pc := 48) h dX0_behind_48 ?_
        exact J_iret (pc := 49) h hr (by subst ho; exact ⟨rfl, rfl⟩) dX0_behind_49
      · exact absurd rfl c4
    · replace ho := (if_pos c3).symm.trans ho
      refine J_iconst (pc := 19) h (1) rfl dX0_behind_19 ?_
      refine J_goto (pc := 20) h 24 (by decide) dX0_behind_20 ?_
      refine J_istore_n (pc := 24) (n := 3) (i := 3) h [(3, .int 1), (0, .ref (ad (4 + p))), (1, .int a), (2, .int b)] rfl (by rw [e4]; decide) rfl dX0_behind_24 ?_
      refine J_iload_n (pc := 25) (n := 3) (i := 3) h 0 rfl rfl dX0_behind_25 ?_
      refine J_if_eq (pc := 26) h 46 (by decide) dX0_behind_26 (fun c5 => ?_) (fun c5 => ?_)
      · exact absurd c5 (by decide)
      · skip
        refine J_iload_n (pc := 29) (n := 1) (i := 1) h 2 rfl rfl dX0_behind_29 ?_
        refine J_iconst (pc := 30) h (1) rfl dX0_behind_30 ?_
        refine J_iadd (pc := 31) h dX0_behind_31 ?_
        refine J_aload_n (pc := 32) (n := 0) (i := 0) h 1 rfl rfl dX0_behind_32 ?_
        refine J_Pr2 (pc := 33) h hp (by omega) m_29 dX0_behind_33 ?_
        refine J_iload_n (pc := 36) (n := 1) (i := 1) h 2 rfl rfl dX0_behind_36 ?_
        refine J_Ia (pc := 37) h hp (by decide) (by omega) ha (σ (10 + 3 * p + 2) a.toNatClampNeg) rfl dX0_behind_37 ?_
        refine J_iadd (pc := 38) h dX0_behind_38 ?_
        refine J_iload_n (pc := 39) (n := 2) (i := 2) h 3 rfl rfl dX0_behind_39 ?_
        refine J_cS (pc := 40) h hR (by decide) (c_J9_min_7cf53 _ _ _ ((a + 1) + (σ (10 + 3 * p + 2) a.toNatClampNeg)) b ) (by decide) m_193 m_194 m_7 m_195 hd_J9_min_7cf53 rfl rfl (Nat.le_of_ble_eq_true rfl) [.int (f_J9_min_7cf53 ((a + 1) + (σ (10 + 3 * p + 2) a.toNatClampNeg)) b)] rfl dX0_behind_40 ?_
        refine J_goto (pc := 43) h 49 (by decide) dX0_behind_43 ?_
        exact J_iret (pc := 49) h hr (by subst ho; exact ⟨rfl, rfl⟩) dX0_behind_49
def f_X4_safeIn (a : Int32) (σ : Sg) : Int32 := (if f_X4_isRoom a = 0 then (-1) else (σ 1 a.toNatClampNeg))
theorem hd_X4_safeIn : yX4_safeIn.cls ≠ "java/lang/invoke/MethodHandle" ∧ yX4_safeIn.cls ≠ "java/lang/invoke/VarHandle" ∧ (parseMethodDescriptor yX4_safeIn.desc).map (fun d => d.parameters.length) = some 1 := by decide +kernel
set_option maxHeartbeats 4000000 in
set_option maxRecDepth 20000 in
theorem c_X4_safeIn (l : Launch) (g : Gy) (ad : Nat → Nat) (n : Nat) (σ : Sg) (a : Int32) (hN : 28 ≤ n) : Con l g yX4_safeIn cX4_safeIn 2 (some (.object "SafeDesk$Safe")) (rmL 1) [.ref (ad 0), .int a] (wC g ad n σ) (Det (some (va_rf (rfa ad (f_X4_safeIn a σ)))) (wC g ad n σ)) := by
  refine Con.of (by decide) (Nat.le_of_ble_eq_true rfl) ?_
  intro x h e1 e2 e3 e4 e5 hr
  subst e1 e2
  have h : Ok x cX4_safeIn "SafeDesk" (some (.object "SafeDesk$Safe")) := h
  have hR : RmOk x 1 0 0 := RmOk.of e3 (Nat.le_refl _) (Nat.le_refl _)
  obtain ⟨out, ho⟩ : ∃ o, f_X4_safeIn a σ = o := ⟨_, rfl⟩
  rw [ho] at hr
  unfold f_X4_safeIn at ho
  show J x 0 0 _ 0 [(0, .ref (ad 0)), (1, .int a)] []
  refine J_iload_n (pc := 0) (n := 1) (i := 1) h 1 rfl rfl dX4_safeIn_0 ?_
  refine J_cS (pc := 1) h hR (by decide) (c_X4_isRoom _ _ _ a ) (by decide) m_75 m_76 m_1 m_77 hd_X4_isRoom rfl rfl (Nat.le_of_ble_eq_true rfl) [.int (f_X4_isRoom a)] rfl dX4_safeIn_1 ?_
  refine J_if_eq (pc := 4) h 16 (by decide) dX4_safeIn_4 (fun c1 => ?_) (fun c1 => ?_)
  · replace ho := (if_pos c1).symm.trans ho
    refine J_null (pc := 16) h dX4_safeIn_16 ?_
    rw [← rfa_m1 ad]
    exact J_aret (pc := 17) h hr (by subst ho; exact ⟨rfl, rfl⟩) dX4_safeIn_17
  · replace ho := (if_neg c1).symm.trans ho
    refine J_aload_n (pc := 7) (n := 0) (i := 0) h 0 rfl rfl dX4_safeIn_7 ?_
    refine J_Dr0 (pc := 8) h (by omega) m_43 dX4_safeIn_8 ?_
    refine J_iload_n (pc := 11) (n := 1) (i := 1) h 1 rfl rfl dX4_safeIn_11 ?_
    refine J_Ra (pc := 12) h (by omega) (isRoom_in (by assumption)) (σ 1 a.toNatClampNeg) rfl dX4_safeIn_12 ?_
    refine J_goto (pc := 13) h 17 (by decide) dX4_safeIn_13 ?_
    exact J_aret (pc := 17) h hr (by subst ho; exact ⟨rfl, rfl⟩) dX4_safeIn_17
theorem safeIn_ok {n : Nat} {σ : Sg} (hI : RI n σ) (a : Int32) : f_X4_safeIn a σ = -1 ∨ 28 + (f_X4_safeIn a σ).toNatClampNeg < n := by
  unfold f_X4_safeIn
  by_cases c : f_X4_isRoom a = 0
  · rw [if_pos c]; exact Or.inl rfl
  · rw [if_neg c]; exact hI _ (vp_lt (isRoom_in c))
def f_X4_setRoom (a : Int32) (w : Int32) (σ : Sg) : Sg := (if f_X4_isRoom a = 0 then σ else (up2 σ 1 a.toNatClampNeg w))
theorem hd_X4_setRoom : yX4_setRoom.cls ≠ "java/lang/invoke/MethodHandle" ∧ yX4_setRoom.cls ≠ "java/lang/invoke/VarHandle" ∧ (parseMethodDescriptor yX4_setRoom.desc).map (fun d => d.parameters.length) = some 2 := by decide +kernel
set_option maxHeartbeats 4000000 in
set_option maxRecDepth 20000 in
theorem c_X4_setRoom (l : Launch) (g : Gy) (ad : Nat → Nat) (n : Nat) (σ : Sg) (a : Int32) (w : Int32) (hN : 28 ≤ n) (hw : w = -1 ∨ 28 + w.toNatClampNeg < n) : Con l g yX4_setRoom cX4_setRoom 3 none (rmL 1) [.ref (ad 0), .int a, va_rf (rfa ad w)] (wC g ad n σ) (Det none (wC g ad n (f_X4_setRoom a w σ))) := by
  refine Con.of (by decide) (by simp [lg_sl, rf_cat, ref_cat, int_cat]) ?_
  intro x h e1 e2 e3 e4 e5 hr
  subst e1 e2
  have h : Ok x cX4_setRoom "SafeDesk" none := h
  have hR : RmOk x 1 0 0 := RmOk.of e3 (Nat.le_refl _) (Nat.le_refl _)
  obtain ⟨out, ho⟩ : ∃ o, f_X4_setRoom a w σ = o := ⟨_, rfl⟩
  rw [ho] at hr
  unfold f_X4_setRoom at ho
  rw [show lv_args 0 [.ref (ad 0), .int a, va_rf (rfa ad w)] = [(0, .ref (ad 0)), (1, .int a), (2, va_rf (rfa ad w))] from by simp [lv_args, rf_cat, ref_cat, int_cat]]
  refine J_iload_n (pc := 0) (n := 1) (i := 1) h 1 rfl rfl dX4_setRoom_0 ?_
  refine J_cS (pc := 1) h hR (by decide) (c_X4_isRoom _ _ _ a ) (by decide) m_75 m_76 m_1 m_77 hd_X4_isRoom rfl rfl (Nat.le_of_ble_eq_true rfl) [.int (f_X4_isRoom a)] rfl dX4_setRoom_1 ?_
  refine J_if_eq (pc := 4) h 14 (by decide) dX4_setRoom_4 (fun c1 => ?_) (fun c1 => ?_)
  · replace ho := (if_pos c1).symm.trans ho
    exact J_vret (pc := 14) h hr (by subst ho; exact ⟨rfl, rfl⟩) dX4_setRoom_14
  · replace ho := (if_neg c1).symm.trans ho
    refine J_aload_n (pc := 7) (n := 0) (i := 0) h 0 rfl rfl dX4_setRoom_7 ?_
    refine J_Dr0 (pc := 8) h (by omega) m_43 dX4_setRoom_8 ?_
    refine J_iload_n (pc := 11) (n := 1) (i := 1) h 1 rfl rfl dX4_setRoom_11 ?_
    refine J_aload_nq (pc := 12) (n := 2) (i := 2) h 2 rfl rfl dX4_setRoom_12 ?_
    refine J_Rs (pc := 13) h (by omega) (isRoom_in (by assumption)) hw dX4_setRoom_13 ?_
    exact J_vret (pc := 14) h hr (by subst ho; exact ⟨rfl, rfl⟩) dX4_setRoom_14
def f_X4_leaveInTrace (a : Int32) (σ : Sg) : Sg := (if 120 ≤ σ 0 3 then σ else (up2 (up2 σ 3 ((σ 0 3).toNatClampNeg) a) 0 3 ((σ 0 3) + 1)))
theorem hd_X4_leaveInTrace : yX4_leaveInTrace.cls ≠ "java/lang/invoke/MethodHandle" ∧ yX4_leaveInTrace.cls ≠ "java/lang/invoke/VarHandle" ∧ (parseMethodDescriptor yX4_leaveInTrace.desc).map (fun d => d.parameters.length) = some 1 := by decide +kernel
set_option maxHeartbeats 4000000 in
set_option maxRecDepth 20000 in
theorem c_X4_leaveInTrace (l : Launch) (g : Gy) (ad : Nat → Nat) (n : Nat) (σ : Sg) (a : Int32) (hN : 28 ≤ n) (ht : ¬ σ 0 3 < 0) : Con l g yX4_leaveInTrace cX4_leaveInTrace 2 none (rmL 0) [.ref (ad 0), .int a] (wC g ad n σ) (Det none (wC g ad n (f_X4_leaveInTrace a σ))) := by
  refine Con.of (by decide) (Nat.le_of_ble_eq_true rfl) ?_
  intro x h e1 e2 e3 e4 e5 hr
  subst e1 e2
  have h : Ok x cX4_leaveInTrace "SafeDesk" none := h
  have hR : RmOk x 0 0 0 := RmOk.of e3 (Nat.le_refl _) (Nat.le_refl _)
  obtain ⟨out, ho⟩ : ∃ o, f_X4_leaveInTrace a σ = o := ⟨_, rfl⟩
  rw [ho] at hr
  unfold f_X4_leaveInTrace at ho
  show J x 0 0 _ 0 [(0, .ref (ad 0)), (1, .int a)] []
  refine J_aload_n (pc := 0) (n := 0) (i := 0) h 0 rfl rfl dX4_leaveInTrace_0 ?_
  refine J_Dg3 (pc := 1) h (by omega) m_46 (σ 0 3) rfl dX4_leaveInTrace_1 ?_
  refine J_bipush (pc := 4) h (120) rfl dX4_leaveInTrace_4 ?_
  refine J_icmp_ge (pc := 6) h 29 (by decide) dX4_leaveInTrace_6 (fun c1 => ?_) (fun c1 => ?_)
  · replace ho := (if_pos c1).symm.trans ho
    exact J_vret (pc := 29) h hr (by subst ho; exact ⟨rfl, rfl⟩) dX4_leaveInTrace_29
  · replace ho := (if_neg c1).symm.trans ho
    refine J_aload_n (pc := 9) (n := 0) (i := 0) h 0 rfl rfl dX4_leaveInTrace_9 ?_
    refine J_Dr2 (pc := 10) h (by omega) m_45 dX4_leaveInTrace_10 ?_
    refine J_aload_n (pc := 13) (n := 0) (i := 0) h 0 rfl rfl dX4_leaveInTrace_13 ?_
    refine J_Dg3 (pc := 14) h (by omega) m_46 (σ 0 3) rfl dX4_leaveInTrace_14 ?_
    refine J_iload_n (pc := 17) (n := 1) (i := 1) h 1 rfl rfl dX4_leaveInTrace_17 ?_
    refine J_Ts (pc := 18) h (by omega) (vp_of (b := 120) rfl ht (by assumption)) dX4_leaveInTrace_18 ?_
    refine J_aload_n (pc := 19) (n := 0) (i := 0) h 0 rfl rfl dX4_leaveInTrace_19 ?_
    refine J_dup (pc := 20) h rfl dX4_leaveInTrace_20 ?_
    refine J_Dg3 (pc := 21) h (by omega) m_46 (σ 0 3) (up2_off _ _ (by decide)) dX4_leaveInTrace_21 ?_
    refine J_iconst (pc := 24) h (1) rfl dX4_leaveInTrace_24 ?_
    refine J_iadd (pc := 25) h dX4_leaveInTrace_25 ?_
    refine J_Dp3 (pc := 26) h (by omega) m_46 dX4_leaveInTrace_26 ?_
    exact J_vret (pc := 29) h hr (by subst ho; exact ⟨rfl, rfl⟩) dX4_leaveInTrace_29
def f_X4_doWithValue (kd : Int32) (a : Int32) (σ : Sg) : Int32 × Sg := (if kd = 8 then (if a = 0 then (6, σ) else (0, up2 σ 0 4 ((σ 0 4) / a))) else (if kd = 9 then (a, σ) else (if kd = 10 then ((-1), up2 σ 0 4 a) else (0, up2 σ 0 4 ((σ 0 4) + a)))))
theorem hd_X4_doWithValue : yX4_doWithValue.cls ≠ "java/lang/invoke/MethodHandle" ∧ yX4_doWithValue.cls ≠ "java/lang/invoke/VarHandle" ∧ (parseMethodDescriptor yX4_doWithValue.desc).map (fun d => d.parameters.length) = some 2 := by decide +kernel
set_option maxHeartbeats 4000000 in
set_option maxRecDepth 20000 in
theorem c_X4_doWithValue (l : Launch) (g : Gy) (ad : Nat → Nat) (n : Nat) (σ : Sg) (kd : Int32) (a : Int32) (hN : 28 ≤ n) : Con l g yX4_doWithValue cX4_doWithValue 3 (some .int) (rmL 0) [.ref (ad 0), .int kd, .int a] (wC g ad n σ) (Det (some (.int (f_X4_doWithValue kd a σ).1)) (wC g ad n ((f_X4_doWithValue kd a σ).2))) := by
  refine Con.of (by decide) (Nat.le_of_ble_eq_true rfl) ?_
  intro x h e1 e2 e3 e4 e5 hr
  subst e1 e2
  have h : Ok x cX4_doWithValue "SafeDesk" (some .int) := h
  have hR : RmOk x 0 0 0 := RmOk.of e3 (Nat.le_refl _) (Nat.le_refl _)
  obtain ⟨out, ho⟩ : ∃ o, f_X4_doWithValue kd a σ = o := ⟨_, rfl⟩
  rw [ho] at hr
  unfold f_X4_doWithValue at ho
  show J x 0 0 _ 0 [(0, .ref (ad 0)), (1, .int kd), (2, .int a)] []
  refine J_iload_n (pc := 0) (n := 1) (i := 1) h 1 rfl rfl dX4_doWithValue_0 ?_
  by_cases c1 : kd = 8
  · replace ho := (if_pos c1).symm.trans ho
    refine J_tabIn (pc := 1) h (8) 28 c1 (by decide) (by decide) rfl (by decide) dX4_doWithValue_1 ?_
    refine J_iload_n (pc := 28) (n := 2) (i := 2) h 2 rfl rfl dX4_doWithValue_28 ?_
    refine J_if_ne (pc := 29) h 35 (by decide) dX4_doWithValue_29 (fun c2 => ?_) (fun c2 => ?_)
    · replace ho := (if_neg c2).symm.trans ho
      refine J_aload_n (pc := 35) (n := 0) (i := 0) h 0 rfl rfl dX4_doWithValue_35 ?_
      refine J_dup (pc := 36) h rfl dX4_doWithValue_36 ?_
      refine J_Dg4 (pc := 37) h (by omega) m_47 (σ 0 4) rfl dX4_doWithValue_37 ?_
      refine J_iload_n (pc := 40) (n := 2) (i := 2) h 2 rfl rfl dX4_doWithValue_40 ?_
      refine J_idiv (pc := 41) h (by assumption) dX4_doWithValue_41 ?_
      refine J_Dp4 (pc := 42) h (by omega) m_47 dX4_doWithValue_42 ?_
      refine J_iconst (pc := 45) h (0) rfl dX4_doWithValue_45 ?_
      exact J_iret (pc := 46) h hr (by subst ho; exact ⟨rfl, rfl⟩) dX4_doWithValue_46
    · replace ho := (if_pos c2).symm.trans ho
      refine J_bipush (pc := 32) h (6) rfl dX4_doWithValue_32 ?_
      exact J_iret (pc := 34) h hr (by subst ho; exact ⟨rfl, rfl⟩) dX4_doWithValue_34
  replace ho := (if_neg c1).symm.trans ho
  by_cases c3 : kd = 9
  · replace ho := (if_pos c3).symm.trans ho
    refine J_tabIn (pc := 1) h (9) 47 c3 (by decide) (by decide) rfl (by decide) dX4_doWithValue_1 ?_
    refine J_iload_n (pc := 47) (n := 2) (i := 2) h 2 rfl rfl dX4_doWithValue_47 ?_
    exact J_iret (pc := 48) h hr (by subst ho; exact ⟨rfl, rfl⟩) dX4_doWithValue_48
  replace ho := (if_neg c3).symm.trans ho
  by_cases c4 : kd = 10
  · replace ho := (if_pos c4).symm.trans ho
    refine J_tabIn (pc := 1) h (10) 49 c4 (by decide) (by decide) rfl (by decide) dX4_doWithValue_1 ?_
    refine J_aload_n (pc := 49) (n := 0) (i := 0) h 0 rfl rfl dX4_doWithValue_49 ?_
    refine J_iload_n (pc := 50) (n := 2) (i := 2) h 2 rfl rfl dX4_doWithValue_50 ?_
    refine J_Dp4 (pc := 51) h (by omega) m_47 dX4_doWithValue_51 ?_
    refine J_iconst (pc := 54) h (-1) rfl dX4_doWithValue_54 ?_
    exact J_iret (pc := 55) h hr (by subst ho; exact ⟨rfl, rfl⟩) dX4_doWithValue_55
  replace ho := (if_neg c4).symm.trans ho
  refine J_tabOut (pc := 1) h 56 (by have zc1 := ne_toI c1 (n := 8) rfl; have zc3 := ne_toI c3 (n := 9) rfl; have zc4 := ne_toI c4 (n := 10) rfl; omega) (by decide) dX4_doWithValue_1 ?_
  refine J_aload_n (pc := 56) (n := 0) (i := 0) h 0 rfl rfl dX4_doWithValue_56 ?_
  refine J_dup (pc := 57) h rfl dX4_doWithValue_57 ?_
  refine J_Dg4 (pc := 58) h (by omega) m_47 (σ 0 4) rfl dX4_doWithValue_58 ?_
  refine J_iload_n (pc := 61) (n := 2) (i := 2) h 2 rfl rfl dX4_doWithValue_61 ?_
  refine J_iadd (pc := 62) h dX4_doWithValue_62 ?_
  refine J_Dp4 (pc := 63) h (by omega) m_47 dX4_doWithValue_63 ?_
  refine J_iconst (pc := 66) h (0) rfl dX4_doWithValue_66 ?_
  exact J_iret (pc := 67) h hr (by subst ho; exact ⟨rfl, rfl⟩) dX4_doWithValue_67
def f_X4_doWithSafe (kd : Int32) (w : Int32) (b : Int32) (σ : Sg) : Int32 × Sg := (if w = -1 then (1, σ) else (if kd = 2 then ((f_vput (28 + w.toNatClampNeg) b σ).1, (f_vput (28 + w.toNatClampNeg) b σ).2) else (if kd = 3 then (0, up2 ((f_vworth (28 + w.toNatClampNeg) σ).2) 0 4 ((f_vworth (28 + w.toNatClampNeg) σ).1)) else (if kd = 4 then ((f_X1_give (28 + w.toNatClampNeg) (σ 0 4) (f_X4_safeIn (f_J9_floorMod_7cf53 b 8) σ) σ).1, (f_X1_give (28 + w.toNatClampNeg) (σ 0 4) (f_X4_safeIn (f_J9_floorMod_7cf53 b 8) σ) σ).2) else (0, up2 σ 0 4 (σ (28 + w.toNatClampNeg) 4))))))
theorem hd_X4_doWithSafe : yX4_doWithSafe.cls ≠ "java/lang/invoke/MethodHandle" ∧ yX4_doWithSafe.cls ≠ "java/lang/invoke/VarHandle" ∧ (parseMethodDescriptor yX4_doWithSafe.desc).map (fun d => d.parameters.length) = some 3 := by decide +kernel
set_option maxHeartbeats 4000000 in
set_option maxRecDepth 20000 in
theorem c_X4_doWithSafe (l : Launch) (g : Gy) (ad : Nat → Nat) (n : Nat) (σ : Sg) (kd : Int32) (w : Int32) (b : Int32) (hN : 28 ≤ n) (hw : w = -1 ∨ 28 + w.toNatClampNeg < n) (hI : RI n σ) : Con l g yX4_doWithSafe cX4_doWithSafe 4 (some .int) (rmL 5) [.ref (ad 0), .int kd, va_rf (rfa ad w), .int b] (wC g ad n σ) (Det (some (.int (f_X4_doWithSafe kd w b σ).1)) (wC g ad n ((f_X4_doWithSafe kd w b σ).2))) := by
  refine Con.of (by decide) (by simp [lg_sl, rf_cat, ref_cat, int_cat]) ?_
  intro x h e1 e2 e3 e4 e5 hr
  subst e1 e2
  have h : Ok x cX4_doWithSafe "SafeDesk" (some .int) := h
  have hR : RmOk x 5 0 0 := RmOk.of e3 (Nat.le_refl _) (Nat.le_refl _)
  obtain ⟨out, ho⟩ : ∃ o, f_X4_doWithSafe kd w b σ = o := ⟨_, rfl⟩
  rw [ho] at hr
  unfold f_X4_doWithSafe at ho
  rw [show lv_args 0 [.ref (ad 0), .int kd, va_rf (rfa ad w), .int b] = [(0, .ref (ad 0)), (1, .int kd), (2, va_rf (rfa ad w)), (3, .int b)] from by simp [lv_args, rf_cat, ref_cat, int_cat]]
  refine J_aload_nq (pc := 0) (n := 2) (i := 2) h 2 rfl rfl dX4_doWithSafe_0 ?_
  refine J_ifnonnullr (pc := 1) h 6 (by decide) dX4_doWithSafe_1 (fun c1 => ?_) (fun c1 => ?_)
  · replace ho := (if_neg c1).symm.trans ho
    rw [rfa_ne c1]
    refine J_iload_n (pc := 6) (n := 1) (i := 1) h 1 rfl rfl dX4_doWithSafe_6 ?_
    by_cases c2 : kd = 2
    · replace ho := (if_pos c2).symm.trans ho
      refine J_tabIn (pc := 7) h (2) 32 c2 (by decide) (by decide) rfl (by decide) dX4_doWithSafe_7 ?_
      refine J_aload_n (pc := 32) (n := 2) (i := 2) h 2 rfl rfl dX4_doWithSafe_32 ?_
      refine J_iload_n (pc := 33) (n := 3) (i := 3) h 3 rfl rfl dX4_doWithSafe_33 ?_
      refine J_cO (pc := 34) (z := yX1_put) (r0 := some (.int (f_vput (28 + w.toNatClampNeg) b σ).1)) (w0 := wC (xG x) ad n (f_vput (28 + w.toNatClampNeg) b σ).2) h hR (Nat.le_add_right _ _) (hw.resolve_left (by assumption)) ⟨by decide, by decide, by decide⟩ (fun qa => cv_X1_put _ _ ad n σ (28 + w.toNatClampNeg) b (Nat.le_add_right _ _) (hw.resolve_left (by assumption)) qa) (fun qa => cv_X2_put _ _ ad n σ (28 + w.toNatClampNeg) b (Nat.le_add_right _ _) (hw.resolve_left (by assumption)) qa) (fun qa qb => cv_X3_put _ _ ad n σ (28 + w.toNatClampNeg) b (Nat.le_add_right _ _) (hw.resolve_left (by assumption)) qa qb) ⟨by decide, by decide, by decide⟩ m_253 m_256 rfl rfl ⟨rfl, rfl, rfl⟩ m_255 m_257 m_271 m_254 m_258 m_272 m_281 m_259 m_273 hd_X1_put rfl rfl (Nat.le_of_ble_eq_true rfl) [.int ((f_vput (28 + w.toNatClampNeg) b σ).1)] rfl dX4_doWithSafe_34 ?_
      exact J_iret (pc := 37) h hr (by subst ho; exact ⟨rfl, rfl⟩) dX4_doWithSafe_37
    replace ho := (if_neg c2).symm.trans ho
    by_cases c3 : kd = 3
    · replace ho := (if_pos c3).symm.trans ho
      refine J_tabIn (pc := 7) h (3) 57 c3 (by decide) (by decide) rfl (by decide) dX4_doWithSafe_7 ?_
      refine J_aload_n (pc := 57) (n := 0) (i := 0) h 0 rfl rfl dX4_doWithSafe_57 ?_
      refine J_aload_n (pc := 58) (n := 2) (i := 2) h 2 rfl rfl dX4_doWithSafe_58 ?_
      refine J_cO (pc := 59) (z := yX1_worth) (r0 := some (.int (f_vworth (28 + w.toNatClampNeg) σ).1)) (w0 := wC (xG x) ad n (f_vworth (28 + w.toNatClampNeg) σ).2) h hR (Nat.le_add_right _ _) (hw.resolve_left (by assumption)) ⟨by decide, by decide, by decide⟩ (fun qa => cv_X1_worth _ _ ad n σ (28 + w.toNatClampNeg)  (Nat.le_add_right _ _) (hw.resolve_left (by assumption)) qa) (fun qa => cv_X2_worth _ _ ad n σ (28 + w.toNatClampNeg)  (Nat.le_add_right _ _) (hw.resolve_left (by assumption)) qa) (fun qa qb => cv_X3_worth _ _ ad n σ (28 + w.toNatClampNeg)  (Nat.le_add_right _ _) (hw.resolve_left (by assumption)) qa qb) ⟨by decide, by decide, by decide⟩ m_293 m_296 rfl rfl ⟨rfl, rfl, rfl⟩ m_295 m_297 m_301 m_294 m_298 m_302 m_305 m_299 m_303 hd_X1_worth rfl rfl (Nat.le_of_ble_eq_true rfl) [.int ((f_vworth (28 + w.toNatClampNeg) σ).1), .ref (ad 0)] rfl dX4_doWithSafe_59 ?_
      refine J_Dp4 (pc := 62) h (by omega) m_47 dX4_doWithSafe_62 ?_
      refine J_iconst (pc := 65) h (0) rfl dX4_doWithSafe_65 ?_
      exact J_iret (pc := 66) h hr (by subst ho; exact ⟨rfl, rfl⟩) dX4_doWithSafe_66
    replace ho := (if_neg c3).symm.trans ho
    by_cases c4 : kd = 4
    · replace ho := (if_pos c4).symm.trans ho
      refine J_tabIn (pc := 7) h (4) 38 c4 (by decide) (by decide) rfl (by decide) dX4_doWithSafe_7 ?_
      refine J_aload_n (pc := 38) (n := 2) (i := 2) h 2 rfl rfl dX4_doWithSafe_38 ?_
      refine J_aload_n (pc := 39) (n := 0) (i := 0) h 0 rfl rfl dX4_doWithSafe_39 ?_
      refine J_Dg4 (pc := 40) h (by omega) m_47 (σ 0 4) rfl dX4_doWithSafe_40 ?_
      refine J_aload_n (pc := 43) (n := 0) (i := 0) h 0 rfl rfl dX4_doWithSafe_43 ?_
      refine J_iload_n (pc := 44) (n := 3) (i := 3) h 3 rfl rfl dX4_doWithSafe_44 ?_
      refine J_bipush (pc := 45) h (8) rfl dX4_doWithSafe_45 ?_
      refine J_cS (pc := 47) h hR (by decide) (c_J9_floorMod_7cf53 _ _ _ b 8 (by decide)) (by decide) m_238 m_239 m_7 m_240 hd_J9_floorMod_7cf53 rfl rfl (Nat.le_of_ble_eq_true rfl) [.int (f_J9_floorMod_7cf53 b 8), .ref (ad 0), .int (σ 0 4), .ref (ad (28 + w.toNatClampNeg))] rfl dX4_doWithSafe_47 ?_
      refine J_cD (pc := 50) h hR (by decide) (c_X4_safeIn _ _ ad n σ (f_J9_floorMod_7cf53 b 8) hN ) (by decide) m_204 m_206 ms_4 m_207 ⟨rfl, hd_X4_safeIn⟩ (by omega) rfl rfl (Nat.le_of_ble_eq_true rfl) [va_rf (rfa ad (f_X4_safeIn (f_J9_floorMod_7cf53 b 8) σ)), .int (σ 0 4), .ref (ad (28 + w.toNatClampNeg))] rfl dX4_doWithSafe_50 ?_
      refine J_cU (pc := 53) (z := ⟨"SafeDesk$Safe", "give", "(ILSafeDesk$Safe;)I"⟩) h hR (Nat.le_add_right _ _) (hw.resolve_left (by assumption)) (by decide) (c_X1_give _ _ ad n σ (28 + w.toNatClampNeg) (σ 0 4) (f_X4_safeIn (f_J9_floorMod_7cf53 b 8) σ) (Nat.le_add_right _ _) (hw.resolve_left (by assumption)) (safeIn_ok hI _)) (by decide) m_285 m_288 (Sels.of3 m_287 m_289 m_290) m_286 m_291 rfl hd_X1_give rfl rfl (Nat.le_of_ble_eq_true rfl) [.int ((f_X1_give (28 + w.toNatClampNeg) (σ 0 4) (f_X4_safeIn (f_J9_floorMod_7cf53 b 8) σ) σ).1)] rfl dX4_doWithSafe_53 ?_
      exact J_iret (pc := 56) h hr (by subst ho; exact ⟨rfl, rfl⟩) dX4_doWithSafe_56
    replace ho := (if_neg c4).symm.trans ho
    refine J_tabOut (pc := 7) h 67 (by have zc2 := ne_toI c2 (n := 2) rfl; have zc3 := ne_toI c3 (n := 3) rfl; have zc4 := ne_toI c4 (n := 4) rfl; omega) (by decide) dX4_doWithSafe_7 ?_
    refine J_aload_n (pc := 67) (n := 0) (i := 0) h 0 rfl rfl dX4_doWithSafe_67 ?_
    refine J_aload_n (pc := 68) (n := 2) (i := 2) h 2 rfl rfl dX4_doWithSafe_68 ?_
    refine J_Sg4 (pc := 69) h (Nat.le_add_right _ _) (hw.resolve_left (by assumption)) m_104 (fun _ q => q) (σ (28 + w.toNatClampNeg) 4) rfl dX4_doWithSafe_69 ?_
    refine J_Dp4 (pc := 72) h (by omega) m_47 dX4_doWithSafe_72 ?_
    refine J_iconst (pc := 75) h (0) rfl dX4_doWithSafe_75 ?_
    exact J_iret (pc := 76) h hr (by subst ho; exact ⟨rfl, rfl⟩) dX4_doWithSafe_76
  · replace ho := (if_pos c1).symm.trans ho
    refine J_iconst (pc := 4) h (1) rfl dX4_doWithSafe_4 ?_
    exact J_iret (pc := 5) h hr (by subst ho; exact ⟨rfl, rfl⟩) dX4_doWithSafe_5
def f_X4_share (a : Int32) (b : Int32) (σ : Sg) : Int32 × Sg := (if f_X4_isRoom a = 0 then ((-1), σ) else (if f_X4_isRoom b = 0 then ((-1), σ) else (if σ 1 a.toNatClampNeg = -1 then (0, up2 σ 1 b.toNatClampNeg (σ 1 a.toNatClampNeg)) else (1, up2 σ 1 b.toNatClampNeg (σ 1 a.toNatClampNeg)))))
theorem hd_X4_share : yX4_share.cls ≠ "java/lang/invoke/MethodHandle" ∧ yX4_share.cls ≠ "java/lang/invoke/VarHandle" ∧ (parseMethodDescriptor yX4_share.desc).map (fun d => d.parameters.length) = some 2 := by decide +kernel
set_option maxHeartbeats 4000000 in
set_option maxRecDepth 20000 in
theorem c_X4_share (l : Launch) (g : Gy) (ad : Nat → Nat) (n : Nat) (σ : Sg) (a : Int32) (b : Int32) (hN : 28 ≤ n) (hI : RI n σ) : Con l g yX4_share cX4_share 3 (some .int) (rmL 1) [.ref (ad 0), .int a, .int b] (wC g ad n σ) (Det (some (.int (f_X4_share a b σ).1)) (wC g ad n ((f_X4_share a b σ).2))) := by
  refine Con.of (by decide) (Nat.le_of_ble_eq_true rfl) ?_
  intro x h e1 e2 e3 e4 e5 hr
  subst e1 e2
  have h : Ok x cX4_share "SafeDesk" (some .int) := h
  have hR : RmOk x 1 0 0 := RmOk.of e3 (Nat.le_refl _) (Nat.le_refl _)
  obtain ⟨out, ho⟩ : ∃ o, f_X4_share a b σ = o := ⟨_, rfl⟩
  rw [ho] at hr
  unfold f_X4_share at ho
  show J x 0 0 _ 0 [(0, .ref (ad 0)), (1, .int a), (2, .int b)] []
  refine J_iload_n (pc := 0) (n := 1) (i := 1) h 1 rfl rfl dX4_share_0 ?_
  refine J_cS (pc := 1) h hR (by decide) (c_X4_isRoom _ _ _ a ) (by decide) m_75 m_76 m_1 m_77 hd_X4_isRoom rfl rfl (Nat.le_of_ble_eq_true rfl) [.int (f_X4_isRoom a)] rfl dX4_share_1 ?_
  refine J_if_eq (pc := 4) h 14 (by decide) dX4_share_4 (fun c1 => ?_) (fun c1 => ?_)
  · replace ho := (if_pos c1).symm.trans ho
    refine J_iconst (pc := 14) h (-1) rfl dX4_share_14 ?_
    exact J_iret (pc := 15) h hr (by subst ho; exact ⟨rfl, rfl⟩) dX4_share_15
  · replace ho := (if_neg c1).symm.trans ho
    refine J_iload_n (pc := 7) (n := 2) (i := 2) h 2 rfl rfl dX4_share_7 ?_
    refine J_cS (pc := 8) h hR (by decide) (c_X4_isRoom _ _ _ b ) (by decide) m_75 m_76 m_1 m_77 hd_X4_isRoom rfl rfl (Nat.le_of_ble_eq_true rfl) [.int (f_X4_isRoom b)] rfl dX4_share_8 ?_
    refine J_if_ne (pc := 11) h 16 (by decide) dX4_share_11 (fun c2 => ?_) (fun c2 => ?_)
    · replace ho := (if_neg c2).symm.trans ho
      refine J_aload_n (pc := 16) (n := 0) (i := 0) h 0 rfl rfl dX4_share_16 ?_
      refine J_Dr0 (pc := 17) h (by omega) m_43 dX4_share_17 ?_
      refine J_iload_n (pc := 20) (n := 2) (i := 2) h 2 rfl rfl dX4_share_20 ?_
      refine J_aload_n (pc := 21) (n := 0) (i := 0) h 0 rfl rfl dX4_share_21 ?_
      refine J_Dr0 (pc := 22) h (by omega) m_43 dX4_share_22 ?_
      refine J_iload_n (pc := 25) (n := 1) (i := 1) h 1 rfl rfl dX4_share_25 ?_
      refine J_Ra (pc := 26) h (by omega) (isRoom_in (by assumption)) (σ 1 a.toNatClampNeg) rfl dX4_share_26 ?_
      refine J_Rs (pc := 27) h (by omega) (isRoom_in (by assumption)) (hI _ (vp_lt (isRoom_in (by assumption)))) dX4_share_27 ?_
      refine J_aload_n (pc := 28) (n := 0) (i := 0) h 0 rfl rfl dX4_share_28 ?_
      refine J_Dr0 (pc := 29) h (by omega) m_43 dX4_share_29 ?_
      refine J_iload_n (pc := 32) (n := 2) (i := 2) h 2 rfl rfl dX4_share_32 ?_
      refine J_Ra (pc := 33) h (by omega) (isRoom_in (by assumption)) (σ 1 a.toNatClampNeg) (up2_self _ _ _ _) dX4_share_33 ?_
      refine J_ifnonnullr (pc := 34) h 41 (by decide) dX4_share_34 (fun c3 => ?_) (fun c3 => ?_)
      · replace ho := (if_neg c3).symm.trans ho
        refine J_iconst (pc := 41) h (1) rfl dX4_share_41 ?_
        exact J_iret (pc := 42) h hr (by subst ho; exact ⟨rfl, rfl⟩) dX4_share_42
      · replace ho := (if_pos c3).symm.trans ho
        refine J_iconst (pc := 37) h (0) rfl dX4_share_37 ?_
        refine J_goto (pc := 38) h 42 (by decide) dX4_share_38 ?_
        exact J_iret (pc := 42) h hr (by subst ho; exact ⟨rfl, rfl⟩) dX4_share_42
    · replace ho := (if_pos c2).symm.trans ho
      refine J_iconst (pc := 14) h (-1) rfl dX4_share_14 ?_
      exact J_iret (pc := 15) h hr (by subst ho; exact ⟨rfl, rfl⟩) dX4_share_15
def f_X4_same (ad : Nat → Nat) (a : Int32) (b : Int32) (σ : Sg) : Int32 := (if f_X4_isRoom a = 0 then (-1) else (if f_X4_isRoom b = 0 then (-1) else (if rfa ad (σ 1 a.toNatClampNeg) = rfa ad (σ 1 b.toNatClampNeg) then 1 else 0)))
theorem hd_X4_same : yX4_same.cls ≠ "java/lang/invoke/MethodHandle" ∧ yX4_same.cls ≠ "java/lang/invoke/VarHandle" ∧ (parseMethodDescriptor yX4_same.desc).map (fun d => d.parameters.length) = some 2 := by decide +kernel
set_option maxHeartbeats 4000000 in
set_option maxRecDepth 20000 in
theorem c_X4_same (l : Launch) (g : Gy) (ad : Nat → Nat) (n : Nat) (σ : Sg) (a : Int32) (b : Int32) (hN : 28 ≤ n) : Con l g yX4_same cX4_same 3 (some .int) (rmL 1) [.ref (ad 0), .int a, .int b] (wC g ad n σ) (Det (some (.int (f_X4_same ad a b σ))) (wC g ad n σ)) := by
  refine Con.of (by decide) (Nat.le_of_ble_eq_true rfl) ?_
  intro x h e1 e2 e3 e4 e5 hr
  subst e1 e2
  have h : Ok x cX4_same "SafeDesk" (some .int) := h
  have hR : RmOk x 1 0 0 := RmOk.of e3 (Nat.le_refl _) (Nat.le_refl _)
  obtain ⟨out, ho⟩ : ∃ o, f_X4_same ad a b σ = o := ⟨_, rfl⟩
  rw [ho] at hr
  unfold f_X4_same at ho
  show J x 0 0 _ 0 [(0, .ref (ad 0)), (1, .int a), (2, .int b)] []
  refine J_iload_n (pc := 0) (n := 1) (i := 1) h 1 rfl rfl dX4_same_0 ?_
  refine J_cS (pc := 1) h hR (by decide) (c_X4_isRoom _ _ _ a ) (by decide) m_75 m_76 m_1 m_77 hd_X4_isRoom rfl rfl (Nat.le_of_ble_eq_true rfl) [.int (f_X4_isRoom a)] rfl dX4_same_1 ?_
  refine J_if_eq (pc := 4) h 14 (by decide) dX4_same_4 (fun c1 => ?_) (fun c1 => ?_)
  · replace ho := (if_pos c1).symm.trans ho
    refine J_iconst (pc := 14) h (-1) rfl dX4_same_14 ?_
    exact J_iret (pc := 15) h hr (by subst ho; exact ⟨rfl, rfl⟩) dX4_same_15
  · replace ho := (if_neg c1).symm.trans ho
    refine J_iload_n (pc := 7) (n := 2) (i := 2) h 2 rfl rfl dX4_same_7 ?_
    refine J_cS (pc := 8) h hR (by decide) (c_X4_isRoom _ _ _ b ) (by decide) m_75 m_76 m_1 m_77 hd_X4_isRoom rfl rfl (Nat.le_of_ble_eq_true rfl) [.int (f_X4_isRoom b)] rfl dX4_same_8 ?_
    refine J_if_ne (pc := 11) h 16 (by decide) dX4_same_11 (fun c2 => ?_) (fun c2 => ?_)
    · replace ho := (if_neg c2).symm.trans ho
      refine J_aload_n (pc := 16) (n := 0) (i := 0) h 0 rfl rfl dX4_same_16 ?_
      refine J_Dr0 (pc := 17) h (by omega) m_43 dX4_same_17 ?_
      refine J_iload_n (pc := 20) (n := 1) (i := 1) h 1 rfl rfl dX4_same_20 ?_
      refine J_Ra (pc := 21) h (by omega) (isRoom_in (by assumption)) (σ 1 a.toNatClampNeg) rfl dX4_same_21 ?_
      refine J_aload_n (pc := 22) (n := 0) (i := 0) h 0 rfl rfl dX4_same_22 ?_
      refine J_Dr0 (pc := 23) h (by omega) m_43 dX4_same_23 ?_
      refine J_iload_n (pc := 26) (n := 2) (i := 2) h 2 rfl rfl dX4_same_26 ?_
      refine J_Ra (pc := 27) h (by omega) (isRoom_in (by assumption)) (σ 1 b.toNatClampNeg) rfl dX4_same_27 ?_
      refine J_acmp_ne (pc := 28) h 35 (by decide) dX4_same_28 (fun c3 => ?_) (fun c3 => ?_)
      · replace ho := (if_neg c3).symm.trans ho
        refine J_iconst (pc := 35) h (0) rfl dX4_same_35 ?_
        exact J_iret (pc := 36) h hr (by subst ho; exact ⟨rfl, rfl⟩) dX4_same_36
      · replace ho := (if_pos c3).symm.trans ho
        refine J_iconst (pc := 31) h (1) rfl dX4_same_31 ?_
        refine J_goto (pc := 32) h 36 (by decide) dX4_same_32 ?_
        exact J_iret (pc := 36) h hr (by subst ho; exact ⟨rfl, rfl⟩) dX4_same_36
    · replace ho := (if_pos c2).symm.trans ho
      refine J_iconst (pc := 14) h (-1) rfl dX4_same_14 ?_
      exact J_iret (pc := 15) h hr (by subst ho; exact ⟨rfl, rfl⟩) dX4_same_15
def f_X4_step (pl : Int32) (kd : Int32) (a : Int32) (b : Int32) (σ : Sg) : Int32 × Sg := (if f_X4_isPlan pl = 0 then ((-1), σ) else (if f_X4_isStep kd a b = 0 then ((-1), σ) else (if σ (4 + pl.toNatClampNeg) 3 < 12 then ((f_X0_add pl.toNatClampNeg kd a b σ) (4 + pl.toNatClampNeg) 3, f_X0_add pl.toNatClampNeg kd a b σ) else ((-2), σ))))
theorem hd_X4_step : yX4_step.cls ≠ "java/lang/invoke/MethodHandle" ∧ yX4_step.cls ≠ "java/lang/invoke/VarHandle" ∧ (parseMethodDescriptor yX4_step.desc).map (fun d => d.parameters.length) = some 4 := by decide +kernel
set_option maxHeartbeats 4000000 in
set_option maxRecDepth 20000 in
theorem c_X4_step (l : Launch) (g : Gy) (ad : Nat → Nat) (n : Nat) (σ : Sg) (pl : Int32) (kd : Int32) (a : Int32) (b : Int32) (hN : 28 ≤ n) (hs : ∀ p : Nat, p < 6 → ¬ σ (4 + p) 3 < 0) : Con l g yX4_step cX4_step 6 (some .int) (rmL 3) [.ref (ad 0), .int pl, .int kd, .int a, .int b] (wC g ad n σ) (Det (some (.int (f_X4_step pl kd a b σ).1)) (wC g ad n ((f_X4_step pl kd a b σ).2))) := by
  refine Con.of (by decide) (Nat.le_of_ble_eq_true rfl) ?_
  intro x h e1 e2 e3 e4 e5 hr
  subst e1 e2
  have h : Ok x cX4_step "SafeDesk" (some .int) := h
  have hR : RmOk x 3 0 0 := RmOk.of e3 (Nat.le_refl _) (Nat.le_refl _)
  obtain ⟨out, ho⟩ : ∃ o, f_X4_step pl kd a b σ = o := ⟨_, rfl⟩
  rw [ho] at hr
  unfold f_X4_step at ho
  show J x 0 0 _ 0 [(0, .ref (ad 0)), (1, .int pl), (2, .int kd), (3, .int a), (4, .int b)] []
  refine J_iload_n (pc := 0) (n := 1) (i := 1) h 1 rfl rfl dX4_step_0 ?_
  refine J_cS (pc := 1) h hR (by decide) (c_X4_isPlan _ _ _ pl ) (by decide) m_151 m_152 m_1 m_153 hd_X4_isPlan rfl rfl (Nat.le_of_ble_eq_true rfl) [.int (f_X4_isPlan pl)] rfl dX4_step_1 ?_
  refine J_if_eq (pc := 4) h 17 (by decide) dX4_step_4 (fun c1 => ?_) (fun c1 => ?_)
  · replace ho := (if_pos c1).symm.trans ho
    refine J_iconst (pc := 17) h (-1) rfl dX4_step_17 ?_
    exact J_iret (pc := 18) h hr (by subst ho; exact ⟨rfl, rfl⟩) dX4_step_18
  · replace ho := (if_neg c1).symm.trans ho
    refine J_iload_n (pc := 7) (n := 2) (i := 2) h 2 rfl rfl dX4_step_7 ?_
    refine J_iload_n (pc := 8) (n := 3) (i := 3) h 3 rfl rfl dX4_step_8 ?_
    refine J_iload (pc := 9) h 4 rfl dX4_step_9 ?_
    refine J_cS (pc := 11) h hR (by decide) (c_X4_isStep _ _ _ kd a b ) (by decide) m_154 m_155 m_1 m_156 hd_X4_isStep rfl rfl (Nat.le_of_ble_eq_true rfl) [.int (f_X4_isStep kd a b)] rfl dX4_step_11 ?_
    refine J_if_ne (pc := 14) h 19 (by decide) dX4_step_14 (fun c2 => ?_) (fun c2 => ?_)
    · replace ho := (if_neg c2).symm.trans ho
      refine J_aload_n (pc := 19) (n := 0) (i := 0) h 0 rfl rfl dX4_step_19 ?_
      refine J_Dr1 (pc := 20) h (by omega) m_44 dX4_step_20 ?_
      refine J_iload_n (pc := 23) (n := 1) (i := 1) h 1 rfl rfl dX4_step_23 ?_
      refine J_Pa (pc := 24) h (by omega) (isPlan_in (by assumption)) dX4_step_24 ?_
      refine J_astore (pc := 25) h [(5, .ref (ad (4 + pl.toNatClampNeg))), (0, .ref (ad 0)), (1, .int pl), (2, .int kd), (3, .int a), (4, .int b)] (by rw [e4]; decide) rfl dX4_step_25 ?_
      refine J_aload (pc := 27) h 0 rfl dX4_step_27 ?_
      refine J_Pz (pc := 29) h (isPlan_lt (by assumption)) (by omega) m_32 (σ (4 + pl.toNatClampNeg) 3) rfl dX4_step_29 ?_
      refine J_bipush (pc := 32) h (12) rfl dX4_step_32 ?_
      refine J_icmp_lt (pc := 34) h 40 (by decide) dX4_step_34 (fun c3 => ?_) (fun c3 => ?_)
      · replace ho := (if_pos c3).symm.trans ho
        refine J_aload (pc := 40) h 0 rfl dX4_step_40 ?_
        refine J_iload_n (pc := 42) (n := 2) (i := 2) h 3 rfl rfl dX4_step_42 ?_
        refine J_iload_n (pc := 43) (n := 3) (i := 3) h 4 rfl rfl dX4_step_43 ?_
        refine J_iload (pc := 44) h 5 rfl dX4_step_44 ?_
        refine J_cP (pc := 46) h hR (isPlan_lt (by assumption)) (by decide) (c_X0_add _ _ ad n σ pl.toNatClampNeg kd a b (isPlan_lt (by assumption)) hN (hs _ (isPlan_lt (by assumption)))) (by decide) m_166 m_167 m_168 m_169 ⟨rfl, hd_X0_add⟩ (by omega) rfl rfl (Nat.le_of_ble_eq_true rfl) [] rfl dX4_step_46 ?_
        refine J_aload (pc := 49) h 0 rfl dX4_step_49 ?_
        refine J_Pz (pc := 51) h (isPlan_lt (by assumption)) (by omega) m_32 ((f_X0_add pl.toNatClampNeg kd a b σ) (4 + pl.toNatClampNeg) 3) rfl dX4_step_51 ?_
        exact J_iret (pc := 54) h hr (by subst ho; exact ⟨rfl, rfl⟩) dX4_step_54
      · replace ho := (if_neg c3).symm.trans ho
        refine J_bipush (pc := 37) h (-2) rfl dX4_step_37 ?_
        exact J_iret (pc := 39) h hr (by subst ho; exact ⟨rfl, rfl⟩) dX4_step_39
    · replace ho := (if_pos c2).symm.trans ho
      refine J_iconst (pc := 17) h (-1) rfl dX4_step_17 ?_
      exact J_iret (pc := 18) h hr (by subst ho; exact ⟨rfl, rfl⟩) dX4_step_18
def f_X4_clear (pl : Int32) (σ : Sg) : Int32 × Sg := (if f_X4_isPlan pl = 0 then ((-1), σ) else (σ (4 + pl.toNatClampNeg) 3, up2 σ (4 + pl.toNatClampNeg) 3 0))
theorem hd_X4_clear : yX4_clear.cls ≠ "java/lang/invoke/MethodHandle" ∧ yX4_clear.cls ≠ "java/lang/invoke/VarHandle" ∧ (parseMethodDescriptor yX4_clear.desc).map (fun d => d.parameters.length) = some 1 := by decide +kernel
set_option maxHeartbeats 4000000 in
set_option maxRecDepth 20000 in
theorem c_X4_clear (l : Launch) (g : Gy) (ad : Nat → Nat) (n : Nat) (σ : Sg) (pl : Int32) (hN : 28 ≤ n) : Con l g yX4_clear cX4_clear 3 (some .int) (rmL 1) [.ref (ad 0), .int pl] (wC g ad n σ) (Det (some (.int (f_X4_clear pl σ).1)) (wC g ad n ((f_X4_clear pl σ).2))) := by
  refine Con.of (by decide) (Nat.le_of_ble_eq_true rfl) ?_
  intro x h e1 e2 e3 e4 e5 hr
  subst e1 e2
  have h : Ok x cX4_clear "SafeDesk" (some .int) := h
  have hR : RmOk x 1 0 0 := RmOk.of e3 (Nat.le_refl _) (Nat.le_refl _)
  obtain ⟨out, ho⟩ : ∃ o, f_X4_clear pl σ = o := ⟨_, rfl⟩
  rw [ho] at hr
  unfold f_X4_clear at ho
  show J x 0 0 _ 0 [(0, .ref (ad 0)), (1, .int pl)] []
  refine J_iload_n (pc := 0) (n := 1) (i := 1) h 1 rfl rfl dX4_clear_0 ?_
  refine J_cS (pc := 1) h hR (by decide) (c_X4_isPlan _ _ _ pl ) (by decide) m_151 m_152 m_1 m_153 hd_X4_isPlan rfl rfl (Nat.le_of_ble_eq_true rfl) [.int (f_X4_isPlan pl)] rfl dX4_clear_1 ?_
  refine J_if_ne (pc := 4) h 9 (by decide) dX4_clear_4 (fun c1 => ?_) (fun c1 => ?_)
  · replace ho := (if_neg c1).symm.trans ho
    refine J_aload_n (pc := 9) (n := 0) (i := 0) h 0 rfl rfl dX4_clear_9 ?_
    refine J_Dr1 (pc := 10) h (by omega) m_44 dX4_clear_10 ?_
    refine J_iload_n (pc := 13) (n := 1) (i := 1) h 1 rfl rfl dX4_clear_13 ?_
    refine J_Pa (pc := 14) h (by omega) (isPlan_in (by assumption)) dX4_clear_14 ?_
    refine J_Pz (pc := 15) h (isPlan_lt (by assumption)) (by omega) m_32 (σ (4 + pl.toNatClampNeg) 3) rfl dX4_clear_15 ?_
    refine J_istore_n (pc := 18) (n := 2) (i := 2) h [(2, .int (σ (4 + pl.toNatClampNeg) 3)), (0, .ref (ad 0)), (1, .int pl)] rfl (by rw [e4]; decide) rfl dX4_clear_18 ?_
    refine J_aload_n (pc := 19) (n := 0) (i := 0) h 1 rfl rfl dX4_clear_19 ?_
    refine J_Dr1 (pc := 20) h (by omega) m_44 dX4_clear_20 ?_
    refine J_iload_n (pc := 23) (n := 1) (i := 1) h 2 rfl rfl dX4_clear_23 ?_
    refine J_Pa (pc := 24) h (by omega) (isPlan_in (by assumption)) dX4_clear_24 ?_
    refine J_iconst (pc := 25) h (0) rfl dX4_clear_25 ?_
    refine J_Pzp (pc := 26) h (isPlan_lt (by assumption)) (by omega) m_32 dX4_clear_26 ?_
    refine J_iload_n (pc := 29) (n := 2) (i := 2) h 0 rfl rfl dX4_clear_29 ?_
    exact J_iret (pc := 30) h hr (by subst ho; exact ⟨rfl, rfl⟩) dX4_clear_30
  · replace ho := (if_pos c1).symm.trans ho
    refine J_iconst (pc := 7) h (-1) rfl dX4_clear_7 ?_
    exact J_iret (pc := 8) h hr (by subst ho; exact ⟨rfl, rfl⟩) dX4_clear_8
def f_X4_value  (σ : Sg) : Int32 := (σ 0 4)
theorem hd_X4_value : yX4_value.cls ≠ "java/lang/invoke/MethodHandle" ∧ yX4_value.cls ≠ "java/lang/invoke/VarHandle" ∧ (parseMethodDescriptor yX4_value.desc).map (fun d => d.parameters.length) = some 0 := by decide +kernel
set_option maxHeartbeats 4000000 in
set_option maxRecDepth 20000 in
theorem c_X4_value (l : Launch) (g : Gy) (ad : Nat → Nat) (n : Nat) (σ : Sg)  (hN : 28 ≤ n) : Con l g yX4_value cX4_value 1 (some .int) (rmL 0) [.ref (ad 0)] (wC g ad n σ) (Det (some (.int (f_X4_value  σ))) (wC g ad n σ)) := by
  refine Con.of (by decide) (Nat.le_of_ble_eq_true rfl) ?_
  intro x h e1 e2 e3 e4 e5 hr
  subst e1 e2
  have h : Ok x cX4_value "SafeDesk" (some .int) := h
  have hR : RmOk x 0 0 0 := RmOk.of e3 (Nat.le_refl _) (Nat.le_refl _)
  obtain ⟨out, ho⟩ : ∃ o, f_X4_value  σ = o := ⟨_, rfl⟩
  rw [ho] at hr
  unfold f_X4_value at ho
  show J x 0 0 _ 0 [(0, .ref (ad 0))] []
  refine J_aload_n (pc := 0) (n := 0) (i := 0) h 0 rfl rfl dX4_value_0 ?_
  refine J_Dg4 (pc := 1) h (by omega) m_47 (σ 0 4) rfl dX4_value_1 ?_
  exact J_iret (pc := 4) h hr (by subst ho; exact ⟨rfl, rfl⟩) dX4_value_4
def f_X4_trace (a : Int32) (σ : Sg) : Int32 := (if a = (-1) then (σ 0 3) else (if a < 0 then (-1) else (if σ 0 3 ≤ a then (-1) else (σ 3 a.toNatClampNeg))))
theorem hd_X4_trace : yX4_trace.cls ≠ "java/lang/invoke/MethodHandle" ∧ yX4_trace.cls ≠ "java/lang/invoke/VarHandle" ∧ (parseMethodDescriptor yX4_trace.desc).map (fun d => d.parameters.length) = some 1 := by decide +kernel
set_option maxHeartbeats 4000000 in
set_option maxRecDepth 20000 in
theorem c_X4_trace (l : Launch) (g : Gy) (ad : Nat → Nat) (n : Nat) (σ : Sg) (a : Int32) (hN : 28 ≤ n) (ht : σ 0 3 ≤ 120) : Con l g yX4_trace cX4_trace 2 (some .int) (rmL 0) [.ref (ad 0), .int a] (wC g ad n σ) (Det (some (.int (f_X4_trace a σ))) (wC g ad n σ)) := by
  refine Con.of (by decide) (Nat.le_of_ble_eq_true rfl) ?_
  intro x h e1 e2 e3 e4 e5 hr
  subst e1 e2
  have h : Ok x cX4_trace "SafeDesk" (some .int) := h
  have hR : RmOk x 0 0 0 := RmOk.of e3 (Nat.le_refl _) (Nat.le_refl _)
  obtain ⟨out, ho⟩ : ∃ o, f_X4_trace a σ = o := ⟨_, rfl⟩
  rw [ho] at hr
  unfold f_X4_trace at ho
  show J x 0 0 _ 0 [(0, .ref (ad 0)), (1, .int a)] []
  refine J_iload_n (pc := 0) (n := 1) (i := 1) h 1 rfl rfl dX4_trace_0 ?_
  refine J_iconst (pc := 1) h (-1) rfl dX4_trace_1 ?_
  refine J_icmp_ne (pc := 2) h 10 (by decide) dX4_trace_2 (fun c1 => ?_) (fun c1 => ?_)
  · replace ho := (if_neg c1).symm.trans ho
    refine J_iload_n (pc := 10) (n := 1) (i := 1) h 1 rfl rfl dX4_trace_10 ?_
    refine J_if_lt (pc := 11) h 31 (by decide) dX4_trace_11 (fun c2 => ?_) (fun c2 => ?_)
    · replace ho := (if_pos c2).symm.trans ho
      refine J_iconst (pc := 31) h (-1) rfl dX4_trace_31 ?_
      exact J_iret (pc := 32) h hr (by subst ho; exact ⟨rfl, rfl⟩) dX4_trace_32
    · replace ho := (if_neg c2).symm.trans ho
      refine J_iload_n (pc := 14) (n := 1) (i := 1) h 1 rfl rfl dX4_trace_14 ?_
      refine J_aload_n (pc := 15) (n := 0) (i := 0) h 0 rfl rfl dX4_trace_15 ?_
      refine J_Dg3 (pc := 16) h (by omega) m_46 (σ 0 3) rfl dX4_trace_16 ?_
      refine J_icmp_ge (pc := 19) h 31 (by decide) dX4_trace_19 (fun c3 => ?_) (fun c3 => ?_)
      · replace ho := (if_pos c3).symm.trans ho
        refine J_iconst (pc := 31) h (-1) rfl dX4_trace_31 ?_
        exact J_iret (pc := 32) h hr (by subst ho; exact ⟨rfl, rfl⟩) dX4_trace_32
      · replace ho := (if_neg c3).symm.trans ho
        refine J_aload_n (pc := 22) (n := 0) (i := 0) h 0 rfl rfl dX4_trace_22 ?_
        refine J_Dr2 (pc := 23) h (by omega) m_45 dX4_trace_23 ?_
        refine J_iload_n (pc := 26) (n := 1) (i := 1) h 1 rfl rfl dX4_trace_26 ?_
        refine J_Ta (pc := 27) h (by omega) (tr_in (by assumption) (by assumption) ht) (σ 3 a.toNatClampNeg) rfl dX4_trace_27 ?_
        refine J_goto (pc := 28) h 32 (by decide) dX4_trace_28 ?_
        exact J_iret (pc := 32) h hr (by subst ho; exact ⟨rfl, rfl⟩) dX4_trace_32
  · replace ho := (if_pos c1).symm.trans ho
    refine J_aload_n (pc := 5) (n := 0) (i := 0) h 0 rfl rfl dX4_trace_5 ?_
    refine J_Dg3 (pc := 6) h (by omega) m_46 (σ 0 3) rfl dX4_trace_6 ?_
    exact J_iret (pc := 9) h hr (by subst ho; exact ⟨rfl, rfl⟩) dX4_trace_9
def f_X4_told (a : Int32) (b : Int32) (σ : Sg) : Int32 := (if f_X4_safeIn a σ = -1 then (-1) else (if b = 0 then (σ (28 + (f_X4_safeIn a σ).toNatClampNeg) 0) else (if b = 1 then (σ (28 + (f_X4_safeIn a σ).toNatClampNeg) 1) else (if b = 2 then (σ (28 + (f_X4_safeIn a σ).toNatClampNeg) 2) else (if b = 3 then (σ (28 + (f_X4_safeIn a σ).toNatClampNeg) 3) else (if b = 4 then (σ (28 + (f_X4_safeIn a σ).toNatClampNeg) 4) else (if b = 5 then (σ (28 + (f_X4_safeIn a σ).toNatClampNeg) 5) else (-1))))))))
theorem hd_X4_told : yX4_told.cls ≠ "java/lang/invoke/MethodHandle" ∧ yX4_told.cls ≠ "java/lang/invoke/VarHandle" ∧ (parseMethodDescriptor yX4_told.desc).map (fun d => d.parameters.length) = some 2 := by decide +kernel
set_option maxHeartbeats 4000000 in
set_option maxRecDepth 20000 in
theorem c_X4_told (l : Launch) (g : Gy) (ad : Nat → Nat) (n : Nat) (σ : Sg) (a : Int32) (b : Int32) (hN : 28 ≤ n) (hI : RI n σ) : Con l g yX4_told cX4_told 4 (some .int) (rmL 2) [.ref (ad 0), .int a, .int b] (wC g ad n σ) (Det (some (.int (f_X4_told a b σ))) (wC g ad n σ)) := by
  refine Con.of (by decide) (Nat.le_of_ble_eq_true rfl) ?_
  intro x h e1 e2 e3 e4 e5 hr
  subst e1 e2
  have h : Ok x cX4_told "SafeDesk" (some .int) := h
  have hR : RmOk x 2 0 0 := RmOk.of e3 (Nat.le_refl _) (Nat.le_refl _)
  obtain ⟨out, ho⟩ : ∃ o, f_X4_told a b σ = o := ⟨_, rfl⟩
  rw [ho] at hr
  unfold f_X4_told at ho
  show J x 0 0 _ 0 [(0, .ref (ad 0)), (1, .int a), (2, .int b)] []
  refine J_aload_n (pc := 0) (n := 0) (i := 0) h 0 rfl rfl dX4_told_0 ?_
  refine J_iload_n (pc := 1) (n := 1) (i := 1) h 1 rfl rfl dX4_told_1 ?_
  refine J_cD (pc := 2) h hR (by decide) (c_X4_safeIn _ _ ad n σ a hN ) (by decide) m_204 m_206 ms_4 m_207 ⟨rfl, hd_X4_safeIn⟩ (by omega) rfl rfl (Nat.le_of_ble_eq_true rfl) [va_rf (rfa ad (f_X4_safeIn a σ))] rfl dX4_told_2 ?_
  refine J_astore_nq (pc := 5) (n := 3) (i := 3) h [(3, va_rf (rfa ad (f_X4_safeIn a σ))), (0, .ref (ad 0)), (1, .int a), (2, .int b)] rfl (by rw [e4]; decide) rfl dX4_told_5 ?_
  refine J_aload_nq (pc := 6) (n := 3) (i := 3) h 0 rfl rfl dX4_told_6 ?_
  refine J_ifnonnullr (pc := 7) h 12 (by decide) dX4_told_7 (fun c1 => ?_) (fun c1 => ?_)
  · replace ho := (if_neg c1).symm.trans ho
    rw [rfa_ne c1]
    refine J_iload_n (pc := 12) (n := 2) (i := 2) h 3 rfl rfl dX4_told_12 ?_
    by_cases c2 : b = 0
    · replace ho := (if_pos c2).symm.trans ho
      refine J_tabIn (pc := 13) h (0) 52 c2 (by decide) (by decide) rfl (by decide) dX4_told_13 ?_
      refine J_aload_n (pc := 52) (n := 3) (i := 3) h 0 rfl rfl dX4_told_52 ?_
      refine J_Sg0 (pc := 53) h (Nat.le_add_right _ _) ((safeIn_ok hI _).resolve_left (by assumption)) m_95 (fun _ q => q) (σ (28 + (f_X4_safeIn a σ).toNatClampNeg) 0) rfl dX4_told_53 ?_
      exact J_iret (pc := 56) h hr (by subst ho; exact ⟨rfl, rfl⟩) dX4_told_56
    replace ho := (if_neg c2).symm.trans ho
    by_cases c3 : b = 1
    · replace ho := (if_pos c3).symm.trans ho
      refine J_tabIn (pc := 13) h (1) 57 c3 (by decide) (by decide) rfl (by decide) dX4_told_13 ?_
      refine J_aload_n (pc := 57) (n := 3) (i := 3) h 0 rfl rfl dX4_told_57 ?_
      refine J_Sg1 (pc := 58) h (Nat.le_add_right _ _) ((safeIn_ok hI _).resolve_left (by assumption)) m_97 (fun _ q => q) (σ (28 + (f_X4_safeIn a σ).toNatClampNeg) 1) rfl dX4_told_58 ?_
      exact J_iret (pc := 61) h hr (by subst ho; exact ⟨rfl, rfl⟩) dX4_told_61
    replace ho := (if_neg c3).symm.trans ho
    by_cases c4 : b = 2
    · replace ho := (if_pos c4).symm.trans ho
      refine J_tabIn (pc := 13) h (2) 62 c4 (by decide) (by decide) rfl (by decide) dX4_told_13 ?_
      refine J_aload_n (pc := 62) (n := 3) (i := 3) h 0 rfl rfl dX4_told_62 ?_
      refine J_Sg2 (pc := 63) h (Nat.le_add_right _ _) ((safeIn_ok hI _).resolve_left (by assumption)) m_100 (fun _ q => q) (σ (28 + (f_X4_safeIn a σ).toNatClampNeg) 2) rfl dX4_told_63 ?_
      exact J_iret (pc := 66) h hr (by subst ho; exact ⟨rfl, rfl⟩) dX4_told_66
    replace ho := (if_neg c4).symm.trans ho
    by_cases c5 : b = 3
    · replace ho := (if_pos c5).symm.trans ho
      refine J_tabIn (pc := 13) h (3) 67 c5 (by decide) (by decide) rfl (by decide) dX4_told_13 ?_
      refine J_aload_n (pc := 67) (n := 3) (i := 3) h 0 rfl rfl dX4_told_67 ?_
      refine J_Sg3 (pc := 68) h (Nat.le_add_right _ _) ((safeIn_ok hI _).resolve_left (by assumption)) m_102 (fun _ q => q) (σ (28 + (f_X4_safeIn a σ).toNatClampNeg) 3) rfl dX4_told_68 ?_
      exact J_iret (pc := 71) h hr (by subst ho; exact ⟨rfl, rfl⟩) dX4_told_71
    replace ho := (if_neg c5).symm.trans ho
    by_cases c6 : b = 4
    · replace ho := (if_pos c6).symm.trans ho
      refine J_tabIn (pc := 13) h (4) 72 c6 (by decide) (by decide) rfl (by decide) dX4_told_13 ?_
      refine J_aload_n (pc := 72) (n := 3) (i := 3) h 0 rfl rfl dX4_told_72 ?_
      refine J_Sg4 (pc := 73) h (Nat.le_add_right _ _) ((safeIn_ok hI _).resolve_left (by assumption)) m_104 (fun _ q => q) (σ (28 + (f_X4_safeIn a σ).toNatClampNeg) 4) rfl dX4_told_73 ?_
      exact J_iret (pc := 76) h hr (by subst ho; exact ⟨rfl, rfl⟩) dX4_told_76
    replace ho := (if_neg c6).symm.trans ho
    by_cases c7 : b = 5
    · replace ho := (if_pos c7).symm.trans ho
      refine J_tabIn (pc := 13) h (5) 77 c7 (by decide) (by decide) rfl (by decide) dX4_told_13 ?_
      refine J_aload_n (pc := 77) (n := 3) (i := 3) h 0 rfl rfl dX4_told_77 ?_
      refine J_Sg5 (pc := 78) h (Nat.le_add_right _ _) ((safeIn_ok hI _).resolve_left (by assumption)) m_106 (fun _ q => q) (σ (28 + (f_X4_safeIn a σ).toNatClampNeg) 5) rfl dX4_told_78 ?_
      exact J_iret (pc := 81) h hr (by subst ho; exact ⟨rfl, rfl⟩) dX4_told_81
    replace ho := (if_neg c7).symm.trans ho
    refine J_tabOut (pc := 13) h 82 (by have zc2 := ne_toI c2 (n := 0) rfl; have zc3 := ne_toI c3 (n := 1) rfl; have zc4 := ne_toI c4 (n := 2) rfl; have zc5 := ne_toI c5 (n := 3) rfl; have zc6 := ne_toI c6 (n := 4) rfl; have zc7 := ne_toI c7 (n := 5) rfl; omega) (by decide) dX4_told_13 ?_
    refine J_iconst (pc := 82) h (-1) rfl dX4_told_82 ?_
    exact J_iret (pc := 83) h hr (by subst ho; exact ⟨rfl, rfl⟩) dX4_told_83
  · replace ho := (if_pos c1).symm.trans ho
    refine J_iconst (pc := 10) h (-1) rfl dX4_told_10 ?_
    exact J_iret (pc := 11) h hr (by subst ho; exact ⟨rfl, rfl⟩) dX4_told_11
