def f_X1_enter (j : Nat) (σ : Sg) : Sg := (if (σ j 4) + 1 ≤ σ j 5 then (up2 (up2 σ j 4 ((σ j 4) + 1)) j 3 ((σ j 3) + 1)) else (up2 (up2 (up2 σ j 4 ((σ j 4) + 1)) j 3 ((σ j 3) + 1)) j 5 ((σ j 4) + 1)))
theorem hd_X1_enter : yX1_enter.cls ≠ "java/lang/invoke/MethodHandle" ∧ yX1_enter.cls ≠ "java/lang/invoke/VarHandle" ∧ (parseMethodDescriptor yX1_enter.desc).map (fun d => d.parameters.length) = some 0 := by decide +kernel
set_option maxHeartbeats 4000000 in
set_option maxRecDepth 20000 in
theorem c_X1_enter (l : Launch) (g : Gy) (ad : Nat → Nat) (n : Nat) (σ : Sg) (j : Nat) (hj : 28 ≤ j) (hn : j < n) : Con l g yX1_enter cX1_enter 1 none (rmL 0) [.ref (ad j)] (wC g ad n σ) (Det none (wC g ad n (f_X1_enter j σ))) := by
  refine Con.of (by decide) (Nat.le_of_ble_eq_true rfl) ?_
  intro x h e1 e2 e3 e4 e5 hr
  subst e1 e2
  have h : Ok x cX1_enter "SafeDesk$Safe" none := h
  have hR : RmOk x 0 0 0 := RmOk.of e3 (Nat.le_refl _) (Nat.le_refl _)
  obtain ⟨out, ho⟩ : ∃ o, f_X1_enter j σ = o := ⟨_, rfl⟩
  rw [ho] at hr
  unfold f_X1_enter at ho
  show J x 0 0 _ 0 [(0, .ref (ad j))] []
  refine J_aload_n (pc := 0) (n := 0) (i := 0) h 0 rfl rfl dX1_enter_0 ?_
  refine J_dup (pc := 1) h rfl dX1_enter_1 ?_
  refine J_Sg4 (pc := 2) h hj hn m_103 (fun _ q => q) (σ j 4) rfl dX1_enter_2 ?_
  refine J_iconst (pc := 5) h (1) rfl dX1_enter_5 ?_
  refine J_iadd (pc := 6) h dX1_enter_6 ?_
  refine J_Sp4 (pc := 7) h hj hn m_103 (fun _ q => q) dX1_enter_7 ?_
  refine J_aload_n (pc := 10) (n := 0) (i := 0) h 0 rfl rfl dX1_enter_10 ?_
  refine J_dup (pc := 11) h rfl dX1_enter_11 ?_
  refine J_Sg3 (pc := 12) h hj hn m_101 (fun _ q => q) (σ j 3) (up2_row _ _ _ (by decide)) dX1_enter_12 ?_
  refine J_iconst (pc := 15) h (1) rfl dX1_enter_15 ?_
  refine J_iadd (pc := 16) h dX1_enter_16 ?_
  refine J_Sp3 (pc := 17) h hj hn m_101 (fun _ q => q) dX1_enter_17 ?_
  refine J_aload_n (pc := 20) (n := 0) (i := 0) h 0 rfl rfl dX1_enter_20 ?_
  refine J_Sg4 (pc := 21) h hj hn m_103 (fun _ q => q) ((σ j 4) + 1) ((up2_row _ _ _ (by decide)).trans (up2_self _ _ _ _)) dX1_enter_21 ?_
  refine J_aload_n (pc := 24) (n := 0) (i := 0) h 0 rfl rfl dX1_enter_24 ?_
  refine J_Sg5 (pc := 25) h hj hn m_105 (fun _ q => q) (σ j 5) ((up2_row _ _ _ (by decide)).trans (up2_row _ _ _ (by decide))) dX1_enter_25 ?_
  refine J_icmp_le (pc := 28) h 39 (by decide) dX1_enter_28 (fun c1 => ?_) (fun c1 => ?_)
  · replace ho := (if_pos c1).symm.trans ho
    exact J_vret (pc := 39) h hr (by subst ho; exact ⟨rfl, rfl⟩) dX1_enter_39
  · replace ho := (if_neg c1).symm.trans ho
    refine J_aload_n (pc := 31) (n := 0) (i := 0) h 0 rfl rfl dX1_enter_31 ?_
    refine J_aload_n (pc := 32) (n := 0) (i := 0) h 0 rfl rfl dX1_enter_32 ?_
    refine J_Sg4 (pc := 33) h hj hn m_103 (fun _ q => q) ((σ j 4) + 1) ((up2_row _ _ _ (by decide)).trans (up2_self _ _ _ _)) dX1_enter_33 ?_
    refine J_Sp5 (pc := 36) h hj hn m_105 (fun _ q => q) dX1_enter_36 ?_
    exact J_vret (pc := 39) h hr (by subst ho; exact ⟨rfl, rfl⟩) dX1_enter_39
theorem k0_enter (j : Nat) (σ : Sg) : f_X1_enter j σ j 0 = σ j 0 := by
  unfold f_X1_enter
  split <;> simp [up2, va_up]
def f_X1_leave (j : Nat) (σ : Sg) : Sg := (up2 σ j 4 ((σ j 4) - 1))
theorem hd_X1_leave : yX1_leave.cls ≠ "java/lang/invoke/MethodHandle" ∧ yX1_leave.cls ≠ "java/lang/invoke/VarHandle" ∧ (parseMethodDescriptor yX1_leave.desc).map (fun d => d.parameters.length) = some 0 := by decide +kernel
set_option maxHeartbeats 4000000 in
set_option maxRecDepth 20000 in
theorem c_X1_leave (l : Launch) (g : Gy) (ad : Nat → Nat) (n : Nat) (σ : Sg) (j : Nat) (hj : 28 ≤ j) (hn : j < n) : Con l g yX1_leave cX1_leave 1 none (rmL 0) [.ref (ad j)] (wC g ad n σ) (Det none (wC g ad n (f_X1_leave j σ))) := by
  refine Con.of (by decide) (Nat.le_of_ble_eq_true rfl) ?_
  intro x h e1 e2 e3 e4 e5 hr
  subst e1 e2
  have h : Ok x cX1_leave "SafeDesk$Safe" none := h
  have hR : RmOk x 0 0 0 := RmOk.of e3 (Nat.le_refl _) (Nat.le_refl _)
  obtain ⟨out, ho⟩ : ∃ o, f_X1_leave j σ = o := ⟨_, rfl⟩
  rw [ho] at hr
  unfold f_X1_leave at ho
  show J x 0 0 _ 0 [(0, .ref (ad j))] []
  refine J_aload_n (pc := 0) (n := 0) (i := 0) h 0 rfl rfl dX1_leave_0 ?_
  refine J_dup (pc := 1) h rfl dX1_leave_1 ?_
  refine J_Sg4 (pc := 2) h hj hn m_103 (fun _ q => q) (σ j 4) rfl dX1_leave_2 ?_
  refine J_iconst (pc := 5) h (1) rfl dX1_leave_5 ?_
  refine J_isub (pc := 6) h dX1_leave_6 ?_
  refine J_Sp4 (pc := 7) h hj hn m_103 (fun _ q => q) dX1_leave_7 ?_
  exact J_vret (pc := 10) h hr (by subst ho; exact ⟨rfl, rfl⟩) dX1_leave_10
theorem k0_leave (j : Nat) (σ : Sg) : f_X1_leave j σ j 0 = σ j 0 := by simp [f_X1_leave, up2, va_up]
theorem ref_cat (a : Nat) : (Value.ref a).category = 1 := rfl
theorem int_cat (a : Int32) : (Value.int a).category = 1 := rfl
theorem up2_k0 (σ : Sg) (j i : Nat) (v : Int32) (h : i ≠ 0) : up2 σ j i v j 0 = σ j 0 := up2_row _ _ _ (Ne.symm h)
def f_X1_put (j : Nat) (v : Int32) (σ : Sg) : Int32 × Sg := (if lg_cmp ((((f_X1_enter j σ) j 1).toInt64) + v.toInt64) 0 < 0 then (30, f_X1_leave j (f_X1_enter j σ)) else (if 0 < lg_cmp ((((f_X1_enter j σ) j 1).toInt64) + v.toInt64) 1000000 then (30, f_X1_leave j (f_X1_enter j σ)) else (0, f_X1_leave j (up2 (f_X1_enter j σ) j 1 (((((f_X1_enter j σ) j 1).toInt64) + v.toInt64).toInt32)))))
theorem hd_X1_put : yX1_put.cls ≠ "java/lang/invoke/MethodHandle" ∧ yX1_put.cls ≠ "java/lang/invoke/VarHandle" ∧ (parseMethodDescriptor yX1_put.desc).map (fun d => d.parameters.length) = some 1 := by decide +kernel
set_option maxHeartbeats 4000000 in
set_option maxRecDepth 20000 in
theorem c_X1_put (l : Launch) (g : Gy) (ad : Nat → Nat) (n : Nat) (σ : Sg) (j : Nat) (v : Int32) (hj : 28 ≤ j) (hn : j < n) : Con l g yX1_put cX1_put 5 (some .int) (rmL 1) [.ref (ad j), .int v] (wC g ad n σ) (Det (some (.int (f_X1_put j v σ).1)) (wC g ad n ((f_X1_put j v σ).2))) := by
  refine Con.of (by decide) (Nat.le_of_ble_eq_true rfl) ?_
  intro x h e1 e2 e3 e4 e5 hr
  subst e1 e2
  have h : Ok x cX1_put "SafeDesk$Safe" (some .int) := h
  have hR : RmOk x 1 0 0 := RmOk.of e3 (Nat.le_refl _) (Nat.le_refl _)
  obtain ⟨out, ho⟩ : ∃ o, f_X1_put j v σ = o := ⟨_, rfl⟩
  rw [ho] at hr
  unfold f_X1_put at ho
  show J x 0 0 _ 0 [(0, .ref (ad j)), (1, .int v)] []
  refine J_aload_n (pc := 0) (n := 0) (i := 0) h 0 rfl rfl dX1_put_0 ?_
  refine J_cU (pc := 1) (z := ⟨"SafeDesk$Safe", "enter", "()V"⟩) h hR hj hn (by decide) (c_X1_enter _ _ ad n σ j  hj hn ) (by decide) m_282 m_215 (Sels.of3 m_214 m_216 m_217) m_213 m_218 rfl hd_X1_enter rfl rfl (Nat.le_of_ble_eq_true rfl) [] rfl dX1_put_1 ?_
  refine J_bipush (pc := 4) h (30) rfl dX1_put_4 ?_
  refine J_istore_n (pc := 6) (n := 2) (i := 2) h [(2, .int 30), (0, .ref (ad j)), (1, .int v)] rfl (by rw [e4]; decide) rfl dX1_put_6 ?_
  refine J_aload_n (pc := 7) (n := 0) (i := 0) h 1 rfl rfl dX1_put_7 ?_
  refine J_Sg1 (pc := 8) h hj hn m_96 (fun _ q => q) ((f_X1_enter j σ) j 1) rfl dX1_put_8 ?_
  refine J_i2l (pc := 11) h dX1_put_11 ?_
  refine J_iload_n (pc := 12) (n := 1) (i := 1) h 2 rfl rfl dX1_put_12 ?_
  refine J_i2l (pc := 13) h dX1_put_13 ?_
  refine J_ladd (pc := 14) h dX1_put_14 ?_
  refine J_lstore_n (pc := 15) (n := 3) (i := 3) h [(3, .long ((((f_X1_enter j σ) j 1).toInt64) + v.toInt64)), (2, .int 30), (0, .ref (ad j)), (1, .int v)] rfl (by rw [e4]; decide) rfl dX1_put_15 ?_
  refine J_lload_n (pc := 16) (n := 3) (i := 3) h 0 rfl rfl dX1_put_16 ?_
  refine J_lconst (pc := 17) h (0) rfl dX1_put_17 ?_
  refine J_lcmp (pc := 18) h dX1_put_18 ?_
  refine J_if_lt (pc := 19) h 38 (by decide) dX1_put_19 (fun c1 => ?_) (fun c1 => ?_)
  · replace ho := (if_pos c1).symm.trans ho
    refine J_aload_n (pc := 38) (n := 0) (i := 0) h 2 rfl rfl dX1_put_38 ?_
    refine J_cU (pc := 39) (z := ⟨"SafeDesk$Safe", "leave", "()V"⟩) h hR hj hn (by decide) (c_X1_leave _ _ ad n (f_X1_enter j σ) j  hj hn ) (by decide) m_284 m_222 (Sels.of3 m_221 m_223 m_224) m_220 m_225 rfl hd_X1_leave rfl rfl (Nat.le_of_ble_eq_true rfl) [] rfl dX1_put_39 ?_
    refine J_iload_n (pc := 42) (n := 2) (i := 2) h 1 rfl rfl dX1_put_42 ?_
    exact J_iret (pc := 43) h hr (by subst ho; exact ⟨rfl, rfl⟩) dX1_put_43
  · replace ho := (if_neg c1).symm.trans ho
    refine J_lload_n (pc := 22) (n := 3) (i := 3) h 0 rfl rfl dX1_put_22 ?_
    refine J_ldc2 (pc := 23) h m_283 dX1_put_23 ?_
    refine J_lcmp (pc := 26) h dX1_put_26 ?_
    refine J_if_gt (pc := 27) h 38 (by decide) dX1_put_27 (fun c2 => ?_) (fun c2 => ?_)
    · replace ho := (if_pos c2).symm.trans ho
      refine J_aload_n (pc := 38) (n := 0) (i := 0) h 2 rfl rfl dX1_put_38 ?_
      refine J_cU (pc := 39) (z := ⟨"SafeDesk$Safe", "leave", "()V"⟩) h hR hj hn (by decide) (c_X1_leave _ _ ad n (f_X1_enter j σ) j  hj hn ) (by decide) m_284 m_222 (Sels.of3 m_221 m_223 m_224) m_220 m_225 rfl hd_X1_leave rfl rfl (Nat.le_of_ble_eq_true rfl) [] rfl dX1_put_39 ?_
      refine J_iload_n (pc := 42) (n := 2) (i := 2) h 1 rfl rfl dX1_put_42 ?_
      exact J_iret (pc := 43) h hr (by subst ho; exact ⟨rfl, rfl⟩) dX1_put_43
    · replace ho := (if_neg c2).symm.trans ho
      refine J_aload_n (pc := 30) (n := 0) (i := 0) h 2 rfl rfl dX1_put_30 ?_
      refine J_lload_n (pc := 31) (n := 3) (i := 3) h 0 rfl rfl dX1_put_31 ?_
      refine J_l2i (pc := 32) h dX1_put_32 ?_
      refine J_Sp1 (pc := 33) h hj hn m_96 (fun _ q => q) dX1_put_33 ?_
      refine J_iconst (pc := 36) h (0) rfl dX1_put_36 ?_
      refine J_istore_n (pc := 37) (n := 2) (i := 2) h [(2, .int 0), (3, .long ((((f_X1_enter j σ) j 1).toInt64) + v.toInt64)), (0, .ref (ad j)), (1, .int v)] rfl (by rw [e4]; decide) rfl dX1_put_37 ?_
      refine J_aload_n (pc := 38) (n := 0) (i := 0) h 2 rfl rfl dX1_put_38 ?_
      refine J_cU (pc := 39) (z := ⟨"SafeDesk$Safe", "leave", "()V"⟩) h hR hj hn (by decide) (c_X1_leave _ _ ad n (up2 (f_X1_enter j σ) j 1 (((((f_X1_enter j σ) j 1).toInt64) + v.toInt64).toInt32)) j  hj hn ) (by decide) m_284 m_222 (Sels.of3 m_221 m_223 m_224) m_220 m_225 rfl hd_X1_leave rfl rfl (Nat.le_of_ble_eq_true rfl) [] rfl dX1_put_39 ?_
      refine J_iload_n (pc := 42) (n := 2) (i := 2) h 0 rfl rfl dX1_put_42 ?_
      exact J_iret (pc := 43) h hr (by subst ho; exact ⟨rfl, rfl⟩) dX1_put_43
theorem k0_X1_put (j : Nat) (v : Int32) (σ : Sg) : (f_X1_put j v σ).2 j 0 = σ j 0 := by
  unfold f_X1_put
  split
  · simp [k0_enter, k0_leave]
  · split <;> simp [k0_enter, k0_leave, up2, va_up]
def f_X1_worth (j : Nat) (σ : Sg) : Int32 × Sg := ((f_X1_enter j σ) j 1, f_X1_leave j (f_X1_enter j σ))
theorem hd_X1_worth : yX1_worth.cls ≠ "java/lang/invoke/MethodHandle" ∧ yX1_worth.cls ≠ "java/lang/invoke/VarHandle" ∧ (parseMethodDescriptor yX1_worth.desc).map (fun d => d.parameters.length) = some 0 := by decide +kernel
set_option maxHeartbeats 4000000 in
set_option maxRecDepth 20000 in
theorem c_X1_worth (l : Launch) (g : Gy) (ad : Nat → Nat) (n : Nat) (σ : Sg) (j : Nat) (hj : 28 ≤ j) (hn : j < n) : Con l g yX1_worth cX1_worth 2 (some .int) (rmL 1) [.ref (ad j)] (wC g ad n σ) (Det (some (.int (f_X1_worth j σ).1)) (wC g ad n ((f_X1_worth j σ).2))) := by
  refine Con.of (by decide) (Nat.le_of_ble_eq_true rfl) ?_
  intro x h e1 e2 e3 e4 e5 hr
  subst e1 e2
  have h : Ok x cX1_worth "SafeDesk$Safe" (some .int) := h
  have hR : RmOk x 1 0 0 := RmOk.of e3 (Nat.le_refl _) (Nat.le_refl _)
  obtain ⟨out, ho⟩ : ∃ o, f_X1_worth j σ = o := ⟨_, rfl⟩
  rw [ho] at hr
  unfold f_X1_worth at ho
  show J x 0 0 _ 0 [(0, .ref (ad j))] []
  refine J_aload_n (pc := 0) (n := 0) (i := 0) h 0 rfl rfl dX1_worth_0 ?_
  refine J_cU (pc := 1) (z := ⟨"SafeDesk$Safe", "enter", "()V"⟩) h hR hj hn (by decide) (c_X1_enter _ _ ad n σ j  hj hn ) (by decide) m_282 m_215 (Sels.of3 m_214 m_216 m_217) m_213 m_218 rfl hd_X1_enter rfl rfl (Nat.le_of_ble_eq_true rfl) [] rfl dX1_worth_1 ?_
  refine J_aload_n (pc := 4) (n := 0) (i := 0) h 0 rfl rfl dX1_worth_4 ?_
  refine J_Sg1 (pc := 5) h hj hn m_96 (fun _ q => q) ((f_X1_enter j σ) j 1) rfl dX1_worth_5 ?_
  refine J_istore_n (pc := 8) (n := 1) (i := 1) h [(1, .int ((f_X1_enter j σ) j 1)), (0, .ref (ad j))] rfl (by rw [e4]; decide) rfl dX1_worth_8 ?_
  refine J_aload_n (pc := 9) (n := 0) (i := 0) h 1 rfl rfl dX1_worth_9 ?_
  refine J_cU (pc := 10) (z := ⟨"SafeDesk$Safe", "leave", "()V"⟩) h hR hj hn (by decide) (c_X1_leave _ _ ad n (f_X1_enter j σ) j  hj hn ) (by decide) m_284 m_222 (Sels.of3 m_221 m_223 m_224) m_220 m_225 rfl hd_X1_leave rfl rfl (Nat.le_of_ble_eq_true rfl) [] rfl dX1_worth_10 ?_
  refine J_iload_n (pc := 13) (n := 1) (i := 1) h 0 rfl rfl dX1_worth_13 ?_
  exact J_iret (pc := 14) h hr (by subst ho; exact ⟨rfl, rfl⟩) dX1_worth_14
theorem k0_X1_worth (j : Nat) (σ : Sg) : (f_X1_worth j σ).2 j 0 = σ j 0 := by simp [f_X1_worth, k0_enter, k0_leave]
def f_X2_put (j : Nat) (v : Int32) (σ : Sg) : Int32 × Sg := ((f_X1_put j v (up2 (f_X1_enter j σ) j 2 (((f_X1_enter j σ) j 2) + 1))).1, f_X1_leave j ((f_X1_put j v (up2 (f_X1_enter j σ) j 2 (((f_X1_enter j σ) j 2) + 1))).2))
theorem hd_X2_put : yX2_put.cls ≠ "java/lang/invoke/MethodHandle" ∧ yX2_put.cls ≠ "java/lang/invoke/VarHandle" ∧ (parseMethodDescriptor yX2_put.desc).map (fun d => d.parameters.length) = some 1 := by decide +kernel
set_option maxHeartbeats 4000000 in
set_option maxRecDepth 20000 in
theorem c_X2_put (l : Launch) (g : Gy) (ad : Nat → Nat) (n : Nat) (σ : Sg) (j : Nat) (v : Int32) (hj : 28 ≤ j) (hn : j < n) (hk : ¬ σ j 0 = 0) : Con l g yX2_put cX2_put 3 (some .int) (rmL 2) [.ref (ad j), .int v] (wC g ad n σ) (Det (some (.int (f_X2_put j v σ).1)) (wC g ad n ((f_X2_put j v σ).2))) := by
  refine Con.of (by decide) (Nat.le_of_ble_eq_true rfl) ?_
  intro x h e1 e2 e3 e4 e5 hr
  subst e1 e2
  have h : Ok x cX2_put "SafeDesk$Timed" (some .int) := h
  have hR : RmOk x 2 0 0 := RmOk.of e3 (Nat.le_refl _) (Nat.le_refl _)
  obtain ⟨out, ho⟩ : ∃ o, f_X2_put j v σ = o := ⟨_, rfl⟩
  rw [ho] at hr
  unfold f_X2_put at ho
  show J x 0 0 _ 0 [(0, .ref (ad j)), (1, .int v)] []
  refine J_aload_n (pc := 0) (n := 0) (i := 0) h 0 rfl rfl dX2_put_0 ?_
  refine J_cU (pc := 1) (z := ⟨"SafeDesk$Timed", "enter", "()V"⟩) h hR hj hn (by decide) (c_X1_enter _ _ ad n σ j  hj hn ) (by decide) m_260 m_261 (Sels.of2 (by simpa [k0_enter, k0_leave, k0_X1_put, k0_X1_worth, up2, va_up] using hk) m_263 m_264) m_213 m_218 rfl hd_X1_enter rfl rfl (Nat.le_of_ble_eq_true rfl) [] rfl dX2_put_1 ?_
  refine J_aload_n (pc := 4) (n := 0) (i := 0) h 0 rfl rfl dX2_put_4 ?_
  refine J_dup (pc := 5) h rfl dX2_put_5 ?_
  refine J_Sg2 (pc := 6) h hj hn m_98 (u_same (h.w m_99)) ((f_X1_enter j σ) j 2) rfl dX2_put_6 ?_
  refine J_iconst (pc := 9) h (1) rfl dX2_put_9 ?_
  refine J_iadd (pc := 10) h dX2_put_10 ?_
  refine J_Sp2 (pc := 11) h hj hn m_98 (u_same (h.w m_99)) dX2_put_11 ?_
  refine J_aload_n (pc := 14) (n := 0) (i := 0) h 0 rfl rfl dX2_put_14 ?_
  refine J_iload_n (pc := 15) (n := 1) (i := 1) h 1 rfl rfl dX2_put_15 ?_
  refine J_cT (pc := 16) h hR hj hn (by decide) (c_X1_put _ _ ad n (up2 (f_X1_enter j σ) j 2 (((f_X1_enter j σ) j 2) + 1)) j v hj hn ) (by decide) m_265 m_256 m_129 m_254 m_4 m_281 ⟨by decide, hd_X1_put.2.2⟩ rfl rfl (Nat.le_of_ble_eq_true rfl) [.int ((f_X1_put j v (up2 (f_X1_enter j σ) j 2 (((f_X1_enter j σ) j 2) + 1))).1)] rfl dX2_put_16 ?_
  refine J_istore_n (pc := 19) (n := 2) (i := 2) h [(2, .int ((f_X1_put j v (up2 (f_X1_enter j σ) j 2 (((f_X1_enter j σ) j 2) + 1))).1)), (0, .ref (ad j)), (1, .int v)] rfl (by rw [e4]; decide) rfl dX2_put_19 ?_
  refine J_aload_n (pc := 20) (n := 0) (i := 0) h 1 rfl rfl dX2_put_20 ?_
  refine J_cU (pc := 21) (z := ⟨"SafeDesk$Timed", "leave", "()V"⟩) h hR hj hn (by decide) (c_X1_leave _ _ ad n ((f_X1_put j v (up2 (f_X1_enter j σ) j 2 (((f_X1_enter j σ) j 2) + 1))).2) j  hj hn ) (by decide) m_266 m_267 (Sels.of2 (by simpa [k0_enter, k0_leave, k0_X1_put, k0_X1_worth, up2, va_up] using hk) m_269 m_270) m_220 m_225 rfl hd_X1_leave rfl rfl (Nat.le_of_ble_eq_true rfl) [] rfl dX2_put_21 ?_
  refine J_iload_n (pc := 24) (n := 2) (i := 2) h 0 rfl rfl dX2_put_24 ?_
  exact J_iret (pc := 25) h hr (by subst ho; exact ⟨rfl, rfl⟩) dX2_put_25
theorem k0_X2_put (j : Nat) (v : Int32) (σ : Sg) : (f_X2_put j v σ).2 j 0 = σ j 0 := by simp [f_X2_put, k0_enter, k0_leave, k0_X1_put, up2, va_up]
def f_X2_worth (j : Nat) (σ : Sg) : Int32 × Sg := (((f_X1_worth j (f_X1_enter j σ)).1) + (((f_X1_worth j (f_X1_enter j σ)).2) j 2), f_X1_leave j ((f_X1_worth j (f_X1_enter j σ)).2))
theorem hd_X2_worth : yX2_worth.cls ≠ "java/lang/invoke/MethodHandle" ∧ yX2_worth.cls ≠ "java/lang/invoke/VarHandle" ∧ (parseMethodDescriptor yX2_worth.desc).map (fun d => d.parameters.length) = some 0 := by decide +kernel
set_option maxHeartbeats 4000000 in
set_option maxRecDepth 20000 in
theorem c_X2_worth (l : Launch) (g : Gy) (ad : Nat → Nat) (n : Nat) (σ : Sg) (j : Nat) (hj : 28 ≤ j) (hn : j < n) (hk : ¬ σ j 0 = 0) : Con l g yX2_worth cX2_worth 2 (some .int) (rmL 2) [.ref (ad j)] (wC g ad n σ) (Det (some (.int (f_X2_worth j σ).1)) (wC g ad n ((f_X2_worth j σ).2))) := by
  refine Con.of (by decide) (Nat.le_of_ble_eq_true rfl) ?_
  intro x h e1 e2 e3 e4 e5 hr
  subst e1 e2
  have h : Ok x cX2_worth "SafeDesk$Timed" (some .int) := h
  have hR : RmOk x 2 0 0 := RmOk.of e3 (Nat.le_refl _) (Nat.le_refl _)
  obtain ⟨out, ho⟩ : ∃ o, f_X2_worth j σ = o := ⟨_, rfl⟩
  rw [ho] at hr
  unfold f_X2_worth at ho
  show J x 0 0 _ 0 [(0, .ref (ad j))] []
  refine J_aload_n (pc := 0) (n := 0) (i := 0) h 0 rfl rfl dX2_worth_0 ?_
  refine J_cU (pc := 1) (z := ⟨"SafeDesk$Timed", "enter", "()V"⟩) h hR hj hn (by decide) (c_X1_enter _ _ ad n σ j  hj hn ) (by decide) m_260 m_261 (Sels.of2 (by simpa [k0_enter, k0_leave, k0_X1_put, k0_X1_worth, up2, va_up] using hk) m_263 m_264) m_213 m_218 rfl hd_X1_enter rfl rfl (Nat.le_of_ble_eq_true rfl) [] rfl dX2_worth_1 ?_
  refine J_aload_n (pc := 4) (n := 0) (i := 0) h 0 rfl rfl dX2_worth_4 ?_
  refine J_cT (pc := 5) h hR hj hn (by decide) (c_X1_worth _ _ ad n (f_X1_enter j σ) j  hj hn ) (by decide) m_300 m_296 m_129 m_294 m_4 m_305 ⟨by decide, hd_X1_worth.2.2⟩ rfl rfl (Nat.le_of_ble_eq_true rfl) [.int ((f_X1_worth j (f_X1_enter j σ)).1)] rfl dX2_worth_5 ?_
  refine J_aload_n (pc := 8) (n := 0) (i := 0) h 0 rfl rfl dX2_worth_8 ?_
  refine J_Sg2 (pc := 9) h hj hn m_98 (u_same (h.w m_99)) (((f_X1_worth j (f_X1_enter j σ)).2) j 2) rfl dX2_worth_9 ?_
  refine J_iadd (pc := 12) h dX2_worth_12 ?_
  refine J_istore_n (pc := 13) (n := 1) (i := 1) h [(1, .int (((f_X1_worth j (f_X1_enter j σ)).1) + (((f_X1_worth j (f_X1_enter j σ)).2) j 2))), (0, .ref (ad j))] rfl (by rw [e4]; decide) rfl dX2_worth_13 ?_
  refine J_aload_n (pc := 14) (n := 0) (i := 0) h 1 rfl rfl dX2_worth_14 ?_
  refine J_cU (pc := 15) (z := ⟨"SafeDesk$Timed", "leave", "()V"⟩) h hR hj hn (by decide) (c_X1_leave _ _ ad n ((f_X1_worth j (f_X1_enter j σ)).2) j  hj hn ) (by decide) m_266 m_267 (Sels.of2 (by simpa [k0_enter, k0_leave, k0_X1_put, k0_X1_worth, up2, va_up] using hk) m_269 m_270) m_220 m_225 rfl hd_X1_leave rfl rfl (Nat.le_of_ble_eq_true rfl) [] rfl dX2_worth_15 ?_
  refine J_iload_n (pc := 18) (n := 1) (i := 1) h 0 rfl rfl dX2_worth_18 ?_
  exact J_iret (pc := 19) h hr (by subst ho; exact ⟨rfl, rfl⟩) dX2_worth_19
theorem k0_X2_worth (j : Nat) (σ : Sg) : (f_X2_worth j σ).2 j 0 = σ j 0 := by simp [f_X2_worth, k0_enter, k0_leave, k0_X1_worth]
def f_X3_put (j : Nat) (v : Int32) (σ : Sg) : Int32 × Sg := (if (f_X2_put j v (f_X1_enter j σ)).1 = 0 then ((f_X2_put j v ((f_X2_put j v (f_X1_enter j σ)).2)).1, f_X1_leave j ((f_X2_put j v ((f_X2_put j v (f_X1_enter j σ)).2)).2)) else ((f_X2_put j v (f_X1_enter j σ)).1, f_X1_leave j ((f_X2_put j v (f_X1_enter j σ)).2)))
theorem hd_X3_put : yX3_put.cls ≠ "java/lang/invoke/MethodHandle" ∧ yX3_put.cls ≠ "java/lang/invoke/VarHandle" ∧ (parseMethodDescriptor yX3_put.desc).map (fun d => d.parameters.length) = some 1 := by decide +kernel
set_option maxHeartbeats 4000000 in
set_option maxRecDepth 20000 in
theorem c_X3_put (l : Launch) (g : Gy) (ad : Nat → Nat) (n : Nat) (σ : Sg) (j : Nat) (v : Int32) (hj : 28 ≤ j) (hn : j < n) (hk : ¬ σ j 0 = 0) (hk1 : ¬ σ j 0 = 1) : Con l g yX3_put cX3_put 3 (some .int) (rmL 3) [.ref (ad j), .int v] (wC g ad n σ) (Det (some (.int (f_X3_put j v σ).1)) (wC g ad n ((f_X3_put j v σ).2))) := by
  refine Con.of (by decide) (Nat.le_of_ble_eq_true rfl) ?_
  intro x h e1 e2 e3 e4 e5 hr
  subst e1 e2
  have h : Ok x cX3_put "SafeDesk$Vault" (some .int) := h
  have hR : RmOk x 3 0 0 := RmOk.of e3 (Nat.le_refl _) (Nat.le_refl _)
  obtain ⟨out, ho⟩ : ∃ o, f_X3_put j v σ = o := ⟨_, rfl⟩
  rw [ho] at hr
  unfold f_X3_put at ho
  show J x 0 0 _ 0 [(0, .ref (ad j)), (1, .int v)] []
  refine J_aload_n (pc := 0) (n := 0) (i := 0) h 0 rfl rfl dX3_put_0 ?_
  refine J_cU (pc := 1) (z := ⟨"SafeDesk$Vault", "enter", "()V"⟩) h hR hj hn (by decide) (c_X1_enter _ _ ad n σ j  hj hn ) (by decide) m_274 m_275 (Sels.of1 (by simpa [k0_enter, k0_leave, k0_X1_put, k0_X1_worth, k0_X2_put, k0_X2_worth, up2, va_up] using hk) (by simpa [k0_enter, k0_leave, k0_X1_put, k0_X1_worth, k0_X2_put, k0_X2_worth, up2, va_up] using hk1) m_276) m_213 m_218 rfl hd_X1_enter rfl rfl (Nat.le_of_ble_eq_true rfl) [] rfl dX3_put_1 ?_
  refine J_aload_n (pc := 4) (n := 0) (i := 0) h 0 rfl rfl dX3_put_4 ?_
  refine J_iload_n (pc := 5) (n := 1) (i := 1) h 1 rfl rfl dX3_put_5 ?_
  refine J_cT (pc := 6) h hR hj hn (by decide) (c_X2_put _ _ ad n (f_X1_enter j σ) j v hj hn (by simpa [k0_enter, k0_leave, k0_X1_put, k0_X1_worth, k0_X2_put, k0_X2_worth, up2, va_up] using hk)) (by decide) m_277 m_520 m_119 m_258 m_5 m_259 ⟨by decide, hd_X2_put.2.2⟩ rfl rfl (Nat.le_of_ble_eq_true rfl) [.int ((f_X2_put j v (f_X1_enter j σ)).1)] rfl dX3_put_6 ?_
  refine J_istore_n (pc := 9) (n := 2) (i := 2) h [(2, .int ((f_X2_put j v (f_X1_enter j σ)).1)), (0, .ref (ad j)), (1, .int v)] rfl (by rw [e4]; decide) rfl dX3_put_9 ?_
  refine J_iload_n (pc := 10) (n := 2) (i := 2) h 0 rfl rfl dX3_put_10 ?_
  refine J_if_ne (pc := 11) h 20 (by decide) dX3_put_11 (fun c1 => ?_) (fun c1 => ?_)
  · replace ho := (if_neg c1).symm.trans ho
    refine J_aload_n (pc := 20) (n := 0) (i := 0) h 1 rfl rfl dX3_put_20 ?_
    refine J_cU (pc := 21) (z := ⟨"SafeDesk$Vault", "leave", "()V"⟩) h hR hj hn (by decide) (c_X1_leave _ _ ad n ((f_X2_put j v (f_X1_enter j σ)).2) j  hj hn ) (by decide) m_278 m_279 (Sels.of1 (by simpa [k0_enter, k0_leave, k0_X1_put, k0_X1_worth, k0_X2_put, k0_X2_worth, up2, va_up] using hk) (by simpa [k0_enter, k0_leave, k0_X1_put, k0_X1_worth, k0_X2_put, k0_X2_worth, up2, va_up] using hk1) m_280) m_220 m_225 rfl hd_X1_leave rfl rfl (Nat.le_of_ble_eq_true rfl) [] rfl dX3_put_21 ?_
    refine J_iload_n (pc := 24) (n := 2) (i := 2) h 0 rfl rfl dX3_put_24 ?_
    exact J_iret (pc := 25) h hr (by subst ho; exact ⟨rfl, rfl⟩) dX3_put_25
  · replace ho := (if_pos c1).symm.trans ho
    refine J_aload_n (pc := 14) (n := 0) (i := 0) h 1 rfl rfl dX3_put_14 ?_
    refine J_iload_n (pc := 15) (n := 1) (i := 1) h 2 rfl rfl dX3_put_15 ?_
    refine J_cT (pc := 16) h hR hj hn (by decide) (c_X2_put _ _ ad n ((f_X2_put j v (f_X1_enter j σ)).2) j v hj hn (by simpa [k0_enter, k0_leave, k0_X1_put, k0_X1_worth, k0_X2_put, k0_X2_worth, up2, va_up] using hk)) (by decide) m_277 m_520 m_119 m_258 m_5 m_259 ⟨by decide, hd_X2_put.2.2⟩ rfl rfl (Nat.le_of_ble_eq_true rfl) [.int ((f_X2_put j v ((f_X2_put j v (f_X1_enter j σ)).2)).1)] rfl dX3_put_16 ?_
    refine J_istore_n (pc := 19) (n := 2) (i := 2) h [(2, .int ((f_X2_put j v ((f_X2_put j v (f_X1_enter j σ)).2)).1)), (0, .ref (ad j)), (1, .int v)] rfl (by rw [e4]; decide) rfl dX3_put_19 ?_
    refine J_aload_n (pc := 20) (n := 0) (i := 0) h 1 rfl rfl dX3_put_20 ?_
    refine J_cU (pc := 21) (z := ⟨"SafeDesk$Vault", "leave", "()V"⟩) h hR hj hn (by decide) (c_X1_leave _ _ ad n ((f_X2_put j v ((f_X2_put j v (f_X1_enter j σ)).2)).2) j  hj hn ) (by decide) m_278 m_279 (Sels.of1 (by simpa [k0_enter, k0_leave, k0_X1_put, k0_X1_worth, k0_X2_put, k0_X2_worth, up2, va_up] using hk) (by simpa [k0_enter, k0_leave, k0_X1_put, k0_X1_worth, k0_X2_put, k0_X2_worth, up2, va_up] using hk1) m_280) m_220 m_225 rfl hd_X1_leave rfl rfl (Nat.le_of_ble_eq_true rfl) [] rfl dX3_put_21 ?_
    refine J_iload_n (pc := 24) (n := 2) (i := 2) h 0 rfl rfl dX3_put_24 ?_
    exact J_iret (pc := 25) h hr (by subst ho; exact ⟨rfl, rfl⟩) dX3_put_25
theorem k0_X3_put (j : Nat) (v : Int32) (σ : Sg) : (f_X3_put j v σ).2 j 0 = σ j 0 := by
  unfold f_X3_put
  split <;> simp [k0_enter, k0_leave, k0_X1_put, k0_X1_worth, k0_X2_put, k0_X2_worth, up2, va_up]
def f_X3_worth (j : Nat) (σ : Sg) : Int32 × Sg := (2 * ((f_X2_worth j (f_X1_enter j σ)).1), f_X1_leave j ((f_X2_worth j (f_X1_enter j σ)).2))
theorem hd_X3_worth : yX3_worth.cls ≠ "java/lang/invoke/MethodHandle" ∧ yX3_worth.cls ≠ "java/lang/invoke/VarHandle" ∧ (parseMethodDescriptor yX3_worth.desc).map (fun d => d.parameters.length) = some 0 := by decide +kernel
set_option maxHeartbeats 4000000 in
set_option maxRecDepth 20000 in
theorem c_X3_worth (l : Launch) (g : Gy) (ad : Nat → Nat) (n : Nat) (σ : Sg) (j : Nat) (hj : 28 ≤ j) (hn : j < n) (hk : ¬ σ j 0 = 0) (hk1 : ¬ σ j 0 = 1) : Con l g yX3_worth cX3_worth 2 (some .int) (rmL 3) [.ref (ad j)] (wC g ad n σ) (Det (some (.int (f_X3_worth j σ).1)) (wC g ad n ((f_X3_worth j σ).2))) := by
  refine Con.of (by decide) (Nat.le_of_ble_eq_true rfl) ?_
  intro x h e1 e2 e3 e4 e5 hr
  subst e1 e2
  have h : Ok x cX3_worth "SafeDesk$Vault" (some .int) := h
  have hR : RmOk x 3 0 0 := RmOk.of e3 (Nat.le_refl _) (Nat.le_refl _)
  obtain ⟨out, ho⟩ : ∃ o, f_X3_worth j σ = o := ⟨_, rfl⟩
  rw [ho] at hr
  unfold f_X3_worth at ho
  show J x 0 0 _ 0 [(0, .ref (ad j))] []
  refine J_aload_n (pc := 0) (n := 0) (i := 0) h 0 rfl rfl dX3_worth_0 ?_
  refine J_cU (pc := 1) (z := ⟨"SafeDesk$Vault", "enter", "()V"⟩) h hR hj hn (by decide) (c_X1_enter _ _ ad n σ j  hj hn ) (by decide) m_274 m_275 (Sels.of1 (by simpa [k0_enter, k0_leave, k0_X1_put, k0_X1_worth, k0_X2_put, k0_X2_worth, up2, va_up] using hk) (by simpa [k0_enter, k0_leave, k0_X1_put, k0_X1_worth, k0_X2_put, k0_X2_worth, up2, va_up] using hk1) m_276) m_213 m_218 rfl hd_X1_enter rfl rfl (Nat.le_of_ble_eq_true rfl) [] rfl dX3_worth_1 ?_
  refine J_iconst (pc := 4) h (2) rfl dX3_worth_4 ?_
  refine J_aload_n (pc := 5) (n := 0) (i := 0) h 0 rfl rfl dX3_worth_5 ?_
  refine J_cT (pc := 6) h hR hj hn (by decide) (c_X2_worth _ _ ad n (f_X1_enter j σ) j  hj hn (by simpa [k0_enter, k0_leave, k0_X1_put, k0_X1_worth, k0_X2_put, k0_X2_worth, up2, va_up] using hk)) (by decide) m_304 m_521 m_119 m_298 m_5 m_299 ⟨by decide, hd_X2_worth.2.2⟩ rfl rfl (Nat.le_of_ble_eq_true rfl) [.int ((f_X2_worth j (f_X1_enter j σ)).1), .int 2] rfl dX3_worth_6 ?_
  refine J_imul (pc := 9) h dX3_worth_9 ?_
  refine J_istore_n (pc := 10) (n := 1) (i := 1) h [(1, .int (2 * ((f_X2_worth j (f_X1_enter j σ)).1))), (0, .ref (ad j))] rfl (by rw [e4]; decide) rfl dX3_worth_10 ?_
  refine J_aload_n (pc := 11) (n := 0) (i := 0) h 1 rfl rfl dX3_worth_11 ?_
  refine J_cU (pc := 12) (z := ⟨"SafeDesk$Vault", "leave", "()V"⟩) h hR hj hn (by decide) (c_X1_leave _ _ ad n ((f_X2_worth j (f_X1_enter j σ)).2) j  hj hn ) (by decide) m_278 m_279 (Sels.of1 (by simpa [k0_enter, k0_leave, k0_X1_put, k0_X1_worth, k0_X2_put, k0_X2_worth, up2, va_up] using hk) (by simpa [k0_enter, k0_leave, k0_X1_put, k0_X1_worth, k0_X2_put, k0_X2_worth, up2, va_up] using hk1) m_280) m_220 m_225 rfl hd_X1_leave rfl rfl (Nat.le_of_ble_eq_true rfl) [] rfl dX3_worth_12 ?_
  refine J_iload_n (pc := 15) (n := 1) (i := 1) h 0 rfl rfl dX3_worth_15 ?_
  exact J_iret (pc := 16) h hr (by subst ho; exact ⟨rfl, rfl⟩) dX3_worth_16
theorem k0_X3_worth (j : Nat) (σ : Sg) : (f_X3_worth j σ).2 j 0 = σ j 0 := by simp [f_X3_worth, k0_enter, k0_leave, k0_X1_put, k0_X1_worth, k0_X2_put, k0_X2_worth, up2, va_up]
def f_vput (j : Nat) (v : Int32) (σ : Sg) : Int32 × Sg := if σ j 0 = 0 then f_X1_put j v σ else if σ j 0 = 1 then f_X2_put j v σ else f_X3_put j v σ
def f_vworth (j : Nat) (σ : Sg) : Int32 × Sg := if σ j 0 = 0 then f_X1_worth j σ else if σ j 0 = 1 then f_X2_worth j σ else f_X3_worth j σ
theorem k0_vput (j : Nat) (v : Int32) (σ : Sg) : (f_vput j v σ).2 j 0 = σ j 0 := by
  unfold f_vput
  split
  · exact k0_X1_put j v σ
  · split
    · exact k0_X2_put j v σ
    · exact k0_X3_put j v σ
theorem cv_X1_put (l : Launch) (g : Gy) (ad : Nat → Nat) (n : Nat) (σ : Sg) (j : Nat) (v : Int32) (hj : 28 ≤ j) (hn : j < n) (a : σ j 0 = 0) : Con l g yX1_put cX1_put 5 (some .int) (rmL 1) [.ref (ad j), .int v] (wC g ad n σ) (Det (some (.int (f_vput j v σ).1)) (wC g ad n (f_vput j v σ).2)) := by
  have e : f_vput j v σ = f_X1_put j v σ := if_pos a
  rw [e]
  exact c_X1_put l g ad n σ j v hj hn 
theorem cv_X2_put (l : Launch) (g : Gy) (ad : Nat → Nat) (n : Nat) (σ : Sg) (j : Nat) (v : Int32) (hj : 28 ≤ j) (hn : j < n) (a : σ j 0 = 1) : Con l g yX2_put cX2_put 3 (some .int) (rmL 2) [.ref (ad j), .int v] (wC g ad n σ) (Det (some (.int (f_vput j v σ).1)) (wC g ad n (f_vput j v σ).2)) := by
  have e : f_vput j v σ = f_X2_put j v σ := (if_neg (by rw [a]; decide)).trans (if_pos a)
  rw [e]
  exact c_X2_put l g ad n σ j v hj hn (by rw [a]; decide)
theorem cv_X3_put (l : Launch) (g : Gy) (ad : Nat → Nat) (n : Nat) (σ : Sg) (j : Nat) (v : Int32) (hj : 28 ≤ j) (hn : j < n) (a : ¬ σ j 0 = 0) (b : ¬ σ j 0 = 1) : Con l g yX3_put cX3_put 3 (some .int) (rmL 3) [.ref (ad j), .int v] (wC g ad n σ) (Det (some (.int (f_vput j v σ).1)) (wC g ad n (f_vput j v σ).2)) := by
  have e : f_vput j v σ = f_X3_put j v σ := (if_neg a).trans (if_neg b)
  rw [e]
  exact c_X3_put l g ad n σ j v hj hn a b
theorem cv_X1_worth (l : Launch) (g : Gy) (ad : Nat → Nat) (n : Nat) (σ : Sg) (j : Nat) (hj : 28 ≤ j) (hn : j < n) (a : σ j 0 = 0) : Con l g yX1_worth cX1_worth 2 (some .int) (rmL 1) [.ref (ad j)] (wC g ad n σ) (Det (some (.int (f_vworth j σ).1)) (wC g ad n (f_vworth j σ).2)) := by
  have e : f_vworth j σ = f_X1_worth j σ := if_pos a
  rw [e]
  exact c_X1_worth l g ad n σ j hj hn 
theorem cv_X2_worth (l : Launch) (g : Gy) (ad : Nat → Nat) (n : Nat) (σ : Sg) (j : Nat) (hj : 28 ≤ j) (hn : j < n) (a : σ j 0 = 1) : Con l g yX2_worth cX2_worth 2 (some .int) (rmL 2) [.ref (ad j)] (wC g ad n σ) (Det (some (.int (f_vworth j σ).1)) (wC g ad n (f_vworth j σ).2)) := by
  have e : f_vworth j σ = f_X2_worth j σ := (if_neg (by rw [a]; decide)).trans (if_pos a)
  rw [e]
  exact c_X2_worth l g ad n σ j hj hn (by rw [a]; decide)
theorem cv_X3_worth (l : Launch) (g : Gy) (ad : Nat → Nat) (n : Nat) (σ : Sg) (j : Nat) (hj : 28 ≤ j) (hn : j < n) (a : ¬ σ j 0 = 0) (b : ¬ σ j 0 = 1) : Con l g yX3_worth cX3_worth 2 (some .int) (rmL 3) [.ref (ad j)] (wC g ad n σ) (Det (some (.int (f_vworth j σ).1)) (wC g ad n (f_vworth j σ).2)) := by
  have e : f_vworth j σ = f_X3_worth j σ := (if_neg a).trans (if_neg b)
  rw [e]
  exact c_X3_worth l g ad n σ j hj hn a b
def f_X1_give (j : Nat) (v : Int32) (w : Int32) (σ : Sg) : Int32 × Sg := (if (f_vput j (-v) (f_X1_enter j σ)).1 = 0 then (if w = -1 then (1, f_X1_leave j ((f_vput j v ((f_vput j (-v) (f_X1_enter j σ)).2)).2)) else (if (f_vput (28 + w.toNatClampNeg) v ((f_vput j (-v) (f_X1_enter j σ)).2)).1 = 0 then ((f_vput (28 + w.toNatClampNeg) v ((f_vput j (-v) (f_X1_enter j σ)).2)).1, f_X1_leave j ((f_vput (28 + w.toNatClampNeg) v ((f_vput j (-v) (f_X1_enter j σ)).2)).2)) else ((f_vput (28 + w.toNatClampNeg) v ((f_vput j (-v) (f_X1_enter j σ)).2)).1, f_X1_leave j ((f_vput j v ((f_vput (28 + w.toNatClampNeg) v ((f_vput j (-v) (f_X1_enter j σ)).2)).2)).2)))) else ((f_vput j (-v) (f_X1_enter j σ)).1, f_X1_leave j ((f_vput j (-v) (f_X1_enter j σ)).2)))
theorem hd_X1_give : yX1_give.cls ≠ "java/lang/invoke/MethodHandle" ∧ yX1_give.cls ≠ "java/lang/invoke/VarHandle" ∧ (parseMethodDescriptor yX1_give.desc).map (fun d => d.parameters.length) = some 2 := by decide +kernel
set_option maxHeartbeats 4000000 in
set_option maxRecDepth 20000 in
theorem c_X1_give (l : Launch) (g : Gy) (ad : Nat → Nat) (n : Nat) (σ : Sg) (j : Nat) (v : Int32) (w : Int32) (hj : 28 ≤ j) (hn : j < n) (hw : w = -1 ∨ 28 + w.toNatClampNeg < n) : Con l g yX1_give cX1_give 4 (some .int) (rmL 4) [.ref (ad j), .int v, va_rf (rfa ad w)] (wC g ad n σ) (Det (some (.int (f_X1_give j v w σ).1)) (wC g ad n ((f_X1_give j v w σ).2))) := by
  refine Con.of (by decide) (by simp [lg_sl, rf_cat, ref_cat, int_cat]) ?_
  intro x h e1 e2 e3 e4 e5 hr
  subst e1 e2
  have h : Ok x cX1_give "SafeDesk$Safe" (some .int) := h
  have hR : RmOk x 4 0 0 := RmOk.of e3 (Nat.le_refl _) (Nat.le_refl _)
  obtain ⟨out, ho⟩ : ∃ o, f_X1_give j v w σ = o := ⟨_, rfl⟩
  rw [ho] at hr
  unfold f_X1_give at ho
  rw [show lv_args 0 [.ref (ad j), .int v, va_rf (rfa ad w)] = [(0, .ref (ad j)), (1, .int v), (2, va_rf (rfa ad w))] from by simp [lv_args, rf_cat, ref_cat, int_cat]]
  refine J_aload_n (pc := 0) (n := 0) (i := 0) h 0 rfl rfl dX1_give_0 ?_
  refine J_cU (pc := 1) (z := ⟨"SafeDesk$Safe", "enter", "()V"⟩) h hR hj hn (by decide) (c_X1_enter _ _ ad n σ j  hj hn ) (by decide) m_282 m_215 (Sels.of3 m_214 m_216 m_217) m_213 m_218 rfl hd_X1_enter rfl rfl (Nat.le_of_ble_eq_true rfl) [] rfl dX1_give_1 ?_
  refine J_aload_n (pc := 4) (n := 0) (i := 0) h 0 rfl rfl dX1_give_4 ?_
  refine J_iload_n (pc := 5) (n := 1) (i := 1) h 1 rfl rfl dX1_give_5 ?_
  refine J_ineg (pc := 6) h dX1_give_6 ?_
  refine J_cO (pc := 7) (z := yX1_put) (r0 := some (.int (f_vput j (-v) (f_X1_enter j σ)).1)) (w0 := wC (xG x) ad n (f_vput j (-v) (f_X1_enter j σ)).2) h hR hj hn ⟨by decide, by decide, by decide⟩ (fun qa => cv_X1_put _ _ ad n (f_X1_enter j σ) j (-v) hj hn qa) (fun qa => cv_X2_put _ _ ad n (f_X1_enter j σ) j (-v) hj hn qa) (fun qa qb => cv_X3_put _ _ ad n (f_X1_enter j σ) j (-v) hj hn qa qb) ⟨by decide, by decide, by decide⟩ m_292 m_256 rfl rfl ⟨rfl, rfl, rfl⟩ m_255 m_257 m_271 m_254 m_258 m_272 m_281 m_259 m_273 hd_X1_put rfl rfl (Nat.le_of_ble_eq_true rfl) [.int ((f_vput j (-v) (f_X1_enter j σ)).1)] rfl dX1_give_7 ?_
  refine J_istore_n (pc := 10) (n := 3) (i := 3) h [(3, .int ((f_vput j (-v) (f_X1_enter j σ)).1)), (0, .ref (ad j)), (1, .int v), (2, va_rf (rfa ad w))] rfl (by rw [e4]; decide) (by simp [ref_cat, int_cat, rf_cat]) dX1_give_10 ?_
  refine J_iload_n (pc := 11) (n := 3) (i := 3) h 0 rfl rfl dX1_give_11 ?_
  refine J_if_ne (pc := 12) h 39 (by decide) dX1_give_12 (fun c1 => ?_) (fun c1 => ?_)
  · replace ho := (if_neg c1).symm.trans ho
    refine J_aload_n (pc := 39) (n := 0) (i := 0) h 1 rfl rfl dX1_give_39 ?_
    refine J_cU (pc := 40) (z := ⟨"SafeDesk$Safe", "leave", "()V"⟩) h hR hj hn (by decide) (c_X1_leave _ _ ad n ((f_vput j (-v) (f_X1_enter j σ)).2) j  hj hn ) (by decide) m_284 m_222 (Sels.of3 m_221 m_223 m_224) m_220 m_225 rfl hd_X1_leave rfl rfl (Nat.le_of_ble_eq_true rfl) [] rfl dX1_give_40 ?_
    refine J_iload_n (pc := 43) (n := 3) (i := 3) h 0 rfl rfl dX1_give_43 ?_
    exact J_iret (pc := 44) h hr (by subst ho; exact ⟨rfl, rfl⟩) dX1_give_44
  · replace ho := (if_pos c1).symm.trans ho
    refine J_aload_nq (pc := 15) (n := 2) (i := 2) h 3 rfl rfl dX1_give_15 ?_
    refine J_ifnonnullr (pc := 16) h 23 (by decide) dX1_give_16 (fun c2 => ?_) (fun c2 => ?_)
    · replace ho := (if_neg c2).symm.trans ho
      rw [rfa_ne c2]
      refine J_aload_n (pc := 23) (n := 2) (i := 2) h 3 rfl rfl dX1_give_23 ?_
      refine J_iload_n (pc := 24) (n := 1) (i := 1) h 2 rfl rfl dX1_give_24 ?_
      refine J_cO (pc := 25) (z := yX1_put) (r0 := some (.int (f_vput (28 + w.toNatClampNeg) v ((f_vput j (-v) (f_X1_enter j σ)).2)).1)) (w0 := wC (xG x) ad n (f_vput (28 + w.toNatClampNeg) v ((f_vput j (-v) (f_X1_enter j σ)).2)).2) h hR (Nat.le_add_right _ _) (hw.resolve_left (by assumption)) ⟨by decide, by decide, by decide⟩ (fun qa => cv_X1_put _ _ ad n ((f_vput j (-v) (f_X1_enter j σ)).2) (28 + w.toNatClampNeg) v (Nat.le_add_right _ _) (hw.resolve_left (by assumption)) qa) (fun qa => cv_X2_put _ _ ad n ((f_vput j (-v) (f_X1_enter j σ)).2) (28 + w.toNatClampNeg) v (Nat.le_add_right _ _) (hw.resolve_left (by assumption)) qa) (fun qa qb => cv_X3_put _ _ ad n ((f_vput j (-v) (f_X1_enter j σ)).2) (28 + w.toNatClampNeg) v (Nat.le_add_right _ _) (hw.resolve_left (by assumption)) qa qb) ⟨by decide, by decide, by decide⟩ m_292 m_256 rfl rfl ⟨rfl, rfl, rfl⟩ m_255 m_257 m_271 m_254 m_258 m_272 m_281 m_259 m_273 hd_X1_put rfl rfl (Nat.le_of_ble_eq_true rfl) [.int ((f_vput (28 + w.toNatClampNeg) v ((f_vput j (-v) (f_X1_enter j σ)).2)).1)] rfl dX1_give_25 ?_
      refine J_istore_n (pc := 28) (n := 3) (i := 3) h [(3, .int ((f_vput (28 + w.toNatClampNeg) v ((f_vput j (-v) (f_X1_enter j σ)).2)).1)), (0, .ref (ad j)), (1, .int v), (2, .ref (ad (28 + w.toNatClampNeg)))] rfl (by rw [e4]; decide) rfl dX1_give_28 ?_
      refine J_iload_n (pc := 29) (n := 3) (i := 3) h 0 rfl rfl dX1_give_29 ?_
      refine J_if_eq (pc := 30) h 39 (by decide) dX1_give_30 (fun c3 => ?_) (fun c3 => ?_)
      · replace ho := (if_pos c3).symm.trans ho
        refine J_aload_n (pc := 39) (n := 0) (i := 0) h 1 rfl rfl dX1_give_39 ?_
        refine J_cU (pc := 40) (z := ⟨"SafeDesk$Safe", "leave", "()V"⟩) h hR hj hn (by decide) (c_X1_leave _ _ ad n ((f_vput (28 + w.toNatClampNeg) v ((f_vput j (-v) (f_X1_enter j σ)).2)).2) j  hj hn ) (by decide) m_284 m_222 (Sels.of3 m_221 m_223 m_224) m_220 m_225 rfl hd_X1_leave rfl rfl (Nat.le_of_ble_eq_true rfl) [] rfl dX1_give_40 ?_
        refine J_iload_n (pc := 43) (n := 3) (i := 3) h 0 rfl rfl dX1_give_43 ?_
        exact J_iret (pc := 44) h hr (by subst ho; exact ⟨rfl, rfl⟩) dX1_give_44
      · replace ho := (if_neg c3).symm.trans ho
        refine J_aload_n (pc := 33) (n := 0) (i := 0) h 1 rfl rfl dX1_give_33 ?_
        refine J_iload_n (pc := 34) (n := 1) (i := 1) h 2 rfl rfl dX1_give_34 ?_
        refine J_cO (pc := 35) (z := yX1_put) (r0 := some (.int (f_vput j v ((f_vput (28 + w.toNatClampNeg) v ((f_vput j (-v) (f_X1_enter j σ)).2)).2)).1)) (w0 := wC (xG x) ad n (f_vput j v ((f_vput (28 + w.toNatClampNeg) v ((f_vput j (-v) (f_X1_enter j σ)).2)).2)).2) h hR hj hn ⟨by decide, by decide, by decide⟩ (fun qa => cv_X1_put _ _ ad n ((f_vput (28 + w.toNatClampNeg) v ((f_vput j (-v) (f_X1_enter j σ)).2)).2) j v hj hn qa) (fun qa => cv_X2_put _ _ ad n ((f_vput (28 + w.toNatClampNeg) v ((f_vput j (-v) (f_X1_enter j σ)).2)).2) j v hj hn qa) (fun qa qb => cv_X3_put _ _ ad n ((f_vput (28 + w.toNatClampNeg) v ((f_vput j (-v) (f_X1_enter j σ)).2)).2) j v hj hn qa qb) ⟨by decide, by decide, by decide⟩ m_292 m_256 rfl rfl ⟨rfl, rfl, rfl⟩ m_255 m_257 m_271 m_254 m_258 m_272 m_281 m_259 m_273 hd_X1_put rfl rfl (Nat.le_of_ble_eq_true rfl) [.int ((f_vput j v ((f_vput (28 + w.toNatClampNeg) v ((f_vput j (-v) (f_X1_enter j σ)).2)).2)).1)] rfl dX1_give_35 ?_
        refine J_pop (pc := 38) h rfl dX1_give_38 ?_
        refine J_aload_n (pc := 39) (n := 0) (i := 0) h 1 rfl rfl dX1_give_39 ?_
        refine J_cU (pc := 40) (z := ⟨"SafeDesk$Safe", "leave", "()V"⟩) h hR hj hn (by decide) (c_X1_leave _ _ ad n ((f_vput j v ((f_vput (28 + w.toNatClampNeg) v ((f_vput j (-v) (f_X1_enter j σ)).2)).2)).2) j  hj hn ) (by decide) m_284 m_222 (Sels.of3 m_221 m_223 m_224) m_220 m_225 rfl hd_X1_leave rfl rfl (Nat.le_of_ble_eq_true rfl) [] rfl dX1_give_40 ?_
        refine J_iload_n (pc := 43) (n := 3) (i := 3) h 0 rfl rfl dX1_give_43 ?_
        exact J_iret (pc := 44) h hr (by subst ho; exact ⟨rfl, rfl⟩) dX1_give_44
    · replace ho := (if_pos c2).symm.trans ho
      refine J_iconst (pc := 19) h (1) rfl dX1_give_19 ?_
      refine J_goto (pc := 20) h 28 (by decide) dX1_give_20 ?_
      refine J_istore_n (pc := 28) (n := 3) (i := 3) h [(3, .int 1), (0, .ref (ad j)), (1, .int v), (2, va_rf (rfa ad w))] rfl (by rw [e4]; decide) (by simp [ref_cat, int_cat, rf_cat]) dX1_give_28 ?_
      refine J_iload_n (pc := 29) (n := 3) (i := 3) h 0 rfl rfl dX1_give_29 ?_
      refine J_if_eq (pc := 30) h 39 (by decide) dX1_give_30 (fun c4 => ?_) (fun c4 => ?_)
      · exact absurd c4 (by decide)
      · skip
        refine J_aload_n (pc := 33) (n := 0) (i := 0) h 1 rfl rfl dX1_give_33 ?_
        refine J_iload_n (pc := 34) (n := 1) (i := 1) h 2 rfl rfl dX1_give_34 ?_
        refine J_cO (pc := 35) (z := yX1_put) (r0 := some (.int (f_vput j v ((f_vput j (-v) (f_X1_enter j σ)).2)).1)) (w0 := wC (xG x) ad n (f_vput j v ((f_vput j (-v) (f_X1_enter j σ)).2)).2) h hR hj hn ⟨by decide, by decide, by decide⟩ (fun qa => cv_X1_put _ _ ad n ((f_vput j (-v) (f_X1_enter j σ)).2) j v hj hn qa) (fun qa => cv_X2_put _ _ ad n ((f_vput j (-v) (f_X1_enter j σ)).2) j v hj hn qa) (fun qa qb => cv_X3_put _ _ ad n ((f_vput j (-v) (f_X1_enter j σ)).2) j v hj hn qa qb) ⟨by decide, by decide, by decide⟩ m_292 m_256 rfl rfl ⟨rfl, rfl, rfl⟩ m_255 m_257 m_271 m_254 m_258 m_272 m_281 m_259 m_273 hd_X1_put rfl rfl (Nat.le_of_ble_eq_true rfl) [.int ((f_vput j v ((f_vput j (-v) (f_X1_enter j σ)).2)).1)] rfl dX1_give_35 ?_
        refine J_pop (pc := 38) h rfl dX1_give_38 ?_
        refine J_aload_n (pc := 39) (n := 0) (i := 0) h 1 rfl rfl dX1_give_39 ?_
        refine J_cU (pc := 40) (z := ⟨"SafeDesk$Safe", "leave", "()V"⟩) h hR hj hn (by decide) (c_X1_leave _ _ ad n ((f_vput j v ((f_vput j (-v) (f_X1_enter j σ)).2)).2) j  hj hn ) (by decide) m_284 m_222 (Sels.of3 m_221 m_223 m_224) m_220 m_225 rfl hd_X1_leave rfl rfl (Nat.le_of_ble_eq_true rfl) [] rfl dX1_give_40 ?_
        refine J_iload_n (pc := 43) (n := 3) (i := 3) h 0 rfl rfl dX1_give_43 ?_
        exact J_iret (pc := 44) h hr (by subst ho; exact ⟨rfl, rfl⟩) dX1_give_44
