def f_J9_max_7cf53 (a : Int32) (b : Int32) : Int32 := (if a < b then b else a)
theorem hd_J9_max_7cf53 : yJ9_max_7cf53.cls ≠ "java/lang/invoke/MethodHandle" ∧ yJ9_max_7cf53.cls ≠ "java/lang/invoke/VarHandle" ∧ (parseMethodDescriptor yJ9_max_7cf53.desc).map (fun d => d.parameters.length) = some 2 := by decide +kernel
set_option maxHeartbeats 4000000 in
set_option maxRecDepth 20000 in
theorem c_J9_max_7cf53 (l : Launch) (g : Gy) (ws : va_W) (a : Int32) (b : Int32)  : Con l g yJ9_max_7cf53 cJ9_max_7cf53 2 (some .int) (rmL 0) [.int a, .int b] ws (Det (some (.int (f_J9_max_7cf53 a b))) ws) := by
  refine Con.ofF (by decide +kernel) (Nat.le_of_ble_eq_true rfl) ?_
  intro x h e1 e2 e3 e4 e5 hr
  subst e1 e2
  have h : Ok x cJ9_max_7cf53 "java/lang/Math" (some .int) := h
  have hR : RmOk x 0 0 0 := RmOk.of e3 (Nat.le_refl _) (Nat.le_refl _)
  obtain ⟨out, ho⟩ : ∃ o, f_J9_max_7cf53 a b = o := ⟨_, rfl⟩
  rw [ho] at hr
  unfold f_J9_max_7cf53 at ho
  show J x 0 0 _ 0 [(0, .int a), (1, .int b)] []
  refine J_iload_n (pc := 0) (n := 0) (i := 0) h 0 rfl rfl dJ9_max_7cf53_0 ?_
  refine J_iload_n (pc := 1) (n := 1) (i := 1) h 1 rfl rfl dJ9_max_7cf53_1 ?_
  refine J_icmp_lt (pc := 2) h 9 (by decide) dJ9_max_7cf53_2 (fun c1 => ?_) (fun c1 => ?_)
  · replace ho := (if_pos c1).symm.trans ho
    refine J_iload_n (pc := 9) (n := 1) (i := 1) h 1 rfl rfl dJ9_max_7cf53_9 ?_
    exact J_iret (pc := 10) h hr (by subst ho; exact ⟨rfl, rfl⟩) dJ9_max_7cf53_10
  · replace ho := (if_neg c1).symm.trans ho
    refine J_iload_n (pc := 5) (n := 0) (i := 0) h 0 rfl rfl dJ9_max_7cf53_5 ?_
    refine J_goto (pc := 6) h 10 (by decide) dJ9_max_7cf53_6 ?_
    exact J_iret (pc := 10) h hr (by subst ho; exact ⟨rfl, rfl⟩) dJ9_max_7cf53_10
def f_J9_min_7cf53 (a : Int32) (b : Int32) : Int32 := (if b < a then b else a)
theorem hd_J9_min_7cf53 : yJ9_min_7cf53.cls ≠ "java/lang/invoke/MethodHandle" ∧ yJ9_min_7cf53.cls ≠ "java/lang/invoke/VarHandle" ∧ (parseMethodDescriptor yJ9_min_7cf53.desc).map (fun d => d.parameters.length) = some 2 := by decide +kernel
set_option maxHeartbeats 4000000 in
set_option maxRecDepth 20000 in
theorem c_J9_min_7cf53 (l : Launch) (g : Gy) (ws : va_W) (a : Int32) (b : Int32)  : Con l g yJ9_min_7cf53 cJ9_min_7cf53 2 (some .int) (rmL 0) [.int a, .int b] ws (Det (some (.int (f_J9_min_7cf53 a b))) ws) := by
  refine Con.ofF (by decide +kernel) (Nat.le_of_ble_eq_true rfl) ?_
  intro x h e1 e2 e3 e4 e5 hr
  subst e1 e2
  have h : Ok x cJ9_min_7cf53 "java/lang/Math" (some .int) := h
  have hR : RmOk x 0 0 0 := RmOk.of e3 (Nat.le_refl _) (Nat.le_refl _)
  obtain ⟨out, ho⟩ : ∃ o, f_J9_min_7cf53 a b = o := ⟨_, rfl⟩
  rw [ho] at hr
  unfold f_J9_min_7cf53 at ho
  show J x 0 0 _ 0 [(0, .int a), (1, .int b)] []
  refine J_iload_n (pc := 0) (n := 0) (i := 0) h 0 rfl rfl dJ9_min_7cf53_0 ?_
  refine J_iload_n (pc := 1) (n := 1) (i := 1) h 1 rfl rfl dJ9_min_7cf53_1 ?_
  refine J_icmp_gt (pc := 2) h 9 (by decide) dJ9_min_7cf53_2 (fun c1 => ?_) (fun c1 => ?_)
  · replace ho := (if_pos c1).symm.trans ho
    refine J_iload_n (pc := 9) (n := 1) (i := 1) h 1 rfl rfl dJ9_min_7cf53_9 ?_
    exact J_iret (pc := 10) h hr (by subst ho; exact ⟨rfl, rfl⟩) dJ9_min_7cf53_10
  · replace ho := (if_neg c1).symm.trans ho
    refine J_iload_n (pc := 5) (n := 0) (i := 0) h 0 rfl rfl dJ9_min_7cf53_5 ?_
    refine J_goto (pc := 6) h 10 (by decide) dJ9_min_7cf53_6 ?_
    exact J_iret (pc := 10) h hr (by subst ho; exact ⟨rfl, rfl⟩) dJ9_min_7cf53_10
def f_J9_floorMod_7cf53 (a : Int32) (b : Int32) : Int32 := (if 0 ≤ a ^^^ b then (a - a / b * b) else (if a - a / b * b = 0 then (a - a / b * b) else ((a - a / b * b) + b)))
theorem hd_J9_floorMod_7cf53 : yJ9_floorMod_7cf53.cls ≠ "java/lang/invoke/MethodHandle" ∧ yJ9_floorMod_7cf53.cls ≠ "java/lang/invoke/VarHandle" ∧ (parseMethodDescriptor yJ9_floorMod_7cf53.desc).map (fun d => d.parameters.length) = some 2 := by decide +kernel
set_option maxHeartbeats 4000000 in
set_option maxRecDepth 20000 in
theorem c_J9_floorMod_7cf53 (l : Launch) (g : Gy) (ws : va_W) (a : Int32) (b : Int32) (hb : ¬ b = 0) : Con l g yJ9_floorMod_7cf53 cJ9_floorMod_7cf53 3 (some .int) (rmL 0) [.int a, .int b] ws (Det (some (.int (f_J9_floorMod_7cf53 a b))) ws) := by
  refine Con.ofF (by decide +kernel) (Nat.le_of_ble_eq_true rfl) ?_
  intro x h e1 e2 e3 e4 e5 hr
  subst e1 e2
  have h : Ok x cJ9_floorMod_7cf53 "java/lang/Math" (some .int) := h
  have hR : RmOk x 0 0 0 := RmOk.of e3 (Nat.le_refl _) (Nat.le_refl _)
  obtain ⟨out, ho⟩ : ∃ o, f_J9_floorMod_7cf53 a b = o := ⟨_, rfl⟩
  rw [ho] at hr
  unfold f_J9_floorMod_7cf53 at ho
  show J x 0 0 _ 0 [(0, .int a), (1, .int b)] []
  refine J_iload_n (pc := 0) (n := 0) (i := 0) h 0 rfl rfl dJ9_floorMod_7cf53_0 ?_
  refine J_iload_n (pc := 1) (n := 1) (i := 1) h 1 rfl rfl dJ9_floorMod_7cf53_1 ?_
  refine J_irem (pc := 2) h hb dJ9_floorMod_7cf53_2 ?_
  refine J_istore_n (pc := 3) (n := 2) (i := 2) h [(2, .int (a - a / b * b)), (0, .int a), (1, .int b)] rfl (by rw [e4]; decide) rfl dJ9_floorMod_7cf53_3 ?_
  refine J_iload_n (pc := 4) (n := 0) (i := 0) h 1 rfl rfl dJ9_floorMod_7cf53_4 ?_
  refine J_iload_n (pc := 5) (n := 1) (i := 1) h 2 rfl rfl dJ9_floorMod_7cf53_5 ?_
  refine J_ixor (pc := 6) h dJ9_floorMod_7cf53_6 ?_
  refine J_if_ge (pc := 7) h 18 (by decide) dJ9_floorMod_7cf53_7 (fun c1 => ?_) (fun c1 => ?_)
  · replace ho := (if_pos c1).symm.trans ho
    refine J_iload_n (pc := 18) (n := 2) (i := 2) h 0 rfl rfl dJ9_floorMod_7cf53_18 ?_
    exact J_iret (pc := 19) h hr (by subst ho; exact ⟨rfl, rfl⟩) dJ9_floorMod_7cf53_19
  · replace ho := (if_neg c1).symm.trans ho
    refine J_iload_n (pc := 10) (n := 2) (i := 2) h 0 rfl rfl dJ9_floorMod_7cf53_10 ?_
    refine J_if_eq (pc := 11) h 18 (by decide) dJ9_floorMod_7cf53_11 (fun c2 => ?_) (fun c2 => ?_)
    · replace ho := (if_pos c2).symm.trans ho
      refine J_iload_n (pc := 18) (n := 2) (i := 2) h 0 rfl rfl dJ9_floorMod_7cf53_18 ?_
      exact J_iret (pc := 19) h hr (by subst ho; exact ⟨rfl, rfl⟩) dJ9_floorMod_7cf53_19
    · replace ho := (if_neg c2).symm.trans ho
      refine J_iload_n (pc := 14) (n := 2) (i := 2) h 0 rfl rfl dJ9_floorMod_7cf53_14 ?_
      refine J_iload_n (pc := 15) (n := 1) (i := 1) h 2 rfl rfl dJ9_floorMod_7cf53_15 ?_
      refine J_iadd (pc := 16) h dJ9_floorMod_7cf53_16 ?_
      exact J_iret (pc := 17) h hr (by subst ho; exact ⟨rfl, rfl⟩) dJ9_floorMod_7cf53_17
def f_X4_isRoom (a : Int32) : Int32 := (if a < 0 then 0 else (if 8 ≤ a then 0 else 1))
theorem bn_X4_isRoom (a : Int32) : Bn (f_X4_isRoom a) := by
  unfold f_X4_isRoom
  repeat' (first | exact Bn.z | exact Bn.o | refine Bn.ite ?_ ?_)
theorem zb_X4_isRoom (a : Int32) : narrow .boolean (.int (f_X4_isRoom a)) = .int (f_X4_isRoom a) := zb01 (bn_X4_isRoom a)
theorem hd_X4_isRoom : yX4_isRoom.cls ≠ "java/lang/invoke/MethodHandle" ∧ yX4_isRoom.cls ≠ "java/lang/invoke/VarHandle" ∧ (parseMethodDescriptor yX4_isRoom.desc).map (fun d => d.parameters.length) = some 1 := by decide +kernel
set_option maxHeartbeats 4000000 in
set_option maxRecDepth 20000 in
theorem c_X4_isRoom (l : Launch) (g : Gy) (ws : va_W) (a : Int32)  : Con l g yX4_isRoom cX4_isRoom 1 (some .boolean) (rmL 0) [.int a] ws (Det (some (.int (f_X4_isRoom a))) ws) := by
  refine Con.of (by decide) (Nat.le_of_ble_eq_true rfl) ?_
  intro x h e1 e2 e3 e4 e5 hr
  subst e1 e2
  have h : Ok x cX4_isRoom "SafeDesk" (some .boolean) := h
  have hR : RmOk x 0 0 0 := RmOk.of e3 (Nat.le_refl _) (Nat.le_refl _)
  obtain ⟨out, ho⟩ : ∃ o, f_X4_isRoom a = o := ⟨_, rfl⟩
  rw [ho] at hr
  unfold f_X4_isRoom at ho
  show J x 0 0 _ 0 [(0, .int a)] []
  refine J_iload_n (pc := 0) (n := 0) (i := 0) h 0 rfl rfl dX4_isRoom_0 ?_
  refine J_if_lt (pc := 1) h 14 (by decide) dX4_isRoom_1 (fun c1 => ?_) (fun c1 => ?_)
  · replace ho := (if_pos c1).symm.trans ho
    refine J_iconst (pc := 14) h (0) rfl dX4_isRoom_14 ?_
    exact J_zret (pc := 15) h rfl hr (by subst ho; exact ⟨rfl, rfl⟩) dX4_isRoom_15
  · replace ho := (if_neg c1).symm.trans ho
    refine J_iload_n (pc := 4) (n := 0) (i := 0) h 0 rfl rfl dX4_isRoom_4 ?_
    refine J_bipush (pc := 5) h (8) rfl dX4_isRoom_5 ?_
    refine J_icmp_ge (pc := 7) h 14 (by decide) dX4_isRoom_7 (fun c2 => ?_) (fun c2 => ?_)
    · replace ho := (if_pos c2).symm.trans ho
      refine J_iconst (pc := 14) h (0) rfl dX4_isRoom_14 ?_
      exact J_zret (pc := 15) h rfl hr (by subst ho; exact ⟨rfl, rfl⟩) dX4_isRoom_15
    · replace ho := (if_neg c2).symm.trans ho
      refine J_iconst (pc := 10) h (1) rfl dX4_isRoom_10 ?_
      refine J_goto (pc := 11) h 15 (by decide) dX4_isRoom_11 ?_
      exact J_zret (pc := 15) h rfl hr (by subst ho; exact ⟨rfl, rfl⟩) dX4_isRoom_15
def f_X4_isPlan (a : Int32) : Int32 := (if a < 0 then 0 else (if 6 ≤ a then 0 else 1))
theorem bn_X4_isPlan (a : Int32) : Bn (f_X4_isPlan a) := by
  unfold f_X4_isPlan
  repeat' (first | exact Bn.z | exact Bn.o | refine Bn.ite ?_ ?_)
theorem zb_X4_isPlan (a : Int32) : narrow .boolean (.int (f_X4_isPlan a)) = .int (f_X4_isPlan a) := zb01 (bn_X4_isPlan a)
theorem hd_X4_isPlan : yX4_isPlan.cls ≠ "java/lang/invoke/MethodHandle" ∧ yX4_isPlan.cls ≠ "java/lang/invoke/VarHandle" ∧ (parseMethodDescriptor yX4_isPlan.desc).map (fun d => d.parameters.length) = some 1 := by decide +kernel
set_option maxHeartbeats 4000000 in
set_option maxRecDepth 20000 in
theorem c_X4_isPlan (l : Launch) (g : Gy) (ws : va_W) (a : Int32)  : Con l g yX4_isPlan cX4_isPlan 1 (some .boolean) (rmL 0) [.int a] ws (Det (some (.int (f_X4_isPlan a))) ws) := by
  refine Con.of (by decide) (Nat.le_of_ble_eq_true rfl) ?_
  intro x h e1 e2 e3 e4 e5 hr
  subst e1 e2
  have h : Ok x cX4_isPlan "SafeDesk" (some .boolean) := h
  have hR : RmOk x 0 0 0 := RmOk.of e3 (Nat.le_refl _) (Nat.le_refl _)
  obtain ⟨out, ho⟩ : ∃ o, f_X4_isPlan a = o := ⟨_, rfl⟩
  rw [ho] at hr
  unfold f_X4_isPlan at ho
  show J x 0 0 _ 0 [(0, .int a)] []
  refine J_iload_n (pc := 0) (n := 0) (i := 0) h 0 rfl rfl dX4_isPlan_0 ?_
  refine J_if_lt (pc := 1) h 14 (by decide) dX4_isPlan_1 (fun c1 => ?_) (fun c1 => ?_)
  · replace ho := (if_pos c1).symm.trans ho
    refine J_iconst (pc := 14) h (0) rfl dX4_isPlan_14 ?_
    exact J_zret (pc := 15) h rfl hr (by subst ho; exact ⟨rfl, rfl⟩) dX4_isPlan_15
  · replace ho := (if_neg c1).symm.trans ho
    refine J_iload_n (pc := 4) (n := 0) (i := 0) h 0 rfl rfl dX4_isPlan_4 ?_
    refine J_bipush (pc := 5) h (6) rfl dX4_isPlan_5 ?_
    refine J_icmp_ge (pc := 7) h 14 (by decide) dX4_isPlan_7 (fun c2 => ?_) (fun c2 => ?_)
    · replace ho := (if_pos c2).symm.trans ho
      refine J_iconst (pc := 14) h (0) rfl dX4_isPlan_14 ?_
      exact J_zret (pc := 15) h rfl hr (by subst ho; exact ⟨rfl, rfl⟩) dX4_isPlan_15
    · replace ho := (if_neg c2).symm.trans ho
      refine J_iconst (pc := 10) h (1) rfl dX4_isPlan_10 ?_
      refine J_goto (pc := 11) h 15 (by decide) dX4_isPlan_11 ?_
      exact J_zret (pc := 15) h rfl hr (by subst ho; exact ⟨rfl, rfl⟩) dX4_isPlan_15
def f_X4_isBlock (a : Int32) : Int32 := (if a < 1 then 0 else (if 11 < a then 0 else 1))
theorem bn_X4_isBlock (a : Int32) : Bn (f_X4_isBlock a) := by
  unfold f_X4_isBlock
  repeat' (first | exact Bn.z | exact Bn.o | refine Bn.ite ?_ ?_)
theorem zb_X4_isBlock (a : Int32) : narrow .boolean (.int (f_X4_isBlock a)) = .int (f_X4_isBlock a) := zb01 (bn_X4_isBlock a)
theorem hd_X4_isBlock : yX4_isBlock.cls ≠ "java/lang/invoke/MethodHandle" ∧ yX4_isBlock.cls ≠ "java/lang/invoke/VarHandle" ∧ (parseMethodDescriptor yX4_isBlock.desc).map (fun d => d.parameters.length) = some 1 := by decide +kernel
set_option maxHeartbeats 4000000 in
set_option maxRecDepth 20000 in
theorem c_X4_isBlock (l : Launch) (g : Gy) (ws : va_W) (a : Int32)  : Con l g yX4_isBlock cX4_isBlock 1 (some .boolean) (rmL 0) [.int a] ws (Det (some (.int (f_X4_isBlock a))) ws) := by
  refine Con.of (by decide) (Nat.le_of_ble_eq_true rfl) ?_
  intro x h e1 e2 e3 e4 e5 hr
  subst e1 e2
  have h : Ok x cX4_isBlock "SafeDesk" (some .boolean) := h
  have hR : RmOk x 0 0 0 := RmOk.of e3 (Nat.le_refl _) (Nat.le_refl _)
  obtain ⟨out, ho⟩ : ∃ o, f_X4_isBlock a = o := ⟨_, rfl⟩
  rw [ho] at hr
  unfold f_X4_isBlock at ho
  show J x 0 0 _ 0 [(0, .int a)] []
  refine J_iload_n (pc := 0) (n := 0) (i := 0) h 0 rfl rfl dX4_isBlock_0 ?_
  refine J_iconst (pc := 1) h (1) rfl dX4_isBlock_1 ?_
  refine J_icmp_lt (pc := 2) h 15 (by decide) dX4_isBlock_2 (fun c1 => ?_) (fun c1 => ?_)
  · replace ho := (if_pos c1).symm.trans ho
    refine J_iconst (pc := 15) h (0) rfl dX4_isBlock_15 ?_
    exact J_zret (pc := 16) h rfl hr (by subst ho; exact ⟨rfl, rfl⟩) dX4_isBlock_16
  · replace ho := (if_neg c1).symm.trans ho
    refine J_iload_n (pc := 5) (n := 0) (i := 0) h 0 rfl rfl dX4_isBlock_5 ?_
    refine J_bipush (pc := 6) h (11) rfl dX4_isBlock_6 ?_
    refine J_icmp_gt (pc := 8) h 15 (by decide) dX4_isBlock_8 (fun c2 => ?_) (fun c2 => ?_)
    · replace ho := (if_pos c2).symm.trans ho
      refine J_iconst (pc := 15) h (0) rfl dX4_isBlock_15 ?_
      exact J_zret (pc := 16) h rfl hr (by subst ho; exact ⟨rfl, rfl⟩) dX4_isBlock_16
    · replace ho := (if_neg c2).symm.trans ho
      refine J_iconst (pc := 11) h (1) rfl dX4_isBlock_11 ?_
      refine J_goto (pc := 12) h 16 (by decide) dX4_isBlock_12 ?_
      exact J_zret (pc := 16) h rfl hr (by subst ho; exact ⟨rfl, rfl⟩) dX4_isBlock_16
def f_X4_isOwnFailure (a : Int32) : Int32 := (if a < 20 then 0 else (if 23 < a then 0 else 1))
theorem bn_X4_isOwnFailure (a : Int32) : Bn (f_X4_isOwnFailure a) := by
  unfold f_X4_isOwnFailure
  repeat' (first | exact Bn.z | exact Bn.o | refine Bn.ite ?_ ?_)
theorem zb_X4_isOwnFailure (a : Int32) : narrow .boolean (.int (f_X4_isOwnFailure a)) = .int (f_X4_isOwnFailure a) := zb01 (bn_X4_isOwnFailure a)
theorem hd_X4_isOwnFailure : yX4_isOwnFailure.cls ≠ "java/lang/invoke/MethodHandle" ∧ yX4_isOwnFailure.cls ≠ "java/lang/invoke/VarHandle" ∧ (parseMethodDescriptor yX4_isOwnFailure.desc).map (fun d => d.parameters.length) = some 1 := by decide +kernel
set_option maxHeartbeats 4000000 in
set_option maxRecDepth 20000 in
theorem c_X4_isOwnFailure (l : Launch) (g : Gy) (ws : va_W) (a : Int32)  : Con l g yX4_isOwnFailure cX4_isOwnFailure 1 (some .boolean) (rmL 0) [.int a] ws (Det (some (.int (f_X4_isOwnFailure a))) ws) := by
  refine Con.of (by decide) (Nat.le_of_ble_eq_true rfl) ?_
  intro x h e1 e2 e3 e4 e5 hr
  subst e1 e2
  have h : Ok x cX4_isOwnFailure "SafeDesk" (some .boolean) := h
  have hR : RmOk x 0 0 0 := RmOk.of e3 (Nat.le_refl _) (Nat.le_refl _)
  obtain ⟨out, ho⟩ : ∃ o, f_X4_isOwnFailure a = o := ⟨_, rfl⟩
  rw [ho] at hr
  unfold f_X4_isOwnFailure at ho
  show J x 0 0 _ 0 [(0, .int a)] []
  refine J_iload_n (pc := 0) (n := 0) (i := 0) h 0 rfl rfl dX4_isOwnFailure_0 ?_
  refine J_bipush (pc := 1) h (20) rfl dX4_isOwnFailure_1 ?_
  refine J_icmp_lt (pc := 3) h 16 (by decide) dX4_isOwnFailure_3 (fun c1 => ?_) (fun c1 => ?_)
  · replace ho := (if_pos c1).symm.trans ho
    refine J_iconst (pc := 16) h (0) rfl dX4_isOwnFailure_16 ?_
    exact J_zret (pc := 17) h rfl hr (by subst ho; exact ⟨rfl, rfl⟩) dX4_isOwnFailure_17
  · replace ho := (if_neg c1).symm.trans ho
    refine J_iload_n (pc := 6) (n := 0) (i := 0) h 0 rfl rfl dX4_isOwnFailure_6 ?_
    refine J_bipush (pc := 7) h (23) rfl dX4_isOwnFailure_7 ?_
    refine J_icmp_gt (pc := 9) h 16 (by decide) dX4_isOwnFailure_9 (fun c2 => ?_) (fun c2 => ?_)
    · replace ho := (if_pos c2).symm.trans ho
      refine J_iconst (pc := 16) h (0) rfl dX4_isOwnFailure_16 ?_
      exact J_zret (pc := 17) h rfl hr (by subst ho; exact ⟨rfl, rfl⟩) dX4_isOwnFailure_17
    · replace ho := (if_neg c2).symm.trans ho
      refine J_iconst (pc := 12) h (1) rfl dX4_isOwnFailure_12 ?_
      refine J_goto (pc := 13) h 17 (by decide) dX4_isOwnFailure_13 ?_
      exact J_zret (pc := 17) h rfl hr (by subst ho; exact ⟨rfl, rfl⟩) dX4_isOwnFailure_17
def f_X4_canBeHeld (a : Int32) : Int32 := (if a = 0 then 1 else (if a = 1 then 1 else (if a = 6 then 1 else (if a = 7 then 1 else (if a = 30 then 1 else (if f_X4_isOwnFailure a = 0 then 0 else 1))))))
theorem bn_X4_canBeHeld (a : Int32) : Bn (f_X4_canBeHeld a) := by
  unfold f_X4_canBeHeld
  repeat' (first | exact Bn.z | exact Bn.o | refine Bn.ite ?_ ?_)
theorem zb_X4_canBeHeld (a : Int32) : narrow .boolean (.int (f_X4_canBeHeld a)) = .int (f_X4_canBeHeld a) := zb01 (bn_X4_canBeHeld a)
theorem hd_X4_canBeHeld : yX4_canBeHeld.cls ≠ "java/lang/invoke/MethodHandle" ∧ yX4_canBeHeld.cls ≠ "java/lang/invoke/VarHandle" ∧ (parseMethodDescriptor yX4_canBeHeld.desc).map (fun d => d.parameters.length) = some 1 := by decide +kernel
set_option maxHeartbeats 4000000 in
set_option maxRecDepth 20000 in
theorem c_X4_canBeHeld (l : Launch) (g : Gy) (ws : va_W) (a : Int32)  : Con l g yX4_canBeHeld cX4_canBeHeld 1 (some .boolean) (rmL 1) [.int a] ws (Det (some (.int (f_X4_canBeHeld a))) ws) := by
  refine Con.of (by decide) (Nat.le_of_ble_eq_true rfl) ?_
  intro x h e1 e2 e3 e4 e5 hr
  subst e1 e2
  have h : Ok x cX4_canBeHeld "SafeDesk" (some .boolean) := h
  have hR : RmOk x 1 0 0 := RmOk.of e3 (Nat.le_refl _) (Nat.le_refl _)
  obtain ⟨out, ho⟩ : ∃ o, f_X4_canBeHeld a = o := ⟨_, rfl⟩
  rw [ho] at hr
  unfold f_X4_canBeHeld at ho
  show J x 0 0 _ 0 [(0, .int a)] []
  refine J_iload_n (pc := 0) (n := 0) (i := 0) h 0 rfl rfl dX4_canBeHeld_0 ?_
  refine J_if_eq (pc := 1) h 34 (by decide) dX4_canBeHeld_1 (fun c1 => ?_) (fun c1 => ?_)
  · replace ho := (if_pos c1).symm.trans ho
    refine J_iconst (pc := 34) h (1) rfl dX4_canBeHeld_34 ?_
    refine J_goto (pc := 35) h 39 (by decide) dX4_canBeHeld_35 ?_
    exact J_zret (pc := 39) h rfl hr (by subst ho; exact ⟨rfl, rfl⟩) dX4_canBeHeld_39
  · replace ho := (if_neg c1).symm.trans ho
    refine J_iload_n (pc := 4) (n := 0) (i := 0) h 0 rfl rfl dX4_canBeHeld_4 ?_
    refine J_iconst (pc := 5) h (1) rfl dX4_canBeHeld_5 ?_
    refine J_icmp_eq (pc := 6) h 34 (by decide) dX4_canBeHeld_6 (fun c2 => ?_) (fun c2 => ?_)
    · replace ho := (if_pos c2).symm.trans ho
      refine J_iconst (pc := 34) h (1) rfl dX4_canBeHeld_34 ?_
      refine J_goto (pc := 35) h 39 (by decide) dX4_canBeHeld_35 ?_
      exact J_zret (pc := 39) h rfl hr (by subst ho; exact ⟨rfl, rfl⟩) dX4_canBeHeld_39
    · replace ho := (if_neg c2).symm.trans ho
      refine J_iload_n (pc := 9) (n := 0) (i := 0) h 0 rfl rfl dX4_canBeHeld_9 ?_
      refine J_bipush (pc := 10) h (6) rfl dX4_canBeHeld_10 ?_
      refine J_icmp_eq (pc := 12) h 34 (by decide) dX4_canBeHeld_12 (fun c3 => ?_) (fun c3 => ?_)
      · replace ho := (if_pos c3).symm.trans ho
        refine J_iconst (pc := 34) h (1) rfl dX4_canBeHeld_34 ?_
        refine J_goto (pc := 35) h 39 (by decide) dX4_canBeHeld_35 ?_
        exact J_zret (pc := 39) h rfl hr (by subst ho; exact ⟨rfl, rfl⟩) dX4_canBeHeld_39
      · replace ho := (if_neg c3).symm.trans ho
        refine J_iload_n (pc := 15) (n := 0) (i := 0) h 0 rfl rfl dX4_canBeHeld_15 ?_
        refine J_bipush (pc := 16) h (7) rfl dX4_canBeHeld_16 ?_
        refine J_icmp_eq (pc := 18) h 34 (by decide) dX4_canBeHeld_18 (fun c4 => ?_) (fun c4 => ?_)
        · replace ho := (if_pos c4).symm.trans ho
          refine J_iconst (pc := 34) h (1) rfl dX4_canBeHeld_34 ?_
          refine J_goto (pc := 35) h 39 (by decide) dX4_canBeHeld_35 ?_
          exact J_zret (pc := 39) h rfl hr (by subst ho; exact ⟨rfl, rfl⟩) dX4_canBeHeld_39
        · replace ho := (if_neg c4).symm.trans ho
          refine J_iload_n (pc := 21) (n := 0) (i := 0) h 0 rfl rfl dX4_canBeHeld_21 ?_
          refine J_bipush (pc := 22) h (30) rfl dX4_canBeHeld_22 ?_
          refine J_icmp_eq (pc := 24) h 34 (by decide) dX4_canBeHeld_24 (fun c5 => ?_) (fun c5 => ?_)
          · replace ho := (if_pos c5).symm.trans ho
            refine J_iconst (pc := 34) h (1) rfl dX4_canBeHeld_34 ?_
            refine J_goto (pc := 35) h 39 (by decide) dX4_canBeHeld_35 ?_
            exact J_zret (pc := 39) h rfl hr (by subst ho; exact ⟨rfl, rfl⟩) dX4_canBeHeld_39
          · replace ho := (if_neg c5).symm.trans ho
            refine J_iload_n (pc := 27) (n := 0) (i := 0) h 0 rfl rfl dX4_canBeHeld_27 ?_
            refine J_cS (pc := 28) h hR (by decide) (c_X4_isOwnFailure _ _ _ a ) (by decide) m_163 m_164 m_1 m_165 hd_X4_isOwnFailure rfl rfl (Nat.le_of_ble_eq_true rfl) [.int (f_X4_isOwnFailure a)] rfl dX4_canBeHeld_28 ?_
            refine J_if_eq (pc := 31) h 38 (by decide) dX4_canBeHeld_31 (fun c6 => ?_) (fun c6 => ?_)
            · replace ho := (if_pos c6).symm.trans ho
              refine J_iconst (pc := 38) h (0) rfl dX4_canBeHeld_38 ?_
              exact J_zret (pc := 39) h rfl hr (by subst ho; exact ⟨rfl, rfl⟩) dX4_canBeHeld_39
            · replace ho := (if_neg c6).symm.trans ho
              refine J_iconst (pc := 34) h (1) rfl dX4_canBeHeld_34 ?_
              refine J_goto (pc := 35) h 39 (by decide) dX4_canBeHeld_35 ?_
              exact J_zret (pc := 39) h rfl hr (by subst ho; exact ⟨rfl, rfl⟩) dX4_canBeHeld_39
def f_X4_isStep (kd : Int32) (a : Int32) (b : Int32) : Int32 := (if kd = 0 then (if f_X4_isRoom a = 0 then 0 else (if f_X4_isBlock b = 0 then 0 else 1)) else (if kd = 1 then (if f_X4_canBeHeld a = 0 then 0 else (if f_X4_isBlock b = 0 then 0 else 1)) else (if kd = 2 then (f_X4_isRoom a) else (if kd = 3 then (f_X4_isRoom a) else (if kd = 4 then (f_X4_isRoom a) else (if kd = 5 then (f_X4_isRoom a) else (if kd = 6 then (f_X4_isRoom a) else (if kd = 7 then (f_X4_isRoom a) else (if kd = 8 then 1 else (if kd = 9 then (f_X4_isOwnFailure a) else (if kd = 10 then 1 else (if kd = 11 then 1 else (if kd = 12 then (f_X4_isPlan a) else (if kd = 13 then (f_X4_isRoom a) else 0))))))))))))))
theorem bn_X4_isStep (kd : Int32) (a : Int32) (b : Int32) : Bn (f_X4_isStep kd a b) := by
  unfold f_X4_isStep
  repeat' (first | exact Bn.z | exact Bn.o | exact bn_X4_isOwnFailure _ | exact bn_X4_isPlan _ | exact bn_X4_isRoom _ | refine Bn.ite ?_ ?_)
theorem zb_X4_isStep (kd : Int32) (a : Int32) (b : Int32) : narrow .boolean (.int (f_X4_isStep kd a b)) = .int (f_X4_isStep kd a b) := zb01 (bn_X4_isStep kd a b)
theorem hd_X4_isStep : yX4_isStep.cls ≠ "java/lang/invoke/MethodHandle" ∧ yX4_isStep.cls ≠ "java/lang/invoke/VarHandle" ∧ (parseMethodDescriptor yX4_isStep.desc).map (fun d => d.parameters.length) = some 3 := by decide +kernel
set_option maxHeartbeats 4000000 in
set_option maxRecDepth 20000 in
theorem c_X4_isStep (l : Launch) (g : Gy) (ws : va_W) (kd : Int32) (a : Int32) (b : Int32)  : Con l g yX4_isStep cX4_isStep 3 (some .boolean) (rmL 2) [.int kd, .int a, .int b] ws (Det (some (.int (f_X4_isStep kd a b))) ws) := by
  refine Con.of (by decide) (Nat.le_of_ble_eq_true rfl) ?_
  intro x h e1 e2 e3 e4 e5 hr
  subst e1 e2
  have h : Ok x cX4_isStep "SafeDesk" (some .boolean) := h
  have hR : RmOk x 2 0 0 := RmOk.of e3 (Nat.le_refl _) (Nat.le_refl _)
  obtain ⟨out, ho⟩ : ∃ o, f_X4_isStep kd a b = o := ⟨_, rfl⟩
  rw [ho] at hr
  unfold f_X4_isStep at ho
  show J x 0 0 _ 0 [(0, .int kd), (1, .int a), (2, .int b)] []
  refine J_iload_n (pc := 0) (n := 0) (i := 0) h 0 rfl rfl dX4_isStep_0 ?_
  by_cases c1 : kd = 0
  · replace ho := (if_pos c1).symm.trans ho
    refine J_tabIn (pc := 1) h (0) 72 c1 (by decide) (by decide) rfl (by decide) dX4_isStep_1 ?_
    refine J_iload_n (pc := 72) (n := 1) (i := 1) h 1 rfl rfl dX4_isStep_72 ?_
    refine J_cS (pc := 73) h hR (by decide) (c_X4_isRoom _ _ _ a ) (by decide) m_75 m_76 m_1 m_77 hd_X4_isRoom rfl rfl (Nat.le_of_ble_eq_true rfl) [.int (f_X4_isRoom a)] rfl dX4_isStep_73 ?_
    refine J_if_eq (pc := 76) h 90 (by decide) dX4_isStep_76 (fun c2 => ?_) (fun c2 => ?_)
    · replace ho := (if_pos c2).symm.trans ho
      refine J_iconst (pc := 90) h (0) rfl dX4_isStep_90 ?_
      exact J_zret (pc := 91) h rfl hr (by subst ho; exact ⟨rfl, rfl⟩) dX4_isStep_91
    · replace ho := (if_neg c2).symm.trans ho
      refine J_iload_n (pc := 79) (n := 2) (i := 2) h 2 rfl rfl dX4_isStep_79 ?_
      refine J_cS (pc := 80) h hR (by decide) (c_X4_isBlock _ _ _ b ) (by decide) m_157 m_158 m_1 m_159 hd_X4_isBlock rfl rfl (Nat.le_of_ble_eq_true rfl) [.int (f_X4_isBlock b)] rfl dX4_isStep_80 ?_
      refine J_if_eq (pc := 83) h 90 (by decide) dX4_isStep_83 (fun c3 => ?_) (fun c3 => ?_)
      · replace ho := (if_pos c3).symm.trans ho
        refine J_iconst (pc := 90) h (0) rfl dX4_isStep_90 ?_
        exact J_zret (pc := 91) h rfl hr (by subst ho; exact ⟨rfl, rfl⟩) dX4_isStep_91
      · replace ho := (if_neg c3).symm.trans ho
        refine J_iconst (pc := 86) h (1) rfl dX4_isStep_86 ?_
        refine J_goto (pc := 87) h 91 (by decide) dX4_isStep_87 ?_
        exact J_zret (pc := 91) h rfl hr (by subst ho; exact ⟨rfl, rfl⟩) dX4_isStep_91
  replace ho := (if_neg c1).symm.trans ho
  by_cases c4 : kd = 1
  · replace ho := (if_pos c4).symm.trans ho
    refine J_tabIn (pc := 1) h (1) 92 c4 (by decide) (by decide) rfl (by decide) dX4_isStep_1 ?_
    refine J_iload_n (pc := 92) (n := 1) (i := 1) h 1 rfl rfl dX4_isStep_92 ?_
    refine J_cS (pc := 93) h hR (by decide) (c_X4_canBeHeld _ _ _ a ) (by decide) m_160 m_161 m_1 m_162 hd_X4_canBeHeld rfl rfl (Nat.le_of_ble_eq_true rfl) [.int (f_X4_canBeHeld a)] rfl dX4_isStep_93 ?_
    refine J_if_eq (pc := 96) h 110 (by decide) dX4_isStep_96 (fun c5 => ?_) (fun c5 => ?_)
    · replace ho := (if_pos c5).symm.trans ho
      refine J_iconst (pc := 110) h (0) rfl dX4_isStep_110 ?_
      exact J_zret (pc := 111) h rfl hr (by subst ho; exact ⟨rfl, rfl⟩) dX4_isStep_111
    · replace ho := (if_neg c5).symm.trans ho
      refine J_iload_n (pc := 99) (n := 2) (i := 2) h 2 rfl rfl dX4_isStep_99 ?_
      refine J_cS (pc := 100) h hR (by decide) (c_X4_isBlock _ _ _ b ) (by decide) m_157 m_158 m_1 m_159 hd_X4_isBlock rfl rfl (Nat.le_of_ble_eq_true rfl) [.int (f_X4_isBlock b)] rfl dX4_isStep_100 ?_
      refine J_if_eq (pc := 103) h 110 (by decide) dX4_isStep_103 (fun c6 => ?_) (fun c6 => ?_)
      · replace ho := (if_pos c6).symm.trans ho
        refine J_iconst (pc := 110) h (0) rfl dX4_isStep_110 ?_
        exact J_zret (pc := 111) h rfl hr (by subst ho; exact ⟨rfl, rfl⟩) dX4_isStep_111
      · replace ho := (if_neg c6).symm.trans ho
        refine J_iconst (pc := 106) h (1) rfl dX4_isStep_106 ?_
        refine J_goto (pc := 107) h 111 (by decide) dX4_isStep_107 ?_
        exact J_zret (pc := 111) h rfl hr (by subst ho; exact ⟨rfl, rfl⟩) dX4_isStep_111
  replace ho := (if_neg c4).symm.trans ho
  by_cases c7 : kd = 2
  · replace ho := (if_pos c7).symm.trans ho
    refine J_tabIn (pc := 1) h (2) 112 c7 (by decide) (by decide) rfl (by decide) dX4_isStep_1 ?_
    refine J_iload_n (pc := 112) (n := 1) (i := 1) h 1 rfl rfl dX4_isStep_112 ?_
    refine J_cS (pc := 113) h hR (by decide) (c_X4_isRoom _ _ _ a ) (by decide) m_75 m_76 m_1 m_77 hd_X4_isRoom rfl rfl (Nat.le_of_ble_eq_true rfl) [.int (f_X4_isRoom a)] rfl dX4_isStep_113 ?_
    exact J_zret (pc := 116) h (zb_X4_isRoom _) hr (by subst ho; exact ⟨rfl, rfl⟩) dX4_isStep_116
  replace ho := (if_neg c7).symm.trans ho
  by_cases c8 : kd = 3
  · replace ho := (if_pos c8).symm.trans ho
    refine J_tabIn (pc := 1) h (3) 112 c8 (by decide) (by decide) rfl (by decide) dX4_isStep_1 ?_
    refine J_iload_n (pc := 112) (n := 1) (i := 1) h 1 rfl rfl dX4_isStep_112 ?_
    refine J_cS (pc := 113) h hR (by decide) (c_X4_isRoom _ _ _ a ) (by decide) m_75 m_76 m_1 m_77 hd_X4_isRoom rfl rfl (Nat.le_of_ble_eq_true rfl) [.int (f_X4_isRoom a)] rfl dX4_isStep_113 ?_
    exact J_zret (pc := 116) h (zb_X4_isRoom _) hr (by subst ho; exact ⟨rfl, rfl⟩) dX4_isStep_116
  replace ho := (if_neg c8).symm.trans ho
  by_cases c9 : kd = 4
  · replace ho := (if_pos c9).symm.trans ho
    refine J_tabIn (pc := 1) h (4) 112 c9 (by decide) (by decide) rfl (by decide) dX4_isStep_1 ?_
    refine J_iload_n (pc := 112) (n := 1) (i := 1) h 1 rfl rfl dX4_isStep_112 ?_
    refine J_cS (pc := 113) h hR (by decide) (c_X4_isRoom _ _ _ a ) (by decide) m_75 m_76 m_1 m_77 hd_X4_isRoom rfl rfl (Nat.le_of_ble_eq_true rfl) [.int (f_X4_isRoom a)] rfl dX4_isStep_113 ?_
    exact J_zret (pc := 116) h (zb_X4_isRoom _) hr (by subst ho; exact ⟨rfl, rfl⟩) dX4_isStep_116
  replace ho := (if_neg c9).symm.trans ho
  by_cases c10 : kd = 5
  · replace ho := (if_pos c10).symm.trans ho
    refine J_tabIn (pc := 1) h (5) 112 c10 (by decide) (by decide) rfl (by decide) dX4_isStep_1 ?_
    refine J_iload_n (pc := 112) (n := 1) (i := 1) h 1 rfl rfl dX4_isStep_112 ?_
    refine J_cS (pc := 113) h hR (by decide) (c_X4_isRoom _ _ _ a ) (by decide) m_75 m_76 m_1 m_77 hd_X4_isRoom rfl rfl (Nat.le_of_ble_eq_true rfl) [.int (f_X4_isRoom a)] rfl dX4_isStep_113 ?_
    exact J_zret (pc := 116) h (zb_X4_isRoom _) hr (by subst ho; exact ⟨rfl, rfl⟩) dX4_isStep_116
  replace ho := (if_neg c10).symm.trans ho
  by_cases c11 : kd = 6
  · replace ho := (if_pos c11).symm.trans ho
    refine J_tabIn (pc := 1) h (6) 112 c11 (by decide) (by decide) rfl (by decide) dX4_isStep_1 ?_
    refine J_iload_n (pc := 112) (n := 1) (i := 1) h 1 rfl rfl dX4_isStep_112 ?_
    refine J_cS (pc := 113) h hR (by decide) (c_X4_isRoom _ _ _ a ) (by decide) m_75 m_76 m_1 m_77 hd_X4_isRoom rfl rfl (Nat.le_of_ble_eq_true rfl) [.int (f_X4_isRoom a)] rfl dX4_isStep_113 ?_
    exact J_zret (pc := 116) h (zb_X4_isRoom _) hr (by subst ho; exact ⟨rfl, rfl⟩) dX4_isStep_116
  replace ho := (if_neg c11).symm.trans ho
  by_cases c12 : kd = 7
  · replace ho := (if_pos c12).symm.trans ho
    refine J_tabIn (pc := 1) h (7) 112 c12 (by decide) (by decide) rfl (by decide) dX4_isStep_1 ?_
    refine J_iload_n (pc := 112) (n := 1) (i := 1) h 1 rfl rfl dX4_isStep_112 ?_
    refine J_cS (pc := 113) h hR (by decide) (c_X4_isRoom _ _ _ a ) (by decide) m_75 m_76 m_1 m_77 hd_X4_isRoom rfl rfl (Nat.le_of_ble_eq_true rfl) [.int (f_X4_isRoom a)] rfl dX4_isStep_113 ?_
    exact J_zret (pc := 116) h (zb_X4_isRoom _) hr (by subst ho; exact ⟨rfl, rfl⟩) dX4_isStep_116
  replace ho := (if_neg c12).symm.trans ho
  by_cases c13 : kd = 8
  · replace ho := (if_pos c13).symm.trans ho
    refine J_tabIn (pc := 1) h (8) 117 c13 (by decide) (by decide) rfl (by decide) dX4_isStep_1 ?_
    refine J_iconst (pc := 117) h (1) rfl dX4_isStep_117 ?_
    exact J_zret (pc := 118) h rfl hr (by subst ho; exact ⟨rfl, rfl⟩) dX4_isStep_118
  replace ho := (if_neg c13).symm.trans ho
  by_cases c14 : kd = 9
  · replace ho := (if_pos c14).symm.trans ho
    refine J_tabIn (pc := 1) h (9) 119 c14 (by decide) (by decide) rfl (by decide) dX4_isStep_1 ?_
    refine J_iload_n (pc := 119) (n := 1) (i := 1) h 1 rfl rfl dX4_isStep_119 ?_
    refine J_cS (pc := 120) h hR (by decide) (c_X4_isOwnFailure _ _ _ a ) (by decide) m_163 m_164 m_1 m_165 hd_X4_isOwnFailure rfl rfl (Nat.le_of_ble_eq_true rfl) [.int (f_X4_isOwnFailure a)] rfl dX4_isStep_120 ?_
    exact J_zret (pc := 123) h (zb_X4_isOwnFailure _) hr (by subst ho; exact ⟨rfl, rfl⟩) dX4_isStep_123
  replace ho := (if_neg c14).symm.trans ho
  by_cases c15 : kd = 10
  · replace ho := (if_pos c15).symm.trans ho
    refine J_tabIn (pc := 1) h (10) 117 c15 (by decide) (by decide) rfl (by decide) dX4_isStep_1 ?_
    refine J_iconst (pc := 117) h (1) rfl dX4_isStep_117 ?_
    exact J_zret (pc := 118) h rfl hr (by subst ho; exact ⟨rfl, rfl⟩) dX4_isStep_118
  replace ho := (if_neg c15).symm.trans ho
  by_cases c16 : kd = 11
  · replace ho := (if_pos c16).symm.trans ho
    refine J_tabIn (pc := 1) h (11) 117 c16 (by decide) (by decide) rfl (by decide) dX4_isStep_1 ?_
    refine J_iconst (pc := 117) h (1) rfl dX4_isStep_117 ?_
    exact J_zret (pc := 118) h rfl hr (by subst ho; exact ⟨rfl, rfl⟩) dX4_isStep_118
  replace ho := (if_neg c16).symm.trans ho
  by_cases c17 : kd = 12
  · replace ho := (if_pos c17).symm.trans ho
    refine J_tabIn (pc := 1) h (12) 124 c17 (by decide) (by decide) rfl (by decide) dX4_isStep_1 ?_
    refine J_iload_n (pc := 124) (n := 1) (i := 1) h 1 rfl rfl dX4_isStep_124 ?_
    refine J_cS (pc := 125) h hR (by decide) (c_X4_isPlan _ _ _ a ) (by decide) m_151 m_152 m_1 m_153 hd_X4_isPlan rfl rfl (Nat.le_of_ble_eq_true rfl) [.int (f_X4_isPlan a)] rfl dX4_isStep_125 ?_
    exact J_zret (pc := 128) h (zb_X4_isPlan _) hr (by subst ho; exact ⟨rfl, rfl⟩) dX4_isStep_128
  replace ho := (if_neg c17).symm.trans ho
  by_cases c18 : kd = 13
  · replace ho := (if_pos c18).symm.trans ho
    refine J_tabIn (pc := 1) h (13) 112 c18 (by decide) (by decide) rfl (by decide) dX4_isStep_1 ?_
    refine J_iload_n (pc := 112) (n := 1) (i := 1) h 1 rfl rfl dX4_isStep_112 ?_
    refine J_cS (pc := 113) h hR (by decide) (c_X4_isRoom _ _ _ a ) (by decide) m_75 m_76 m_1 m_77 hd_X4_isRoom rfl rfl (Nat.le_of_ble_eq_true rfl) [.int (f_X4_isRoom a)] rfl dX4_isStep_113 ?_
    exact J_zret (pc := 116) h (zb_X4_isRoom _) hr (by subst ho; exact ⟨rfl, rfl⟩) dX4_isStep_116
  replace ho := (if_neg c18).symm.trans ho
  refine J_tabOut (pc := 1) h 129 (by have zc1 := ne_toI c1 (n := 0) rfl; have zc4 := ne_toI c4 (n := 1) rfl; have zc7 := ne_toI c7 (n := 2) rfl; have zc8 := ne_toI c8 (n := 3) rfl; have zc9 := ne_toI c9 (n := 4) rfl; have zc10 := ne_toI c10 (n := 5) rfl; have zc11 := ne_toI c11 (n := 6) rfl; have zc12 := ne_toI c12 (n := 7) rfl; have zc13 := ne_toI c13 (n := 8) rfl; have zc14 := ne_toI c14 (n := 9) rfl; have zc15 := ne_toI c15 (n := 10) rfl; have zc16 := ne_toI c16 (n := 11) rfl; have zc17 := ne_toI c17 (n := 12) rfl; have zc18 := ne_toI c18 (n := 13) rfl; omega) (by decide) dX4_isStep_1 ?_
  refine J_iconst (pc := 129) h (0) rfl dX4_isStep_129 ?_
  exact J_zret (pc := 130) h rfl hr (by subst ho; exact ⟨rfl, rfl⟩) dX4_isStep_130
def f_X5_in (a : Int32) (b : Int32) (c : Int32) : Int32 := (if a < b then 0 else (if c < a then 0 else 1))
theorem bn_X5_in (a : Int32) (b : Int32) (c : Int32) : Bn (f_X5_in a b c) := by
  unfold f_X5_in
  repeat' (first | exact Bn.z | exact Bn.o | refine Bn.ite ?_ ?_)
theorem zb_X5_in (a : Int32) (b : Int32) (c : Int32) : narrow .boolean (.int (f_X5_in a b c)) = .int (f_X5_in a b c) := zb01 (bn_X5_in a b c)
theorem hd_X5_in : yX5_in.cls ≠ "java/lang/invoke/MethodHandle" ∧ yX5_in.cls ≠ "java/lang/invoke/VarHandle" ∧ (parseMethodDescriptor yX5_in.desc).map (fun d => d.parameters.length) = some 3 := by decide +kernel
set_option maxHeartbeats 4000000 in
set_option maxRecDepth 20000 in
theorem c_X5_in (l : Launch) (g : Gy) (ws : va_W) (a : Int32) (b : Int32) (c : Int32)  : Con l g yX5_in cX5_in 3 (some .boolean) (rmL 0) [.int a, .int b, .int c] ws (Det (some (.int (f_X5_in a b c))) ws) := by
  refine Con.of (by decide) (Nat.le_of_ble_eq_true rfl) ?_
  intro x h e1 e2 e3 e4 e5 hr
  subst e1 e2
  have h : Ok x cX5_in "SafeDeskModel" (some .boolean) := h
  have hR : RmOk x 0 0 0 := RmOk.of e3 (Nat.le_refl _) (Nat.le_refl _)
  obtain ⟨out, ho⟩ : ∃ o, f_X5_in a b c = o := ⟨_, rfl⟩
  rw [ho] at hr
  unfold f_X5_in at ho
  show J x 0 0 _ 0 [(0, .int a), (1, .int b), (2, .int c)] []
  refine J_iload_n (pc := 0) (n := 0) (i := 0) h 0 rfl rfl dX5_in_0 ?_
  refine J_iload_n (pc := 1) (n := 1) (i := 1) h 1 rfl rfl dX5_in_1 ?_
  refine J_icmp_lt (pc := 2) h 14 (by decide) dX5_in_2 (fun c1 => ?_) (fun c1 => ?_)
  · replace ho := (if_pos c1).symm.trans ho
    refine J_iconst (pc := 14) h (0) rfl dX5_in_14 ?_
    exact J_zret (pc := 15) h rfl hr (by subst ho; exact ⟨rfl, rfl⟩) dX5_in_15
  · replace ho := (if_neg c1).symm.trans ho
    refine J_iload_n (pc := 5) (n := 0) (i := 0) h 0 rfl rfl dX5_in_5 ?_
    refine J_iload_n (pc := 6) (n := 2) (i := 2) h 2 rfl rfl dX5_in_6 ?_
    refine J_icmp_gt (pc := 7) h 14 (by decide) dX5_in_7 (fun c2 => ?_) (fun c2 => ?_)
    · replace ho := (if_pos c2).symm.trans ho
      refine J_iconst (pc := 14) h (0) rfl dX5_in_14 ?_
      exact J_zret (pc := 15) h rfl hr (by subst ho; exact ⟨rfl, rfl⟩) dX5_in_15
    · replace ho := (if_neg c2).symm.trans ho
      refine J_iconst (pc := 10) h (1) rfl dX5_in_10 ?_
      refine J_goto (pc := 11) h 15 (by decide) dX5_in_11 ?_
      exact J_zret (pc := 15) h rfl hr (by subst ho; exact ⟨rfl, rfl⟩) dX5_in_15
