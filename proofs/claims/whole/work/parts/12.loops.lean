theorem ltn {k N : Nat} {b : Int32} (hb : b = nI N) (hk : k < 2 ^ 31) (h : ¬ b ≤ nI k) : k < N := by
  rw [hb] at h
  exact Nat.lt_of_not_le (fun q => h (nI_le q hk))
theorem fr_enter {j k : Nat} (h : k ≠ j) (σ : Sg) : f_X1_enter j σ k = σ k := by
  unfold f_X1_enter
  split <;> simp [up2, va_up, h]
theorem fr_leave {j k : Nat} (h : k ≠ j) (σ : Sg) : f_X1_leave j σ k = σ k := by simp [f_X1_leave, up2, va_up, h]
theorem fr_X1_put {j k : Nat} (h : k ≠ j) (v : Int32) (σ : Sg) : (f_X1_put j v σ).2 k = σ k := by
  unfold f_X1_put
  split
  · simp [fr_enter h, fr_leave h]
  · split <;> simp [fr_enter h, fr_leave h, up2, va_up, h]
theorem fr_X1_worth {j k : Nat} (h : k ≠ j) (σ : Sg) : (f_X1_worth j σ).2 k = σ k := by simp [f_X1_worth, fr_enter h, fr_leave h]
theorem fr_X2_put {j k : Nat} (h : k ≠ j) (v : Int32) (σ : Sg) : (f_X2_put j v σ).2 k = σ k := by simp [f_X2_put, fr_enter h, fr_leave h, fr_X1_put h, up2, va_up, h]
theorem fr_X2_worth {j k : Nat} (h : k ≠ j) (σ : Sg) : (f_X2_worth j σ).2 k = σ k := by simp [f_X2_worth, fr_enter h, fr_leave h, fr_X1_worth h]
theorem fr_X3_put {j k : Nat} (h : k ≠ j) (v : Int32) (σ : Sg) : (f_X3_put j v σ).2 k = σ k := by
  unfold f_X3_put
  split <;> simp [fr_enter h, fr_leave h, fr_X2_put h]
theorem fr_X3_worth {j k : Nat} (h : k ≠ j) (σ : Sg) : (f_X3_worth j σ).2 k = σ k := by simp [f_X3_worth, fr_enter h, fr_leave h, fr_X2_worth h]
theorem fr_vput {j k : Nat} (h : k ≠ j) (v : Int32) (σ : Sg) : (f_vput j v σ).2 k = σ k := by
  unfold f_vput
  split
  · exact fr_X1_put h v σ
  · split
    · exact fr_X2_put h v σ
    · exact fr_X3_put h v σ
theorem fr_vworth {j k : Nat} (h : k ≠ j) (σ : Sg) : (f_vworth j σ).2 k = σ k := by
  unfold f_vworth
  split
  · exact fr_X1_worth h σ
  · split
    · exact fr_X2_worth h σ
    · exact fr_X3_worth h σ
theorem fr_give {j k : Nat} {w : Int32} (h : k ≠ j) (h2 : k ≠ 28 + w.toNatClampNeg) (v : Int32) (σ : Sg) : (f_X1_give j v w σ).2 k = σ k := by
  unfold f_X1_give
  repeat' split
  all_goals simp [fr_enter h, fr_leave h, fr_vput h, fr_vput h2]
theorem RI.of1 {n : Nat} {σ σ' : Sg} (h : RI n σ) (e : σ' 1 = σ 1) : RI n σ' := by
  intro r hr
  rw [e]
  exact h r hr
def lf_X4_roomsWithSafe : Nat → Nat → Int32 → Sg → Int32
  | 0, _, acc, _ => acc
  | m + 1, k, acc, σ => (if 8 ≤ nI k then acc else (if σ 1 ((nI k).toNatClampNeg) = -1 then (lf_X4_roomsWithSafe m (k + 1) acc σ) else (lf_X4_roomsWithSafe m (k + 1) (acc + 1) σ)))
set_option maxHeartbeats 4000000 in
theorem lp_X4_roomsWithSafe {x : Cx} {ad : Nat → Nat} {n : Nat} {σ : Sg} (hN : 28 ≤ n) (h : Ok x cX4_roomsWithSafe "SafeDesk" (some .int)) (e4 : xN x = 3) {out : Int32} (hr : Rt x 0 0 (Det (some (.int out)) (wC (xG x) ad n σ))) : ∀ (m k : Nat) (acc : Int32), k ≤ 8 → k + m = 9 → lf_X4_roomsWithSafe m k acc σ = out → J x 0 0 (wC (xG x) ad n σ) 4 [(2, .int (nI k)), (1, .int acc), (0, .ref (ad 0))] [] := by
  intro m
  induction m with
  | zero => intro k acc hk hm ho; omega
  | succ m ih =>
    intro k acc hk hm ho
    unfold lf_X4_roomsWithSafe at ho
    refine J_iload_n (pc := 4) (n := 2) (i := 2) h 0 rfl rfl dX4_roomsWithSafe_4 ?_
    refine J_bipush (pc := 5) h (8) rfl dX4_roomsWithSafe_5 ?_
    refine J_icmp_ge (pc := 7) h 28 (by decide) dX4_roomsWithSafe_7 (fun c1 => ?_) (fun c1 => ?_)
    · replace ho := (if_pos c1).symm.trans ho
      refine J_iload_n (pc := 28) (n := 1) (i := 1) h 1 rfl rfl dX4_roomsWithSafe_28 ?_
      exact J_iret (pc := 29) h hr (by subst ho; exact ⟨rfl, rfl⟩) dX4_roomsWithSafe_29
    · replace ho := (if_neg c1).symm.trans ho
      refine J_aload_n (pc := 10) (n := 0) (i := 0) h 2 rfl rfl dX4_roomsWithSafe_10 ?_
      refine J_Dr0 (pc := 11) h (by omega) m_43 dX4_roomsWithSafe_11 ?_
      refine J_iload_n (pc := 14) (n := 2) (i := 2) h 0 rfl rfl dX4_roomsWithSafe_14 ?_
      refine J_Ra (pc := 15) h (by omega) (vp_in_nI (ltn (b := 8) (N := 8) rfl (by omega) (by assumption)) (by decide)) (σ 1 ((nI k).toNatClampNeg)) rfl dX4_roomsWithSafe_15 ?_
      refine J_ifnullr (pc := 16) h 22 (by decide) dX4_roomsWithSafe_16 (fun c2 => ?_) (fun c2 => ?_)
      · replace ho := (if_pos c2).symm.trans ho
        refine J_iinc (pc := 22) h 0 ((nI k) + 1) [(2, .int ((nI k) + 1)), (1, .int acc), (0, .ref (ad 0))] rfl rfl (by rw [e4]; decide) rfl dX4_roomsWithSafe_22 ?_
        refine J_goto (pc := 25) h 4 (by decide) dX4_roomsWithSafe_25 ?_
        have hk8 := ltn (k := k) (b := 8) (N := 8) rfl (by omega) (by assumption)
        rw [nI_1]
        exact ih (k + 1) acc (by omega) (by omega) ho
      · replace ho := (if_neg c2).symm.trans ho
        refine J_iinc (pc := 19) h 1 (acc + 1) [(1, .int (acc + 1)), (2, .int (nI k)), (0, .ref (ad 0))] rfl rfl (by rw [e4]; decide) rfl dX4_roomsWithSafe_19 ?_
        refine J_iinc (pc := 22) h 1 ((nI k) + 1) [(2, .int ((nI k) + 1)), (1, .int (acc + 1)), (0, .ref (ad 0))] rfl rfl (by rw [e4]; decide) rfl dX4_roomsWithSafe_22 ?_
        refine J_goto (pc := 25) h 4 (by decide) dX4_roomsWithSafe_25 ?_
        have hk8 := ltn (k := k) (b := 8) (N := 8) rfl (by omega) (by assumption)
        rw [nI_1]
        exact ih (k + 1) (acc + 1) (by omega) (by omega) ho
def f_X4_roomsWithSafe  (σ : Sg) : Int32 := (lf_X4_roomsWithSafe 9 0 0 σ)
theorem hd_X4_roomsWithSafe : yX4_roomsWithSafe.cls ≠ "java/lang/invoke/MethodHandle" ∧ yX4_roomsWithSafe.cls ≠ "java/lang/invoke/VarHandle" ∧ (parseMethodDescriptor yX4_roomsWithSafe.desc).map (fun d => d.parameters.length) = some 0 := by decide +kernel
set_option maxHeartbeats 4000000 in
set_option maxRecDepth 20000 in
theorem c_X4_roomsWithSafe (l : Launch) (g : Gy) (ad : Nat → Nat) (n : Nat) (σ : Sg)  (hN : 28 ≤ n) : Con l g yX4_roomsWithSafe cX4_roomsWithSafe 3 (some .int) (rmL 0) [.ref (ad 0)] (wC g ad n σ) (Det (some (.int (f_X4_roomsWithSafe  σ))) (wC g ad n σ)) := by
  refine Con.of (by decide) (Nat.le_of_ble_eq_true rfl) ?_
  intro x h e1 e2 e3 e4 e5 hr
  subst e1 e2
  have h : Ok x cX4_roomsWithSafe "SafeDesk" (some .int) := h
  have hR : RmOk x 0 0 0 := RmOk.of e3 (Nat.le_refl _) (Nat.le_refl _)
  obtain ⟨out, ho⟩ : ∃ o, f_X4_roomsWithSafe  σ = o := ⟨_, rfl⟩
  rw [ho] at hr
  unfold f_X4_roomsWithSafe at ho
  show J x 0 0 _ 0 [(0, .ref (ad 0))] []
  refine J_iconst (pc := 0) h (0) rfl dX4_roomsWithSafe_0 ?_
  refine J_istore_n (pc := 1) (n := 1) (i := 1) h [(1, .int 0), (0, .ref (ad 0))] rfl (by rw [e4]; decide) rfl dX4_roomsWithSafe_1 ?_
  refine J_iconst (pc := 2) h (0) rfl dX4_roomsWithSafe_2 ?_
  refine J_istore_n (pc := 3) (n := 2) (i := 2) h [(2, .int 0), (1, .int 0), (0, .ref (ad 0))] rfl (by rw [e4]; decide) rfl dX4_roomsWithSafe_3 ?_
  exact lp_X4_roomsWithSafe hN h e4 hr 9 0 0 (by decide) (by decide) ho
def lf_X4_seek : Nat → Nat → Int32 → Sg → Int32 × Sg
  | 0, _, _, σ => (0, σ)
  | m + 1, k, b, σ => (if 8 ≤ nI k then ((-1), σ) else (if f_X4_safeIn (nI k) σ = -1 then (lf_X4_seek m (k + 1) b σ) else (if (f_X1_enter (28 + (f_X4_safeIn (nI k) σ).toNatClampNeg) σ) (28 + (f_X4_safeIn (nI k) σ).toNatClampNeg) 1 < b then (lf_X4_seek m (k + 1) b (f_X1_leave (28 + (f_X4_safeIn (nI k) σ).toNatClampNeg) (f_X1_enter (28 + (f_X4_safeIn (nI k) σ).toNatClampNeg) σ))) else (nI k, f_X1_leave (28 + (f_X4_safeIn (nI k) σ).toNatClampNeg) (f_X1_enter (28 + (f_X4_safeIn (nI k) σ).toNatClampNeg) σ)))))
set_option maxHeartbeats 4000000 in
theorem lp_X4_seek {x : Cx} {ad : Nat → Nat} {n : Nat} {a b : Int32} (hN : 28 ≤ n) (h : Ok x cX4_seek "SafeDesk" (some .int)) (hR : RmOk x 2 0 0) (e4 : xN x = 6) {out : Int32 × Sg} (hr : Rt x 0 0 (Det (some (.int out.1)) (wC (xG x) ad n out.2))) : ∀ (m k : Nat) (σ : Sg), RI n σ → k ≤ 8 → k + m = 9 → lf_X4_seek m k b σ = out → J x 0 0 (wC (xG x) ad n σ) 2 [(3, .int (nI k)), (0, .ref (ad 0)), (1, .int a), (2, .int b)] [] := by
  intro m
  induction m with
  | zero => intro k σ hI hk hm ho; omega
  | succ m ih =>
    intro k σ hI hk hm ho
    unfold lf_X4_seek at ho
    refine J_iload_n (pc := 2) (n := 3) (i := 3) h 0 rfl rfl dX4_seek_2 ?_
    refine J_bipush (pc := 3) h (8) rfl dX4_seek_3 ?_
    refine J_icmp_ge (pc := 5) h 59 (by decide) dX4_seek_5 (fun c1 => ?_) (fun c1 => ?_)
    · replace ho := (if_pos c1).symm.trans ho
      refine J_iconst (pc := 59) h (-1) rfl dX4_seek_59 ?_
      exact J_iret (pc := 60) h hr (by subst ho; exact ⟨rfl, rfl⟩) dX4_seek_60
    · replace ho := (if_neg c1).symm.trans ho
      refine J_aload_n (pc := 8) (n := 0) (i := 0) h 1 rfl rfl dX4_seek_8 ?_
      refine J_iload_n (pc := 9) (n := 3) (i := 3) h 0 rfl rfl dX4_seek_9 ?_
      refine J_cD (pc := 10) h hR (by decide) (c_X4_safeIn _ _ ad n σ (nI k) hN ) (by decide) m_204 m_206 ms_4 m_207 ⟨rfl, hd_X4_safeIn⟩ (by omega) rfl rfl (Nat.le_of_ble_eq_true rfl) [va_rf (rfa ad (f_X4_safeIn (nI k) σ))] rfl dX4_seek_10 ?_
      refine J_astoreq (pc := 13) h [(4, va_rf (rfa ad (f_X4_safeIn (nI k) σ))), (3, .int (nI k)), (0, .ref (ad 0)), (1, .int a), (2, .int b)] (by rw [e4]; decide) rfl dX4_seek_13 ?_
      refine J_aloadq (pc := 15) h 0 rfl dX4_seek_15 ?_
      refine J_ifnullr (pc := 17) h 53 (by decide) dX4_seek_17 (fun c2 => ?_) (fun c2 => ?_)
      · replace ho := (if_pos c2).symm.trans ho
        refine J_iinc (pc := 53) h 1 ((nI k) + 1) [(3, .int ((nI k) + 1)), (4, va_rf (rfa ad (f_X4_safeIn (nI k) σ))), (0, .ref (ad 0)), (1, .int a), (2, .int b)] rfl rfl (by rw [e4]; decide) rfl dX4_seek_53 ?_
        refine J_goto (pc := 56) h 2 (by decide) dX4_seek_56 ?_
        have hk8 := ltn (k := k) (b := 8) (N := 8) rfl (by omega) (by assumption)
        rw [nI_1]
        refine J_sub [(3, .int (nI (k + 1))), (0, .ref (ad 0)), (1, .int a), (2, .int b)] [0, 2, 3, 4] rfl ?_
        exact ih (k + 1) σ hI (by omega) (by omega) ho
      · replace ho := (if_neg c2).symm.trans ho
        rw [rfa_ne c2]
        refine J_aload (pc := 20) h 0 rfl dX4_seek_20 ?_
        refine J_cU (pc := 22) (z := ⟨"SafeDesk$Safe", "enter", "()V"⟩) h hR (Nat.le_add_right _ _) ((safeIn_ok hI _).resolve_left (by assumption)) (by decide) (c_X1_enter _ _ ad n σ (28 + (f_X4_safeIn (nI k) σ).toNatClampNeg)  (Nat.le_add_right _ _) ((safeIn_ok hI _).resolve_left (by assumption)) ) (by decide) m_212 m_215 (Sels.of3 m_214 m_216 m_217) m_213 m_218 rfl hd_X1_enter rfl rfl (Nat.le_of_ble_eq_true rfl) [] rfl dX4_seek_22 ?_
        refine J_aload (pc := 25) h 0 rfl dX4_seek_25 ?_
        refine J_Sg1 (pc := 27) h (Nat.le_add_right _ _) ((safeIn_ok hI _).resolve_left (by assumption)) m_97 (fun _ q => q) ((f_X1_enter (28 + (f_X4_safeIn (nI k) σ).toNatClampNeg) σ) (28 + (f_X4_safeIn (nI k) σ).toNatClampNeg) 1) rfl dX4_seek_27 ?_
        refine J_iload_n (pc := 30) (n := 2) (i := 2) h 4 rfl rfl dX4_seek_30 ?_
        refine J_icmp_lt (pc := 31) h 38 (by decide) dX4_seek_31 (fun c3 => ?_) (fun c3 => ?_)
        · replace ho := (if_pos c3).symm.trans ho
          refine J_iconst (pc := 38) h (0) rfl dX4_seek_38 ?_
          refine J_istore (pc := 39) h [(5, .int 0), (4, .ref (ad (28 + (f_X4_safeIn (nI k) σ).toNatClampNeg))), (3, .int (nI k)), (0, .ref (ad 0)), (1, .int a), (2, .int b)] (by rw [e4]; decide) rfl dX4_seek_39 ?_
          refine J_aload (pc := 41) h 1 rfl dX4_seek_41 ?_
          refine J_cU (pc := 43) (z := ⟨"SafeDesk$Safe", "leave", "()V"⟩) h hR (Nat.le_add_right _ _) ((safeIn_ok hI _).resolve_left (by assumption)) (by decide) (c_X1_leave _ _ ad n (f_X1_enter (28 + (f_X4_safeIn (nI k) σ).toNatClampNeg) σ) (28 + (f_X4_safeIn (nI k) σ).toNatClampNeg)  (Nat.le_add_right _ _) ((safeIn_ok hI _).resolve_left (by assumption)) ) (by decide) m_219 m_222 (Sels.of3 m_221 m_223 m_224) m_220 m_225 rfl hd_X1_leave rfl rfl (Nat.le_of_ble_eq_true rfl) [] rfl dX4_seek_43 ?_
          refine J_iload (pc := 46) h 0 rfl dX4_seek_46 ?_
          refine J_if_eq (pc := 48) h 53 (by decide) dX4_seek_48 (fun c4 => ?_) (fun c4 => ?_)
          · skip
            refine J_iinc (pc := 53) h 2 ((nI k) + 1) [(3, .int ((nI k) + 1)), (5, .int 0), (4, .ref (ad (28 + (f_X4_safeIn (nI k) σ).toNatClampNeg))), (0, .ref (ad 0)), (1, .int a), (2, .int b)] rfl rfl (by rw [e4]; decide) rfl dX4_seek_53 ?_
            refine J_goto (pc := 56) h 2 (by decide) dX4_seek_56 ?_
            have hk8 := ltn (k := k) (b := 8) (N := 8) rfl (by omega) (by assumption)
            rw [nI_1]
            refine J_sub [(3, .int (nI (k + 1))), (0, .ref (ad 0)), (1, .int a), (2, .int b)] [0, 3, 4, 5] rfl ?_
            exact ih (k + 1) (f_X1_leave (28 + (f_X4_safeIn (nI k) σ).toNatClampNeg) (f_X1_enter (28 + (f_X4_safeIn (nI k) σ).toNatClampNeg) σ)) (hI.of1 ((fr_leave (by omega) _).trans (fr_enter (by omega) _))) (by omega) (by omega) ho
          · exact absurd rfl c4
        · replace ho := (if_neg c3).symm.trans ho
          refine J_iconst (pc := 34) h (1) rfl dX4_seek_34 ?_
          refine J_goto (pc := 35) h 39 (by decide) dX4_seek_35 ?_
          refine J_istore (pc := 39) h [(5, .int 1), (4, .ref (ad (28 + (f_X4_safeIn (nI k) σ).toNatClampNeg))), (3, .int (nI k)), (0, .ref (ad 0)), (1, .int a), (2, .int b)] (by rw [e4]; decide) rfl dX4_seek_39 ?_
          refine J_aload (pc := 41) h 1 rfl dX4_seek_41 ?_
          refine J_cU (pc := 43) (z := ⟨"SafeDesk$Safe", "leave", "()V"⟩) h hR (Nat.le_add_right _ _) ((safeIn_ok hI _).resolve_left (by assumption)) (by decide) (c_X1_leave _ _ ad n (f_X1_enter (28 + (f_X4_safeIn (nI k) σ).toNatClampNeg) σ) (28 + (f_X4_safeIn (nI k) σ).toNatClampNeg)  (Nat.le_add_right _ _) ((safeIn_ok hI _).resolve_left (by assumption)) ) (by decide) m_219 m_222 (Sels.of3 m_221 m_223 m_224) m_220 m_225 rfl hd_X1_leave rfl rfl (Nat.le_of_ble_eq_true rfl) [] rfl dX4_seek_43 ?_
          refine J_iload (pc := 46) h 0 rfl dX4_seek_46 ?_
          refine J_if_eq (pc := 48) h 53 (by decide) dX4_seek_48 (fun c5 => ?_) (fun c5 => ?_)
          · exact absurd c5 (by decide)
          · skip
            refine J_iload_n (pc := 51) (n := 3) (i := 3) h 2 rfl rfl dX4_seek_51 ?_
            exact J_iret (pc := 52) h hr (by subst ho; exact ⟨rfl, rfl⟩) dX4_seek_52
theorem nI_nat {a : Int32} {N : Nat} (h : vp_in a N) : a = nI a.toNatClampNeg := by
  have h0 : ¬ a < 0 := fun q => h (Or.inl q)
  obtain ⟨j, hj, rfl⟩ := nI_of h0
  rw [nI_clamp hj]
def f_X4_seek (a : Int32) (b : Int32) (σ : Sg) : Int32 × Sg := (lf_X4_seek (9 - a.toNatClampNeg) a.toNatClampNeg b σ)
theorem hd_X4_seek : yX4_seek.cls ≠ "java/lang/invoke/MethodHandle" ∧ yX4_seek.cls ≠ "java/lang/invoke/VarHandle" ∧ (parseMethodDescriptor yX4_seek.desc).map (fun d => d.parameters.length) = some 2 := by decide +kernel
set_option maxHeartbeats 4000000 in
set_option maxRecDepth 20000 in
theorem c_X4_seek (l : Launch) (g : Gy) (ad : Nat → Nat) (n : Nat) (σ : Sg) (a : Int32) (b : Int32) (hN : 28 ≤ n) (hI : RI n σ) (ha : vp_in a 8) : Con l g yX4_seek cX4_seek 6 (some .int) (rmL 2) [.ref (ad 0), .int a, .int b] (wC g ad n σ) (Det (some (.int (f_X4_seek a b σ).1)) (wC g ad n ((f_X4_seek a b σ).2))) := by
  refine Con.of (by decide) (Nat.le_of_ble_eq_true rfl) ?_
  intro x h e1 e2 e3 e4 e5 hr
  subst e1 e2
  have h : Ok x cX4_seek "SafeDesk" (some .int) := h
  have hR : RmOk x 2 0 0 := RmOk.of e3 (Nat.le_refl _) (Nat.le_refl _)
  obtain ⟨out, ho⟩ : ∃ o, f_X4_seek a b σ = o := ⟨_, rfl⟩
  rw [ho] at hr
  unfold f_X4_seek at ho
  show J x 0 0 _ 0 [(0, .ref (ad 0)), (1, .int a), (2, .int b)] []
  refine J_iload_n (pc := 0) (n := 1) (i := 1) h 1 rfl rfl dX4_seek_0 ?_
  refine J_istore_n (pc := 1) (n := 3) (i := 3) h [(3, .int a), (0, .ref (ad 0)), (1, .int a), (2, .int b)] rfl (by rw [e4]; decide) rfl dX4_seek_1 ?_
  rw [nI_nat ha]
  exact lp_X4_seek hN h hR e4 hr (9 - a.toNatClampNeg) a.toNatClampNeg σ hI (Nat.le_of_lt (vp_lt ha)) (by have := vp_lt ha; omega) ho
def f_X4_doWithRooms (kd : Int32) (a : Int32) (b : Int32) (σ : Sg) : Int32 × Sg := (if kd = 5 then (0, f_X4_setRoom a (f_X4_safeIn (f_J9_floorMod_7cf53 b 8) σ) σ) else (if kd = 6 then (0, f_X4_setRoom a (-1) σ) else (0, up2 ((f_X4_seek a b σ).2) 0 4 ((f_X4_seek a b σ).1))))
theorem hd_X4_doWithRooms : yX4_doWithRooms.cls ≠ "java/lang/invoke/MethodHandle" ∧ yX4_doWithRooms.cls ≠ "java/lang/invoke/VarHandle" ∧ (parseMethodDescriptor yX4_doWithRooms.desc).map (fun d => d.parameters.length) = some 3 := by decide +kernel
set_option maxHeartbeats 4000000 in
set_option maxRecDepth 20000 in
theorem c_X4_doWithRooms (l : Launch) (g : Gy) (ad : Nat → Nat) (n : Nat) (σ : Sg) (kd : Int32) (a : Int32) (b : Int32) (hN : 28 ≤ n) (hI : RI n σ) (ha : ¬ kd = 5 → ¬ kd = 6 → vp_in a 8) : Con l g yX4_doWithRooms cX4_doWithRooms 4 (some .int) (rmL 3) [.ref (ad 0), .int kd, .int a, .int b] (wC g ad n σ) (Det (some (.int (f_X4_doWithRooms kd a b σ).1)) (wC g ad n ((f_X4_doWithRooms kd a b σ).2))) := by
  refine Con.of (by decide) (Nat.le_of_ble_eq_true rfl) ?_
  intro x h e1 e2 e3 e4 e5 hr
  subst e1 e2
  have h : Ok x cX4_doWithRooms "SafeDesk" (some .int) := h
  have hR : RmOk x 3 0 0 := RmOk.of e3 (Nat.le_refl _) (Nat.le_refl _)
  obtain ⟨out, ho⟩ : ∃ o, f_X4_doWithRooms kd a b σ = o := ⟨_, rfl⟩
  rw [ho] at hr
  unfold f_X4_doWithRooms at ho
  show J x 0 0 _ 0 [(0, .ref (ad 0)), (1, .int kd), (2, .int a), (3, .int b)] []
  refine J_iload_n (pc := 0) (n := 1) (i := 1) h 1 rfl rfl dX4_doWithRooms_0 ?_
  by_cases c1 : kd = 5
  · replace ho := (if_pos c1).symm.trans ho
    refine J_lookup (pc := 1) (off := 27) h 28 (by decide) (by rw [c1]; first | done | rfl) (by decide) dX4_doWithRooms_1 ?_
    refine J_aload_n (pc := 28) (n := 0) (i := 0) h 0 rfl rfl dX4_doWithRooms_28 ?_
    refine J_iload_n (pc := 29) (n := 2) (i := 2) h 2 rfl rfl dX4_doWithRooms_29 ?_
    refine J_aload_n (pc := 30) (n := 0) (i := 0) h 0 rfl rfl dX4_doWithRooms_30 ?_
    refine J_iload_n (pc := 31) (n := 3) (i := 3) h 3 rfl rfl dX4_doWithRooms_31 ?_
    refine J_bipush (pc := 32) h (8) rfl dX4_doWithRooms_32 ?_
    refine J_cS (pc := 34) h hR (by decide) (c_J9_floorMod_7cf53 _ _ _ b 8 (by decide)) (by decide) m_238 m_239 m_7 m_240 hd_J9_floorMod_7cf53 rfl rfl (Nat.le_of_ble_eq_true rfl) [.int (f_J9_floorMod_7cf53 b 8), .ref (ad 0), .int a, .ref (ad 0)] rfl dX4_doWithRooms_34 ?_
    refine J_cD (pc := 37) h hR (by decide) (c_X4_safeIn _ _ ad n σ (f_J9_floorMod_7cf53 b 8) hN ) (by decide) m_204 m_206 ms_4 m_207 ⟨rfl, hd_X4_safeIn⟩ (by omega) rfl rfl (Nat.le_of_ble_eq_true rfl) [va_rf (rfa ad (f_X4_safeIn (f_J9_floorMod_7cf53 b 8) σ)), .int a, .ref (ad 0)] rfl dX4_doWithRooms_37 ?_
    refine J_cD (pc := 40) h hR (by decide) (c_X4_setRoom _ _ ad n σ a (f_X4_safeIn (f_J9_floorMod_7cf53 b 8) σ) hN (safeIn_ok hI _)) (by decide) m_241 m_243 ms_9 m_244 ⟨rfl, hd_X4_setRoom⟩ (by omega) rfl rfl (Nat.le_of_ble_eq_true rfl) [] rfl dX4_doWithRooms_40 ?_
    refine J_goto (pc := 43) h 65 (by decide) dX4_doWithRooms_43 ?_
    refine J_iconst (pc := 65) h (0) rfl dX4_doWithRooms_65 ?_
    exact J_iret (pc := 66) h hr (by subst ho; exact ⟨rfl, rfl⟩) dX4_doWithRooms_66
  replace ho := (if_neg c1).symm.trans ho
  by_cases c2 : kd = 6
  · replace ho := (if_pos c2).symm.trans ho
    refine J_lookup (pc := 1) (off := 45) h 46 (by decide) (by rw [c2]; first | done | rfl) (by decide) dX4_doWithRooms_1 ?_
    refine J_aload_n (pc := 46) (n := 0) (i := 0) h 0 rfl rfl dX4_doWithRooms_46 ?_
    refine J_iload_n (pc := 47) (n := 2) (i := 2) h 2 rfl rfl dX4_doWithRooms_47 ?_
    refine J_null (pc := 48) h dX4_doWithRooms_48 ?_
    refine J_cD (pc := 49) h hR (by decide) (c_X4_setRoom _ _ ad n σ a (-1) hN (Or.inl rfl)) (by decide) m_241 m_243 ms_9 m_244 ⟨rfl, hd_X4_setRoom⟩ (by omega) rfl rfl (Nat.le_of_ble_eq_true rfl) [] rfl dX4_doWithRooms_49 ?_
    refine J_goto (pc := 52) h 65 (by decide) dX4_doWithRooms_52 ?_
    refine J_iconst (pc := 65) h (0) rfl dX4_doWithRooms_65 ?_
    exact J_iret (pc := 66) h hr (by subst ho; exact ⟨rfl, rfl⟩) dX4_doWithRooms_66
  replace ho := (if_neg c2).symm.trans ho
  refine J_lookup (pc := 1) (off := 54) h 55 (by decide) ((lv_osw c1 rfl).trans ((lv_osw c2 rfl).trans rfl)) (by decide) dX4_doWithRooms_1 ?_
  refine J_aload_n (pc := 55) (n := 0) (i := 0) h 0 rfl rfl dX4_doWithRooms_55 ?_
  refine J_aload_n (pc := 56) (n := 0) (i := 0) h 0 rfl rfl dX4_doWithRooms_56 ?_
  refine J_iload_n (pc := 57) (n := 2) (i := 2) h 2 rfl rfl dX4_doWithRooms_57 ?_
  refine J_iload_n (pc := 58) (n := 3) (i := 3) h 3 rfl rfl dX4_doWithRooms_58 ?_
  refine J_cD (pc := 59) h hR (by decide) (c_X4_seek _ _ ad n σ a b hN hI (ha (by assumption) (by assumption))) (by decide) m_245 m_247 ms_10 m_248 ⟨rfl, hd_X4_seek⟩ (by omega) rfl rfl (Nat.le_of_ble_eq_true rfl) [.int ((f_X4_seek a b σ).1), .ref (ad 0)] rfl dX4_doWithRooms_59 ?_
  refine J_Dp4 (pc := 62) h (by omega) m_47 dX4_doWithRooms_62 ?_
  refine J_iconst (pc := 65) h (0) rfl dX4_doWithRooms_65 ?_
  exact J_iret (pc := 66) h hr (by subst ho; exact ⟨rfl, rfl⟩) dX4_doWithRooms_66
def f_X4_count (a : Int32) (σ : Sg) : Int32 := (if a = 0 then (σ 0 5) else (if a = 1 then (σ 0 6) else (if a = 2 then (σ 0 8) else (if a = 3 then (f_X4_roomsWithSafe σ) else (if a < 4 then (-1) else (if f_X4_isPlan (a - 4) = 0 then (-1) else (σ (4 + ((a - 4).toNatClampNeg)) 3)))))))
theorem hd_X4_count : yX4_count.cls ≠ "java/lang/invoke/MethodHandle" ∧ yX4_count.cls ≠ "java/lang/invoke/VarHandle" ∧ (parseMethodDescriptor yX4_count.desc).map (fun d => d.parameters.length) = some 1 := by decide +kernel
set_option maxHeartbeats 4000000 in
set_option maxRecDepth 20000 in
theorem c_X4_count (l : Launch) (g : Gy) (ad : Nat → Nat) (n : Nat) (σ : Sg) (a : Int32) (hN : 28 ≤ n) : Con l g yX4_count cX4_count 2 (some .int) (rmL 1) [.ref (ad 0), .int a] (wC g ad n σ) (Det (some (.int (f_X4_count a σ))) (wC g ad n σ)) := by
  refine Con.of (by decide) (Nat.le_of_ble_eq_true rfl) ?_
  intro x h e1 e2 e3 e4 e5 hr
  subst e1 e2
  have h : Ok x cX4_count "SafeDesk" (some .int) := h
  have hR : RmOk x 1 0 0 := RmOk.of e3 (Nat.le_refl _) (Nat.le_refl _)
  obtain ⟨out, ho⟩ : ∃ o, f_X4_count a σ = o := ⟨_, rfl⟩
  rw [ho] at hr
  unfold f_X4_count at ho
  show J x 0 0 _ 0 [(0, .ref (ad 0)), (1, .int a)] []
  refine J_iload_n (pc := 0) (n := 1) (i := 1) h 1 rfl rfl dX4_count_0 ?_
  by_cases c1 : a = 0
  · replace ho := (if_pos c1).symm.trans ho
    refine J_tabIn (pc := 1) h (0) 32 c1 (by decide) (by decide) rfl (by decide) dX4_count_1 ?_
    refine J_aload_n (pc := 32) (n := 0) (i := 0) h 0 rfl rfl dX4_count_32 ?_
    refine J_Dg5 (pc := 33) h (by omega) m_48 (σ 0 5) rfl dX4_count_33 ?_
    exact J_iret (pc := 36) h hr (by subst ho; exact ⟨rfl, rfl⟩) dX4_count_36
  replace ho := (if_neg c1).symm.trans ho
  by_cases c2 : a = 1
  · replace ho := (if_pos c2).symm.trans ho
    refine J_tabIn (pc := 1) h (1) 37 c2 (by decide) (by decide) rfl (by decide) dX4_count_1 ?_
    refine J_aload_n (pc := 37) (n := 0) (i := 0) h 0 rfl rfl dX4_count_37 ?_
    refine J_Dg6 (pc := 38) h (by omega) m_49 (σ 0 6) rfl dX4_count_38 ?_
    exact J_iret (pc := 41) h hr (by subst ho; exact ⟨rfl, rfl⟩) dX4_count_41
  replace ho := (if_neg c2).symm.trans ho
  by_cases c3 : a = 2
  · replace ho := (if_pos c3).symm.trans ho
    refine J_tabIn (pc := 1) h (2) 42 c3 (by decide) (by decide) rfl (by decide) dX4_count_1 ?_
    refine J_aload_n (pc := 42) (n := 0) (i := 0) h 0 rfl rfl dX4_count_42 ?_
    refine J_Dg8 (pc := 43) h (by omega) m_51 (σ 0 8) rfl dX4_count_43 ?_
    exact J_iret (pc := 46) h hr (by subst ho; exact ⟨rfl, rfl⟩) dX4_count_46
  replace ho := (if_neg c3).symm.trans ho
  by_cases c4 : a = 3
  · replace ho := (if_pos c4).symm.trans ho
    refine J_tabIn (pc := 1) h (3) 47 c4 (by decide) (by decide) rfl (by decide) dX4_count_1 ?_
    refine J_aload_n (pc := 47) (n := 0) (i := 0) h 0 rfl rfl dX4_count_47 ?_
    refine J_cD (pc := 48) h hR (by decide) (c_X4_roomsWithSafe _ _ ad n σ  hN ) (by decide) m_322 m_324 ms_12 m_325 ⟨rfl, hd_X4_roomsWithSafe⟩ (by omega) rfl rfl (Nat.le_of_ble_eq_true rfl) [.int (f_X4_roomsWithSafe σ)] rfl dX4_count_48 ?_
    exact J_iret (pc := 51) h hr (by subst ho; exact ⟨rfl, rfl⟩) dX4_count_51
  replace ho := (if_neg c4).symm.trans ho
  refine J_tabOut (pc := 1) h 52 (by have zc1 := ne_toI c1 (n := 0) rfl; have zc2 := ne_toI c2 (n := 1) rfl; have zc3 := ne_toI c3 (n := 2) rfl; have zc4 := ne_toI c4 (n := 3) rfl; omega) (by decide) dX4_count_1 ?_
  refine J_iload_n (pc := 52) (n := 1) (i := 1) h 1 rfl rfl dX4_count_52 ?_
  refine J_iconst (pc := 53) h (4) rfl dX4_count_53 ?_
  refine J_icmp_lt (pc := 54) h 80 (by decide) dX4_count_54 (fun c5 => ?_) (fun c5 => ?_)
  · replace ho := (if_pos c5).symm.trans ho
    refine J_iconst (pc := 80) h (-1) rfl dX4_count_80 ?_
    exact J_iret (pc := 81) h hr (by subst ho; exact ⟨rfl, rfl⟩) dX4_count_81
  · replace ho := (if_neg c5).symm.trans ho
    refine J_iload_n (pc := 57) (n := 1) (i := 1) h 1 rfl rfl dX4_count_57 ?_
    refine J_iconst (pc := 58) h (4) rfl dX4_count_58 ?_
    refine J_isub (pc := 59) h dX4_count_59 ?_
    refine J_cS (pc := 60) h hR (by decide) (c_X4_isPlan _ _ _ (a - 4) ) (by decide) m_151 m_152 m_1 m_153 hd_X4_isPlan rfl rfl (Nat.le_of_ble_eq_true rfl) [.int (f_X4_isPlan (a - 4))] rfl dX4_count_60 ?_
    refine J_if_eq (pc := 63) h 80 (by decide) dX4_count_63 (fun c6 => ?_) (fun c6 => ?_)
    · replace ho := (if_pos c6).symm.trans ho
      refine J_iconst (pc := 80) h (-1) rfl dX4_count_80 ?_
      exact J_iret (pc := 81) h hr (by subst ho; exact ⟨rfl, rfl⟩) dX4_count_81
    · replace ho := (if_neg c6).symm.trans ho
      refine J_aload_n (pc := 66) (n := 0) (i := 0) h 0 rfl rfl dX4_count_66 ?_
      refine J_Dr1 (pc := 67) h (by omega) m_44 dX4_count_67 ?_
      refine J_iload_n (pc := 70) (n := 1) (i := 1) h 1 rfl rfl dX4_count_70 ?_
      refine J_iconst (pc := 71) h (4) rfl dX4_count_71 ?_
      refine J_isub (pc := 72) h dX4_count_72 ?_
      refine J_Pa (pc := 73) h (by omega) (isPlan_in (by assumption)) dX4_count_73 ?_
      refine J_Pz (pc := 74) h (isPlan_lt (by assumption)) (by omega) m_32 (σ (4 + ((a - 4).toNatClampNeg)) 3) rfl dX4_count_74 ?_
      refine J_goto (pc := 77) h 81 (by decide) dX4_count_77 ?_
      exact J_iret (pc := 81) h hr (by subst ho; exact ⟨rfl, rfl⟩) dX4_count_81
