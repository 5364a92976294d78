/-- the rooms at the start -/
def r7 : Nat → Int32 := fun i => if i < 8 then -1 else 0
def σi : Sg := fun k => if k = 1 then r7 else fun _ => 0
def τi : Sg := fun k => if k = 7 then r7 else fun _ => 0
def adL (l : List Nat) : Nat → Nat := fun k => l.getD k 0
theorem r7_eq : upd (upd (upd (upd (upd (upd (upd (upd (fun _ => 0) 0 (-1)) 1 (-1)) 2 (-1)) 3 (-1)) 4 (-1)) 5 (-1)) 6 (-1)) 7 (-1) = r7 := by
  funext i
  unfold r7 upd
  by_cases h : i < 8
  · rw [if_pos h]
    have : i = 0 ∨ i = 1 ∨ i = 2 ∨ i = 3 ∨ i = 4 ∨ i = 5 ∨ i = 6 ∨ i = 7 := by omega
    rcases this with rfl | rfl | rfl | rfl | rfl | rfl | rfl | rfl <;> rfl
  · rw [if_neg h, if_neg (by omega), if_neg (by omega), if_neg (by omega), if_neg (by omega), if_neg (by omega), if_neg (by omega), if_neg (by omega), if_neg (by omega)]
theorem rm_fun (ad : Nat → Nat) : (fun _ => none : Nat → Option Nat) = fun i => if i < 8 then rfa ad (r7 i) else none := by
  funext i
  by_cases h : i < 8
  · rw [if_pos h]
    unfold r7
    rw [if_pos h]
    rfl
  · rw [if_neg h]
theorem pl_fun (ad : Nat → Nat) {p0 p1 p2 p3 p4 p5 : Nat} (h0 : ad 4 = p0) (h1 : ad 5 = p1) (h2 : ad 6 = p2) (h3 : ad 7 = p3) (h4 : ad 8 = p4) (h5 : ad 9 = p5) : va_up (va_up (va_up (va_up (va_up (va_up (fun _ => none) 0 (some p0)) 1 (some p1)) 2 (some p2)) 3 (some p3)) 4 (some p4)) 5 (some p5) = fun i => if i < 6 then some (ad (4 + i)) else none := by
  subst h0 h1 h2 h3 h4 h5
  funext i
  unfold va_up
  by_cases h : i < 6
  · rw [if_pos h]
    have : i = 0 ∨ i = 1 ∨ i = 2 ∨ i = 3 ∨ i = 4 ∨ i = 5 := by omega
    rcases this with rfl | rfl | rfl | rfl | rfl | rfl <;> rfl
  · rw [if_neg h, if_neg (by omega), if_neg (by omega), if_neg (by omega), if_neg (by omega), if_neg (by omega), if_neg (by omega)]

set_option maxHeartbeats 4000000 in
set_option maxRecDepth 20000 in
theorem c_X0_init (l : Launch) (g : Gy) (ws : va_W) (q0 b : Nat) (he : ws[q0]? = some (b, .inr (0, [.null, .null, .null, .int 0]))) : Con l g yX0_init cX0_init 1 none (rmA 1 3 36) [.ref b] ws (fun r ws' => ∃ q1 q2 q3, r = none ∧ ws' = ws.set q0 (b, .inr (0, [.ref q1, .ref q2, .ref q3, .int 0])) ++ [(q1, .inl (g.2.1, 12, .inl (fun _ => 0))), (q2, .inl (g.2.1, 12, .inl (fun _ => 0))), (q3, .inl (g.2.1, 12, .inl (fun _ => 0)))]) := by
  refine Con.of (by decide) (Nat.le_of_ble_eq_true rfl) ?_
  intro x h e1 e2 e3 e4 e5 hr
  subst e1 e2
  have h : Ok x cX0_init "SafeDesk$Plan" none := h
  have hlt := (List.getElem?_eq_some_iff.mp he).1
  show J x 0 0 _ 0 [(0, .ref b)] []
  refine J_eqw (sa_0 he) ?_
  refine J_aload_n (pc := 0) (n := 0) (i := 0) h 0 rfl rfl dX0_init_0 ?_
  refine J_obj (pc := 1) h m_24 (by rw [e3]; decide) (by rw [e3]; decide) dX0_init_1 ?_
  refine J_aload_n (pc := 4) (n := 0) (i := 0) h 0 rfl rfl dX0_init_4 ?_
  refine J_bipush (pc := 5) h (12) rfl dX0_init_5 ?_
  refine J_newa (pc := 7) h 12 (by decide) (by decide) (by decide) (by rw [e3]; decide) dX0_init_7 (fun q1 => ?_)
  refine J_eqw (List.append_assoc _ _ _) ?_
  refine J_putF (pc := 9) h (q0 := q0) (kf := 0) (ty := .array .int) (T := TX0) (ws.set q0 (b, .inr (0, [.ref q1, .null, .null, .int 0])) ++ [(q1, .inl ((xG x).2.1, 12, .inl (fun _ => 0)))]) iX0 tyX0_ok nmX0 (sa_at hlt) rfl (by decide) m_25 (fun _ q => q) rfl e5 rfl (by decide +kernel) rfl rfl (Nat.le_of_ble_eq_true rfl) (sa_set hlt) dX0_init_9 ?_
  refine J_aload_n (pc := 12) (n := 0) (i := 0) h 0 rfl rfl dX0_init_12 ?_
  refine J_bipush (pc := 13) h (12) rfl dX0_init_13 ?_
  refine J_newa (pc := 15) h 12 (by decide) (by decide) (by decide) (by rw [e3]; decide) dX0_init_15 (fun q2 => ?_)
  refine J_eqw (List.append_assoc _ _ _) ?_
  refine J_putF (pc := 17) h (q0 := q0) (kf := 1) (ty := .array .int) (T := TX0) (ws.set q0 (b, .inr (0, [.ref q1, .ref q2, .null, .int 0])) ++ [(q1, .inl ((xG x).2.1, 12, .inl (fun _ => 0))), (q2, .inl ((xG x).2.1, 12, .inl (fun _ => 0)))]) iX0 tyX0_ok nmX0 (sa_at hlt) rfl (by decide) m_27 (fun _ q => q) rfl e5 rfl (by decide +kernel) rfl rfl (Nat.le_of_ble_eq_true rfl) (sa_set hlt) dX0_init_17 ?_
  refine J_aload_n (pc := 20) (n := 0) (i := 0) h 0 rfl rfl dX0_init_20 ?_
  refine J_bipush (pc := 21) h (12) rfl dX0_init_21 ?_
  refine J_newa (pc := 23) h 12 (by decide) (by decide) (by decide) (by rw [e3]; decide) dX0_init_23 (fun q3 => ?_)
  refine J_eqw (List.append_assoc _ _ _) ?_
  refine J_putF (pc := 25) h (q0 := q0) (kf := 2) (ty := .array .int) (T := TX0) (ws.set q0 (b, .inr (0, [.ref q1, .ref q2, .ref q3, .int 0])) ++ [(q1, .inl ((xG x).2.1, 12, .inl (fun _ => 0))), (q2, .inl ((xG x).2.1, 12, .inl (fun _ => 0))), (q3, .inl ((xG x).2.1, 12, .inl (fun _ => 0)))]) iX0 tyX0_ok nmX0 (sa_at hlt) rfl (by decide) m_29 (fun _ q => q) rfl e5 rfl (by decide +kernel) rfl rfl (Nat.le_of_ble_eq_true rfl) (sa_set hlt) dX0_init_25 ?_
  exact J_vret (pc := 28) h hr ⟨q1, q2, q3, rfl, rfl⟩ dX0_init_28
theorem fs4_0 : ∀ j, j < 4 → defaultValue (tyX0 j) = vp_V [.null, .null, .null, .int 0] j := by decide +kernel
set_option maxHeartbeats 4000000 in
set_option maxRecDepth 20000 in
theorem c_X4_init (l : Launch) (g : Gy) (b : Nat) : Con l g yX4_init cX4_init 2 none (rmA 2 27 374) [.ref b] [(b, .inr (4, [.null, .null, .null, .int 0, .int 0, .int 0, .int 0, .int 0, .int 0]))] (fun r ws' => ∃ ad, r = none ∧ ad 0 = b ∧ ws' = wC g ad 28 σi) := by
  refine Con.of (by decide) (Nat.le_of_ble_eq_true rfl) ?_
  intro x h e1 e2 e3 e4 e5 hr
  subst e1 e2
  have h : Ok x cX4_init "SafeDesk" none := h
  have hNX := h.2.2.2.2.2.2.1.2
  show J x 0 0 _ 0 [(0, .ref b)] []
  refine J_aload_n (pc := 0) (n := 0) (i := 0) h 0 rfl rfl dX4_init_0 ?_
  refine J_obj (pc := 1) h m_13 (by rw [e3]; decide) (by rw [e3]; decide) dX4_init_1 ?_
  refine J_aload_n (pc := 4) (n := 0) (i := 0) h 0 rfl rfl dX4_init_4 ?_
  refine J_bipush (pc := 5) h (8) rfl dX4_init_5 ?_
  refine J_newq (pc := 7) (C := "SafeDesk$Safe") (t0 := 1) h 8 m_16 hNX.1 rfl (by decide) (by decide) (by decide) (by rw [e3]; decide) dX4_init_7 (fun r => ?_)
  refine J_putF (pc := 10) h (q0 := 0) (kf := 0) (ty := .array (.object "SafeDesk$Safe")) (T := TX4) [(b, .inr (4, [.ref r, .null, .null, .int 0, .int 0, .int 0, .int 0, .int 0, .int 0])), (r, .inl ((xG x).2.2.1, 8, .inr (.inr (.inr (.inr (fun _ => none))))))] iX4 tyX4_ok nmX4 rfl rfl (by decide) m_43 (fun _ q => q) rfl e5 rfl (by decide +kernel) rfl rfl (Nat.le_of_ble_eq_true rfl) rfl dX4_init_10 ?_
  refine J_aload_n (pc := 13) (n := 0) (i := 0) h 0 rfl rfl dX4_init_13 ?_
  refine J_bipush (pc := 14) h (6) rfl dX4_init_14 ?_
  refine J_newq (pc := 16) (C := "SafeDesk$Plan") (t0 := 2) h 6 m_18 hNX.2.1 rfl (by decide) (by decide) (by decide) (by rw [e3]; decide) dX4_init_16 (fun p => ?_)
  refine J_putF (pc := 19) h (q0 := 0) (kf := 1) (ty := .array (.object "SafeDesk$Plan")) (T := TX4) [(b, .inr (4, [.ref r, .ref p, .null, .int 0, .int 0, .int 0, .int 0, .int 0, .int 0])), (r, .inl ((xG x).2.2.1, 8, .inr (.inr (.inr (.inr (fun _ => none)))))), (p, .inl ((xG x).2.2.2, 6, .inr (.inr (.inr (.inr (fun _ => none))))))] iX4 tyX4_ok nmX4 rfl rfl (by decide) m_44 (fun _ q => q) rfl e5 rfl (by decide +kernel) rfl rfl (Nat.le_of_ble_eq_true rfl) rfl dX4_init_19 ?_
  refine J_aload_n (pc := 22) (n := 0) (i := 0) h 0 rfl rfl dX4_init_22 ?_
  refine J_bipush (pc := 23) h (120) rfl dX4_init_23 ?_
  refine J_newa (pc := 25) h 120 (by decide) (by decide) (by decide) (by rw [e3]; decide) dX4_init_25 (fun t => ?_)
  refine J_putF (pc := 27) h (q0 := 0) (kf := 2) (ty := .array .int) (T := TX4) [(b, .inr (4, [.ref r, .ref p, .ref t, .int 0, .int 0, .int 0, .int 0, .int 0, .int 0])), (r, .inl ((xG x).2.2.1, 8, .inr (.inr (.inr (.inr (fun _ => none)))))), (p, .inl ((xG x).2.2.2, 6, .inr (.inr (.inr (.inr (fun _ => none)))))), (t, .inl ((xG x).2.1, 120, .inl (fun _ => 0)))] iX4 tyX4_ok nmX4 rfl rfl (by decide) m_45 (fun _ q => q) rfl e5 rfl (by decide +kernel) rfl rfl (Nat.le_of_ble_eq_true rfl) rfl dX4_init_27 ?_
  refine J_iconst (pc := 30) h (0) rfl dX4_init_30 ?_
  refine J_istore_n (pc := 31) (n := 1) (i := 1) h [(1, .int 0), (0, .ref b)] rfl (by rw [e4]; decide) rfl dX4_init_31 ?_
  refine J_iload_n (pc := 32) (n := 1) (i := 1) h 0 rfl rfl dX4_init_32 ?_
  refine J_bipush (pc := 33) h (6) rfl dX4_init_33 ?_
  refine J_icmp_ge (pc := 35) h 57 (by decide) dX4_init_35 (fun c => absurd c (by decide)) (fun c0 => ?_)
  refine J_aload_n (pc := 38) (n := 0) (i := 0) h 1 rfl rfl dX4_init_38 ?_
  refine J_get (pc := 39) h (q0 := 0) (kf := 1) (T := TX4) (v := .ref p) iX4 rfl rfl (by decide) m_44 (fun _ q => q) rfl dX4_init_39 ?_
  refine J_iload_n (pc := 42) (n := 1) (i := 1) h 0 rfl rfl dX4_init_42 ?_
  refine J_new (pc := 43) (ci := 0) h [.null, .null, .null, .int 0] iX0 tyX0_ok m_18 m_20 m_2 rfl fs4_0 (by rw [e3]; decide) dX4_init_43 (fun p0 => ?_)
  refine J_dup (pc := 46) h rfl dX4_init_46 ?_
  refine J_callN (pc := 47) (host := RX4) h (c_X0_init _ _ _ 4 p0 rfl) hNX.2.2.1 m_22 m_2 m_23 rfl hd_X0_init (by rw [e3]; decide) (by rw [e3]; decide) rfl rfl (Nat.le_of_ble_eq_true rfl) dX4_init_47 ?_
  rintro _ _ ⟨k0, a0, b0, rfl, rfl⟩
  refine J_eqw (ws2 := [(b, .inr (4, [.ref r, .ref p, .ref t, .int 0, .int 0, .int 0, .int 0, .int 0, .int 0])), (r, .inl ((xG x).2.2.1, 8, .inr (.inr (.inr (.inr (fun _ => none)))))), (p, .inl ((xG x).2.2.2, 6, .inr (.inr (.inr (.inr (fun _ => none)))))), (t, .inl ((xG x).2.1, 120, .inl (fun _ => 0))), (p0, .inr (0, [.ref k0, .ref a0, .ref b0, .int 0])), (k0, .inl ((xG x).2.1, 12, .inl (fun _ => 0))), (a0, .inl ((xG x).2.1, 12, .inl (fun _ => 0))), (b0, .inl ((xG x).2.1, 12, .inl (fun _ => 0)))]) rfl ?_
  refine J_aast (pc := 50) h (q0 := 2) (t0 := 2) (qk := 4) (ci := 0) (r := (RX0, TX0, 4)) [(b, .inr (4, [.ref r, .ref p, .ref t, .int 0, .int 0, .int 0, .int 0, .int 0, .int 0])), (r, .inl ((xG x).2.2.1, 8, .inr (.inr (.inr (.inr (fun _ => none)))))), (p, .inl ((xG x).2.2.2, 6, .inr (.inr (.inr (.inr (va_up (fun _ => none) 0 (some p0))))))), (t, .inl ((xG x).2.1, 120, .inl (fun _ => 0))), (p0, .inr (0, [.ref k0, .ref a0, .ref b0, .int 0])), (k0, .inl ((xG x).2.1, 12, .inl (fun _ => 0))), (a0, .inl ((xG x).2.1, 12, .inl (fun _ => 0))), (b0, .inl ((xG x).2.1, 12, .inl (fun _ => 0)))] rfl rfl rfl rfl (vp_in_iff.mpr ⟨by decide, by decide⟩) rfl dX4_init_50 ?_
  refine J_iinc (pc := 51) h 0 1 [(1, .int 1), (0, .ref b)] rfl (by decide) (by rw [e4]; decide) rfl dX4_init_51 ?_
  refine J_goto (pc := 54) h 32 (by decide) dX4_init_54 ?_
  refine J_iload_n (pc := 32) (n := 1) (i := 1) h 0 rfl rfl dX4_init_32 ?_
  refine J_bipush (pc := 33) h (6) rfl dX4_init_33 ?_
  refine J_icmp_ge (pc := 35) h 57 (by decide) dX4_init_35 (fun c => absurd c (by decide)) (fun c1 => ?_)
  refine J_aload_n (pc := 38) (n := 0) (i := 0) h 1 rfl rfl dX4_init_38 ?_
  refine J_get (pc := 39) h (q0 := 0) (kf := 1) (T := TX4) (v := .ref p) iX4 rfl rfl (by decide) m_44 (fun _ q => q) rfl dX4_init_39 ?_
  refine J_iload_n (pc := 42) (n := 1) (i := 1) h 0 rfl rfl dX4_init_42 ?_
  refine J_new (pc := 43) (ci := 0) h [.null, .null, .null, .int 0] iX0 tyX0_ok m_18 m_20 m_2 rfl fs4_0 (by rw [e3]; decide) dX4_init_43 (fun p1 => ?_)
  refine J_dup (pc := 46) h rfl dX4_init_46 ?_
  refine J_callN (pc := 47) (host := RX4) h (c_X0_init _ _ _ 8 p1 rfl) hNX.2.2.1 m_22 m_2 m_23 rfl hd_X0_init (by rw [e3]; decide) (by rw [e3]; decide) rfl rfl (Nat.le_of_ble_eq_true rfl) dX4_init_47 ?_
  rintro _ _ ⟨k1, a1, b1, rfl, rfl⟩
  refine J_eqw (ws2 := [(b, .inr (4, [.ref r, .ref p, .ref t, .int 0, .int 0, .int 0, .int 0, .int 0, .int 0])), (r, .inl ((xG x).2.2.1, 8, .inr (.inr (.inr (.inr (fun _ => none)))))), (p, .inl ((xG x).2.2.2, 6, .inr (.inr (.inr (.inr (va_up (fun _ => none) 0 (some p0))))))), (t, .inl ((xG x).2.1, 120, .inl (fun _ => 0))), (p0, .inr (0, [.ref k0, .ref a0, .ref b0, .int 0])), (k0, .inl ((xG x).2.1, 12, .inl (fun _ => 0))), (a0, .inl ((xG x).2.1, 12, .inl (fun _ => 0))), (b0, .inl ((xG x).2.1, 12, .inl (fun _ => 0))), (p1, .inr (0, [.ref k1, .ref a1, .ref b1, .int 0])), (k1, .inl ((xG x).2.1, 12, .inl (fun _ => 0))), (a1, .inl ((xG x).2.1, 12, .inl (fun _ => 0))), (b1, .inl ((xG x).2.1, 12, .inl (fun _ => 0)))]) rfl ?_
  refine J_aast (pc := 50) h (q0 := 2) (t0 := 2) (qk := 8) (ci := 0) (r := (RX0, TX0, 4)) [(b, .inr (4, [.ref r, .ref p, .ref t, .int 0, .int 0, .int 0, .int 0, .int 0, .int 0])), (r, .inl ((xG x).2.2.1, 8, .inr (.inr (.inr (.inr (fun _ => none)))))), (p, .inl ((xG x).2.2.2, 6, .inr (.inr (.inr (.inr (va_up (va_up (fun _ => none) 0 (some p0)) 1 (some p1))))))), (t, .inl ((xG x).2.1, 120, .inl (fun _ => 0))), (p0, .inr (0, [.ref k0, .ref a0, .ref b0, .int 0])), (k0, .inl ((xG x).2.1, 12, .inl (fun _ => 0))), (a0, .inl ((xG x).2.1, 12, .inl (fun _ => 0))), (b0, .inl ((xG x).2.1, 12, .inl (fun _ => 0))), (p1, .inr (0, [.ref k1, .ref a1, .ref b1, .int 0])), (k1, .inl ((xG x).2.1, 12, .inl (fun _ => 0))), (a1, .inl ((xG x).2.1, 12, .inl (fun _ => 0))), (b1, .inl ((xG x).2.1, 12, .inl (fun _ => 0)))] rfl rfl rfl rfl (vp_in_iff.mpr ⟨by decide, by decide⟩) rfl dX4_init_50 ?_
  refine J_iinc (pc := 51) h 0 2 [(1, .int 2), (0, .ref b)] rfl (by decide) (by rw [e4]; decide) rfl dX4_init_51 ?_
  refine J_goto (pc := 54) h 32 (by decide) dX4_init_54 ?_
  refine J_iload_n (pc := 32) (n := 1) (i := 1) h 0 rfl rfl dX4_init_32 ?_
  refine J_bipush (pc := 33) h (6) rfl dX4_init_33 ?_
  refine J_icmp_ge (pc := 35) h 57 (by decide) dX4_init_35 (fun c => absurd c (by decide)) (fun c2 => ?_)
  refine J_aload_n (pc := 38) (n := 0) (i := 0) h 1 rfl rfl dX4_init_38 ?_
  refine J_get (pc := 39) h (q0 := 0) (kf := 1) (T := TX4) (v := .ref p) iX4 rfl rfl (by decide) m_44 (fun _ q => q) rfl dX4_init_39 ?_
  refine J_iload_n (pc := 42) (n := 1) (i := 1) h 0 rfl rfl dX4_init_42 ?_
  refine J_new (pc := 43) (ci := 0) h [.null, .null, .null, .int 0] iX0 tyX0_ok m_18 m_20 m_2 rfl fs4_0 (by rw [e3]; decide) dX4_init_43 (fun p2 => ?_)
  refine J_dup (pc := 46) h rfl dX4_init_46 ?_
  refine J_callN (pc := 47) (host := RX4) h (c_X0_init _ _ _ 12 p2 rfl) hNX.2.2.1 m_22 m_2 m_23 rfl hd_X0_init (by rw [e3]; decide) (by rw [e3]; decide) rfl rfl (Nat.le_of_ble_eq_true rfl) dX4_init_47 ?_
  rintro _ _ ⟨k2, a2, b2, rfl, rfl⟩
  refine J_eqw (ws2 := [(b, .inr (4, [.ref r, .ref p, .ref t, .int 0, .int 0, .int 0, .int 0, .int 0, .int 0])), (r, .inl ((xG x).2.2.1, 8, .inr (.inr (.inr (.inr (fun _ => none)))))), (p, .inl ((xG x).2.2.2, 6, .inr (.inr (.inr (.inr (va_up (va_up (fun _ => none) 0 (some p0)) 1 (some p1))))))), (t, .inl ((xG x).2.1, 120, .inl (fun _ => 0))), (p0, .inr (0, [.ref k0, .ref a0, .ref b0, .int 0])), (k0, .inl ((xG x).2.1, 12, .inl (fun _ => 0))), (a0, .inl ((xG x).2.1, 12, .inl (fun _ => 0))), (b0, .inl ((xG x).2.1, 12, .inl (fun _ => 0))), (p1, .inr (0, [.ref k1, .ref a1, .ref b1, .int 0])), (k1, .inl ((xG x).2.1, 12, .inl (fun _ => 0))), (a1, .inl ((xG x).2.1, 12, .inl (fun _ => 0))), (b1, .inl ((xG x).2.1, 12, .inl (fun _ => 0))), (p2, .inr (0, [.ref k2, .ref a2, .ref b2, .int 0])), (k2, .inl ((xG x).2.1, 12, .inl (fun _ => 0))), (a2, .inl ((xG x).2.1, 12, .inl (fun _ => 0))), (b2, .inl ((xG x).2.1, 12, .inl (fun _ => 0)))]) rfl ?_
  refine J_aast (pc := 50) h (q0 := 2) (t0 := 2) (qk := 12) (ci := 0) (r := (RX0, TX0, 4)) [(b, .inr (4, [.ref r, .ref p, .ref t, .int 0, .int 0, .int 0, .int 0, .int 0, .int 0])), (r, .inl ((xG x).2.2.1, 8, .inr (.inr (.inr (.inr (fun _ => none)))))), (p, .inl ((xG x).2.2.2, 6, .inr (.inr (.inr (.inr (va_up (va_up (va_up (fun _ => none) 0 (some p0)) 1 (some p1)) 2 (some p2))))))), (t, .inl ((xG x).2.1, 120, .inl (fun _ => 0))), (p0, .inr (0, [.ref k0, .ref a0, .ref b0, .int 0])), (k0, .inl ((xG x).2.1, 12, .inl (fun _ => 0))), (a0, .inl ((xG x).2.1, 12, .inl (fun _ => 0))), (b0, .inl ((xG x).2.1, 12, .inl (fun _ => 0))), (p1, .inr (0, [.ref k1, .ref a1, .ref b1, .int 0])), (k1, .inl ((xG x).2.1, 12, .inl (fun _ => 0))), (a1, .inl ((xG x).2.1, 12, .inl (fun _ => 0))), (b1, .inl ((xG x).2.1, 12, .inl (fun _ => 0))), (p2, .inr (0, [.ref k2, .ref a2, .ref b2, .int 0])), (k2, .inl ((xG x).2.1, 12, .inl (fun _ => 0))), (a2, .inl ((xG x).2.1, 12, .inl (fun _ => 0))), (b2, .inl ((xG x).2.1, 12, .inl (fun _ => 0)))] rfl rfl rfl rfl (vp_in_iff.mpr ⟨by decide, by decide⟩) rfl dX4_init_50 ?_
  refine J_iinc (pc := 51) h 0 3 [(1, .int 3), (0, .ref b)] rfl (by decide) (by rw [e4]; decide) rfl dX4_init_51 ?_
  refine J_goto (pc := 54) h 32 (by decide) dX4_init_54 ?_
  refine J_iload_n (pc := 32) (n := 1) (i := 1) h 0 rfl rfl dX4_init_32 ?_
  refine J_bipush (pc := 33) h (6) rfl dX4_init_33 ?_
  refine J_icmp_ge (pc := 35) h 57 (by decide) dX4_init_35 (fun c => absurd c (by decide)) (fun c3 => ?_)
  refine J_aload_n (pc := 38) (n := 0) (i := 0) h 1 rfl rfl dX4_init_38 ?_
  refine J_get (pc := 39) h (q0 := 0) (kf := 1) (T := TX4) (v := .ref p) iX4 rfl rfl (by decide) m_44 (fun _ q => q) rfl dX4_init_39 ?_
  refine J_iload_n (pc := 42) (n := 1) (i := 1) h 0 rfl rfl dX4_init_42 ?_
  refine J_new (pc := 43) (ci := 0) h [.null, .null, .null, .int 0] iX0 tyX0_ok m_18 m_20 m_2 rfl fs4_0 (by rw [e3]; decide) dX4_init_43 (fun p3 => ?_)
  refine J_dup (pc := 46) h rfl dX4_init_46 ?_
  refine J_callN (pc := 47) (host := RX4) h (c_X0_init _ _ _ 16 p3 rfl) hNX.2.2.1 m_22 m_2 m_23 rfl hd_X0_init (by rw [e3]; decide) (by rw [e3]; decide) rfl rfl (Nat.le_of_ble_eq_true rfl) dX4_init_47 ?_
  rintro _ _ ⟨k3, a3, b3, rfl, rfl⟩
  refine J_eqw (ws2 := [(b, .inr (4, [.ref r, .ref p, .ref t, .int 0, .int 0, .int 0, .int 0, .int 0, .int 0])), (r, .inl ((xG x).2.2.1, 8, .inr (.inr (.inr (.inr (fun _ => none)))))), (p, .inl ((xG x).2.2.2, 6, .inr (.inr (.inr (.inr (va_up (va_up (va_up (fun _ => none) 0 (some p0)) 1 (some p1)) 2 (some p2))))))), (t, .inl ((xG x).2.1, 120, .inl (fun _ => 0))), (p0, .inr (0, [.ref k0, .ref a0, .ref b0, .int 0])), (k0, .inl ((xG x).2.1, 12, .inl (fun _ => 0))), (a0, .inl ((xG x).2.1, 12, .inl (fun _ => 0))), (b0, .inl ((xG x).2.1, 12, .inl (fun _ => 0))), (p1, .inr (0, [.ref k1, .ref a1, .ref b1, .int 0])), (k1, .inl ((xG x).2.1, 12, .inl (fun _ => 0))), (a1, .inl ((xG x).2.1, 12, .inl (fun _ => 0))), (b1, .inl ((xG x).2.1, 12, .inl (fun _ => 0))), (p2, .inr (0, [.ref k2, .ref a2, .ref b2, .int 0])), (k2, .inl ((xG x).2.1, 12, .inl (fun _ => 0))), (a2, .inl ((xG x).2.1, 12, .inl (fun _ => 0))), (b2, .inl ((xG x).2.1, 12, .inl (fun _ => 0))), (p3, .inr (0, [.ref k3, .ref a3, .ref b3, .int 0])), (k3, .inl ((xG x).2.1, 12, .inl (fun _ => 0))), (a3, .inl ((xG x).2.1, 12, .inl (fun _ => 0))), (b3, .inl ((xG x).2.1, 12, .inl (fun _ => 0)))]) rfl ?_
  refine J_aast (pc := 50) h (q0 := 2) (t0 := 2) (qk := 16) (ci := 0) (r := (RX0, TX0, 4)) [(b, .inr (4, [.ref r, .ref p, .ref t, .int 0, .int 0, .int 0, .int 0, .int 0, .int 0])), (r, .inl ((xG x).2.2.1, 8, .inr (.inr (.inr (.inr (fun _ => none)))))), (p, .inl ((xG x).2.2.2, 6, .inr (.inr (.inr (.inr (va_up (va_up (va_up (va_up (fun _ => none) 0 (some p0)) 1 (some p1)) 2 (some p2)) 3 (some p3))))))), (t, .inl ((xG x).2.1, 120, .inl (fun _ => 0))), (p0, .inr (0, [.ref k0, .ref a0, .ref b0, .int 0])), (k0, .inl ((xG x).2.1, 12, .inl (fun _ => 0))), (a0, .inl ((xG x).2.1, 12, .inl (fun _ => 0))), (b0, .inl ((xG x).2.1, 12, .inl (fun _ => 0))), (p1, .inr (0, [.ref k1, .ref a1, .ref b1, .int 0])), (k1, .inl ((xG x).2.1, 12, .inl (fun _ => 0))), (a1, .inl ((xG x).2.1, 12, .inl (fun _ => 0))), (b1, .inl ((xG x).2.1, 12, .inl (fun _ => 0))), (p2, .inr (0, [.ref k2, .ref a2, .ref b2, .int 0])), (k2, .inl ((xG x).2.1, 12, .inl (fun _ => 0))), (a2, .inl ((xG x).2.1, 12, .inl (fun _ => 0))), (b2, .inl ((xG x).2.1, 12, .inl (fun _ => 0))), (p3, .inr (0, [.ref k3, .ref a3, .ref b3, .int 0])), (k3, .inl ((xG x).2.1, 12, .inl (fun _ => 0))), (a3, .inl ((xG x).2.1, 12, .inl (fun _ => 0))), (b3, .inl ((xG x).2.1, 12, .inl (fun _ => 0)))] rfl rfl rfl rfl (vp_in_iff.mpr ⟨by decide, by decide⟩) rfl dX4_init_50 ?_
  refine J_iinc (pc := 51) h 0 4 [(1, .int 4), (0, .ref b)] rfl (by decide) (by rw [e4]; decide) rfl dX4_init_51 ?_
  refine J_goto (pc := 54) h 32 (by decide) dX4_init_54 ?_
  refine J_iload_n (pc := 32) (n := 1) (i := 1) h 0 rfl rfl dX4_init_32 ?_
  refine J_bipush (pc := 33) h (6) rfl dX4_init_33 ?_
  refine J_icmp_ge (pc := 35) h 57 (by decide) dX4_init_35 (fun c => absurd c (by decide)) (fun c4 => ?_)
  refine J_aload_n (pc := 38) (n := 0) (i := 0) h 1 rfl rfl dX4_init_38 ?_
  refine J_get (pc := 39) h (q0 := 0) (kf := 1) (T := TX4) (v := .ref p) iX4 rfl rfl (by decide) m_44 (fun _ q => q) rfl dX4_init_39 ?_
  refine J_iload_n (pc := 42) (n := 1) (i := 1) h 0 rfl rfl dX4_init_42 ?_
  refine J_new (pc := 43) (ci := 0) h [.null, .null, .null, .int 0] iX0 tyX0_ok m_18 m_20 m_2 rfl fs4_0 (by rw [e3]; decide) dX4_init_43 (fun p4 => ?_)
  refine J_dup (pc := 46) h rfl dX4_init_46 ?_
  refine J_callN (pc := 47) (host := RX4) h (c_X0_init _ _ _ 20 p4 rfl) hNX.2.2.1 m_22 m_2 m_23 rfl hd_X0_init (by rw [e3]; decide) (by rw [e3]; decide) rfl rfl (Nat.le_of_ble_eq_true rfl) dX4_init_47 ?_
  rintro _ _ ⟨k4, a4, b4, rfl, rfl⟩
  refine J_eqw (ws2 := [(b, .inr (4, [.ref r, .ref p, .ref t, .int 0, .int 0, .int 0, .int 0, .int 0, .int 0])), (r, .inl ((xG x).2.2.1, 8, .inr (.inr (.inr (.inr (fun _ => none)))))), (p, .inl ((xG x).2.2.2, 6, .inr (.inr (.inr (.inr (va_up (va_up (va_up (va_up (fun _ => none) 0 (some p0)) 1 (some p1)) 2 (some p2)) 3 (some p3))))))), (t, .inl ((xG x).2.1, 120, .inl (fun _ => 0))), (p0, .inr (0, [.ref k0, .ref a0, .ref b0, .int 0])), (k0, .inl ((xG x).2.1, 12, .inl (fun _ => 0))), (a0, .inl ((xG x).2.1, 12, .inl (fun _ => 0))), (b0, .inl ((xG x).2.1, 12, .inl (fun _ => 0))), (p1, .inr (0, [.ref k1, .ref a1, .ref b1, .int 0])), (k1, .inl ((xG x).2.1, 12, .inl (fun _ => 0))), (a1, .inl ((xG x).2.1, 12, .inl (fun _ => 0))), (b1, .inl ((xG x).2.1, 12, .inl (fun _ => 0))), (p2, .inr (0, [.ref k2, .ref a2, .ref b2, .int 0])), (k2, .inl ((xG x).2.1, 12, .inl (fun _ => 0))), (a2, .inl ((xG x).2.1, 12, .inl (fun _ => 0))), (b2, .inl ((xG x).2.1, 12, .inl (fun _ => 0))), (p3, .inr (0, [.ref k3, .ref a3, .ref b3, .int 0])), (k3, .inl ((xG x).2.1, 12, .inl (fun _ => 0))), (a3, .inl ((xG x).2.1, 12, .inl (fun _ => 0))), (b3, .inl ((xG x).2.1, 12, .inl (fun _ => 0))), (p4, .inr (0, [.ref k4, .ref a4, .ref b4, .int 0])), (k4, .inl ((xG x).2.1, 12, .inl (fun _ => 0))), (a4, .inl ((xG x).2.1, 12, .inl (fun _ => 0))), (b4, .inl ((xG x).2.1, 12, .inl (fun _ => 0)))]) rfl ?_
  refine J_aast (pc := 50) h (q0 := 2) (t0 := 2) (qk := 20) (ci := 0) (r := (RX0, TX0, 4)) [(b, .inr (4, [.ref r, .ref p, .ref t, .int 0, .int 0, .int 0, .int 0, .int 0, .int 0])), (r, .inl ((xG x).2.2.1, 8, .inr (.inr (.inr (.inr (fun _ => none)))))), (p, .inl ((xG x).2.2.2, 6, .inr (.inr (.inr (.inr (va_up (va_up (va_up (va_up (va_up (fun _ => none) 0 (some p0)) 1 (some p1)) 2 (some p2)) 3 (some p3)) 4 (some p4))))))), (t, .inl ((xG x).2.1, 120, .inl (fun _ => 0))), (p0, .inr (0, [.ref k0, .ref a0, .ref b0, .int 0])), (k0, .inl ((xG x).2.1, 12, .inl (fun _ => 0))), (a0, .inl ((xG x).2.1, 12, .inl (fun _ => 0))), (b0, .inl ((xG x).2.1, 12, .inl (fun _ => 0))), (p1, .inr (0, [.ref k1, .ref a1, .ref b1, .int 0])), (k1, .inl ((xG x).2.1, 12, .inl (fun _ => 0))), (a1, .inl ((xG x).2.1, 12, .inl (fun _ => 0))), (b1, .inl ((xG x).2.1, 12, .inl (fun _ => 0))), (p2, .inr (0, [.ref k2, .ref a2, .ref b2, .int 0])), (k2, .inl ((xG x).2.1, 12, .inl (fun _ => 0))), (a2, .inl ((xG x).2.1, 12, .inl (fun _ => 0))), (b2, .inl ((xG x).2.1, 12, .inl (fun _ => 0))), (p3, .inr (0, [.ref k3, .ref a3, .ref b3, .int 0])), (k3, .inl ((xG x).2.1, 12, .inl (fun _ => 0))), (a3, .inl ((xG x).2.1, 12, .inl (fun _ => 0))), (b3, .inl ((xG x).2.1, 12, .inl (fun _ => 0))), (p4, .inr (0, [.ref k4, .ref a4, .ref b4, .int 0])), (k4, .inl ((xG x).2.1, 12, .inl (fun _ => 0))), (a4, .inl ((xG x).2.1, 12, .inl (fun _ => 0))), (b4, .inl ((xG x).2.1, 12, .inl (fun _ => 0)))] rfl rfl rfl rfl (vp_in_iff.mpr ⟨by decide, by decide⟩) rfl dX4_init_50 ?_
  refine J_iinc (pc := 51) h 0 5 [(1, .int 5), (0, .ref b)] rfl (by decide) (by rw [e4]; decide) rfl dX4_init_51 ?_
  refine J_goto (pc := 54) h 32 (by decide) dX4_init_54 ?_
  refine J_iload_n (pc := 32) (n := 1) (i := 1) h 0 rfl rfl dX4_init_32 ?_
  refine J_bipush (pc := 33) h (6) rfl dX4_init_33 ?_
  refine J_icmp_ge (pc := 35) h 57 (by decide) dX4_init_35 (fun c => absurd c (by decide)) (fun c5 => ?_)
  refine J_aload_n (pc := 38) (n := 0) (i := 0) h 1 rfl rfl dX4_init_38 ?_
  refine J_get (pc := 39) h (q0 := 0) (kf := 1) (T := TX4) (v := .ref p) iX4 rfl rfl (by decide) m_44 (fun _ q => q) rfl dX4_init_39 ?_
  refine J_iload_n (pc := 42) (n := 1) (i := 1) h 0 rfl rfl dX4_init_42 ?_
  refine J_new (pc := 43) (ci := 0) h [.null, .null, .null, .int 0] iX0 tyX0_ok m_18 m_20 m_2 rfl fs4_0 (by rw [e3]; decide) dX4_init_43 (fun p5 => ?_)
  refine J_dup (pc := 46) h rfl dX4_init_46 ?_
  refine J_callN (pc := 47) (host := RX4) h (c_X0_init _ _ _ 24 p5 rfl) hNX.2.2.1 m_22 m_2 m_23 rfl hd_X0_init (by rw [e3]; decide) (by rw [e3]; decide) rfl rfl (Nat.le_of_ble_eq_true rfl) dX4_init_47 ?_
  rintro _ _ ⟨k5, a5, b5, rfl, rfl⟩
  refine J_eqw (ws2 := [(b, .inr (4, [.ref r, .ref p, .ref t, .int 0, .int 0, .int 0, .int 0, .int 0, .int 0])), (r, .inl ((xG x).2.2.1, 8, .inr (.inr (.inr (.inr (fun _ => none)))))), (p, .inl ((xG x).2.2.2, 6, .inr (.inr (.inr (.inr (va_up (va_up (va_up (va_up (va_up (fun _ => none) 0 (some p0)) 1 (some p1)) 2 (some p2)) 3 (some p3)) 4 (some p4))))))), (t, .inl ((xG x).2.1, 120, .inl (fun _ => 0))), (p0, .inr (0, [.ref k0, .ref a0, .ref b0, .int 0])), (k0, .inl ((xG x).2.1, 12, .inl (fun _ => 0))), (a0, .inl ((xG x).2.1, 12, .inl (fun _ => 0))), (b0, .inl ((xG x).2.1, 12, .inl (fun _ => 0))), (p1, .inr (0, [.ref k1, .ref a1, .ref b1, .int 0])), (k1, .inl ((xG x).2.1, 12, .inl (fun _ => 0))), (a1, .inl ((xG x).2.1, 12, .inl (fun _ => 0))), (b1, .inl ((xG x).2.1, 12, .inl (fun _ => 0))), (p2, .inr (0, [.ref k2, .ref a2, .ref b2, .int 0])), (k2, .inl ((xG x).2.1, 12, .inl (fun _ => 0))), (a2, .inl ((xG x).2.1, 12, .inl (fun _ => 0))), (b2, .inl ((xG x).2.1, 12, .inl (fun _ => 0))), (p3, .inr (0, [.ref k3, .ref a3, .ref b3, .int 0])), (k3, .inl ((xG x).2.1, 12, .inl (fun _ => 0))), (a3, .inl ((xG x).2.1, 12, .inl (fun _ => 0))), (b3, .inl ((xG x).2.1, 12, .inl (fun _ => 0))), (p4, .inr (0, [.ref k4, .ref a4, .ref b4, .int 0])), (k4, .inl ((xG x).2.1, 12, .inl (fun _ => 0))), (a4, .inl ((xG x).2.1, 12, .inl (fun _ => 0))), (b4, .inl ((xG x).2.1, 12, .inl (fun _ => 0))), (p5, .inr (0, [.ref k5, .ref a5, .ref b5, .int 0])), (k5, .inl ((xG x).2.1, 12, .inl (fun _ => 0))), (a5, .inl ((xG x).2.1, 12, .inl (fun _ => 0))), (b5, .inl ((xG x).2.1, 12, .inl (fun _ => 0)))]) rfl ?_
  refine J_aast (pc := 50) h (q0 := 2) (t0 := 2) (qk := 24) (ci := 0) (r := (RX0, TX0, 4)) [(b, .inr (4, [.ref r, .ref p, .ref t, .int 0, .int 0, .int 0, .int 0, .int 0, .int 0])), (r, .inl ((xG x).2.2.1, 8, .inr (.inr (.inr (.inr (fun _ => none)))))), (p, .inl ((xG x).2.2.2, 6, .inr (.inr (.inr (.inr (va_up (va_up (va_up (va_up (va_up (va_up (fun _ => none) 0 (some p0)) 1 (some p1)) 2 (some p2)) 3 (some p3)) 4 (some p4)) 5 (some p5))))))), (t, .inl ((xG x).2.1, 120, .inl (fun _ => 0))), (p0, .inr (0, [.ref k0, .ref a0, .ref b0, .int 0])), (k0, .inl ((xG x).2.1, 12, .inl (fun _ => 0))), (a0, .inl ((xG x).2.1, 12, .inl (fun _ => 0))), (b0, .inl ((xG x).2.1, 12, .inl (fun _ => 0))), (p1, .inr (0, [.ref k1, .ref a1, .ref b1, .int 0])), (k1, .inl ((xG x).2.1, 12, .inl (fun _ => 0))), (a1, .inl ((xG x).2.1, 12, .inl (fun _ => 0))), (b1, .inl ((xG x).2.1, 12, .inl (fun _ => 0))), (p2, .inr (0, [.ref k2, .ref a2, .ref b2, .int 0])), (k2, .inl ((xG x).2.1, 12, .inl (fun _ => 0))), (a2, .inl ((xG x).2.1, 12, .inl (fun _ => 0))), (b2, .inl ((xG x).2.1, 12, .inl (fun _ => 0))), (p3, .inr (0, [.ref k3, .ref a3, .ref b3, .int 0])), (k3, .inl ((xG x).2.1, 12, .inl (fun _ => 0))), (a3, .inl ((xG x).2.1, 12, .inl (fun _ => 0))), (b3, .inl ((xG x).2.1, 12, .inl (fun _ => 0))), (p4, .inr (0, [.ref k4, .ref a4, .ref b4, .int 0])), (k4, .inl ((xG x).2.1, 12, .inl (fun _ => 0))), (a4, .inl ((xG x).2.1, 12, .inl (fun _ => 0))), (b4, .inl ((xG x).2.1, 12, .inl (fun _ => 0))), (p5, .inr (0, [.ref k5, .ref a5, .ref b5, .int 0])), (k5, .inl ((xG x).2.1, 12, .inl (fun _ => 0))), (a5, .inl ((xG x).2.1, 12, .inl (fun _ => 0))), (b5, .inl ((xG x).2.1, 12, .inl (fun _ => 0)))] rfl rfl rfl rfl (vp_in_iff.mpr ⟨by decide, by decide⟩) rfl dX4_init_50 ?_
  refine J_iinc (pc := 51) h 0 6 [(1, .int 6), (0, .ref b)] rfl (by decide) (by rw [e4]; decide) rfl dX4_init_51 ?_
  refine J_goto (pc := 54) h 32 (by decide) dX4_init_54 ?_
  refine J_iload_n (pc := 32) (n := 1) (i := 1) h 0 rfl rfl dX4_init_32 ?_
  refine J_bipush (pc := 33) h (6) rfl dX4_init_33 ?_
  refine J_icmp_ge (pc := 35) h 57 (by decide) dX4_init_35 (fun c => ?_) (fun c => absurd (by decide) c)
  obtain ⟨ad, had⟩ : ∃ ad, ad = adL [b, r, p, t, p0, p1, p2, p3, p4, p5, k0, a0, b0, k1, a1, b1, k2, a2, b2, k3, a3, b3, k4, a4, b4, k5, a5, b5] := ⟨_, rfl⟩
  have er := rm_fun ad
  have ep := pl_fun ad (p0 := p0) (p1 := p1) (p2 := p2) (p3 := p3) (p4 := p4) (p5 := p5) (by rw [had]; rfl) (by rw [had]; rfl) (by rw [had]; rfl) (by rw [had]; rfl) (by rw [had]; rfl) (by rw [had]; rfl)
  rw [ep, er]
  refine J_perm (wC (xG x) ad 28 σi) [0, 1, 2, 3, 4, 8, 12, 16, 20, 24, 5, 6, 7, 9, 10, 11, 13, 14, 15, 17, 18, 19, 21, 22, 23, 25, 26, 27] (by decide) (by rw [had]; rfl) ?_
  exact J_vret (pc := 57) h hr ⟨ad, rfl, by rw [had]; rfl, rfl⟩ dX4_init_57

set_option maxHeartbeats 4000000 in
set_option maxRecDepth 20000 in
theorem c_X5_init (l : Launch) (g : Gy) (b : Nat) : Con l g yX5_init cX5_init 1 none (rmA 1 17 25950) [.ref b] [(b, .inr (5, [.int 0, .null, .null, .null, .null, .null, .null, .null, .null, .null, .null, .null, .int 0, .int 0, .int 0, .int 0, .int 0, .int 0, .int 0, .null, .int 0, .null, .null, .null, .null, .null]))] (fun r ws' => ∃ ad, r = none ∧ ad 0 = b ∧ ws' = wM g ad τi) := by
  refine Con.of (by decide) (Nat.le_of_ble_eq_true rfl) ?_
  intro x h e1 e2 e3 e4 e5 hr
  subst e1 e2
  have h : Ok x cX5_init "SafeDeskModel" none := h
  show J x 0 0 _ 0 [(0, .ref b)] []
  refine J_aload_n (pc := 0) (n := 0) (i := 0) h 0 rfl rfl dX5_init_0 ?_
  refine J_obj (pc := 1) h m_331 (by rw [e3]; decide) (by rw [e3]; decide) dX5_init_1 ?_
  refine J_aload_n (pc := 4) (n := 0) (i := 0) h 0 rfl rfl dX5_init_4 ?_
  refine J_sipush (pc := 5) h (4200) rfl dX5_init_5 ?_
  refine J_newa (pc := 8) h 4200 (by decide) (by decide) (by decide) (by rw [e3]; decide) dX5_init_8 (fun q1 => ?_)
  refine J_putF (pc := 10) h (q0 := 0) (kf := 1) (ty := .array .int) (T := TX5) [(b, .inr (5, [.int 0, .ref q1, .null, .null, .null, .null, .null, .null, .null, .null, .null, .null, .int 0, .int 0, .int 0, .int 0, .int 0, .int 0, .int 0, .null, .int 0, .null, .null, .null, .null, .null])), (q1, .inl ((xG x).2.1, 4200, .inl (fun _ => 0)))] iX5 tyX5_ok nmX5 rfl rfl (by decide) m_333 (fun _ q => q) rfl e5 rfl (by decide +kernel) rfl rfl (Nat.le_of_ble_eq_true rfl) rfl dX5_init_10 ?_
  refine J_aload_n (pc := 13) (n := 0) (i := 0) h 0 rfl rfl dX5_init_13 ?_
  refine J_sipush (pc := 14) h (4200) rfl dX5_init_14 ?_
  refine J_newa (pc := 17) h 4200 (by decide) (by decide) (by decide) (by rw [e3]; decide) dX5_init_17 (fun q2 => ?_)
  refine J_putF (pc := 19) h (q0 := 0) (kf := 2) (ty := .array .int) (T := TX5) [(b, .inr (5, [.int 0, .ref q1, .ref q2, .null, .null, .null, .null, .null, .null, .null, .null, .null, .int 0, .int 0, .int 0, .int 0, .int 0, .int 0, .int 0, .null, .int 0, .null, .null, .null, .null, .null])), (q1, .inl ((xG x).2.1, 4200, .inl (fun _ => 0))), (q2, .inl ((xG x).2.1, 4200, .inl (fun _ => 0)))] iX5 tyX5_ok nmX5 rfl rfl (by decide) m_334 (fun _ q => q) rfl e5 rfl (by decide +kernel) rfl rfl (Nat.le_of_ble_eq_true rfl) rfl dX5_init_19 ?_
  refine J_aload_n (pc := 22) (n := 0) (i := 0) h 0 rfl rfl dX5_init_22 ?_
  refine J_sipush (pc := 23) h (4200) rfl dX5_init_23 ?_
  refine J_newa (pc := 26) h 4200 (by decide) (by decide) (by decide) (by rw [e3]; decide) dX5_init_26 (fun q3 => ?_)
  refine J_putF (pc := 28) h (q0 := 0) (kf := 3) (ty := .array .int) (T := TX5) [(b, .inr (5, [.int 0, .ref q1, .ref q2, .ref q3, .null, .null, .null, .null, .null, .null, .null, .null, .int 0, .int 0, .int 0, .int 0, .int 0, .int 0, .int 0, .null, .int 0, .null, .null, .null, .null, .null])), (q1, .inl ((xG x).2.1, 4200, .inl (fun _ => 0))), (q2, .inl ((xG x).2.1, 4200, .inl (fun _ => 0))), (q3, .inl ((xG x).2.1, 4200, .inl (fun _ => 0)))] iX5 tyX5_ok nmX5 rfl rfl (by decide) m_335 (fun _ q => q) rfl e5 rfl (by decide +kernel) rfl rfl (Nat.le_of_ble_eq_true rfl) rfl dX5_init_28 ?_
  refine J_aload_n (pc := 31) (n := 0) (i := 0) h 0 rfl rfl dX5_init_31 ?_
  refine J_sipush (pc := 32) h (4200) rfl dX5_init_32 ?_
  refine J_newa (pc := 35) h 4200 (by decide) (by decide) (by decide) (by rw [e3]; decide) dX5_init_35 (fun q4 => ?_)
  refine J_putF (pc := 37) h (q0 := 0) (kf := 4) (ty := .array .int) (T := TX5) [(b, .inr (5, [.int 0, .ref q1, .ref q2, .ref q3, .ref q4, .null, .null, .null, .null, .null, .null, .null, .int 0, .int 0, .int 0, .int 0, .int 0, .int 0, .int 0, .null, .int 0, .null, .null, .null, .null, .null])), (q1, .inl ((xG x).2.1, 4200, .inl (fun _ => 0))), (q2, .inl ((xG x).2.1, 4200, .inl (fun _ => 0))), (q3, .inl ((xG x).2.1, 4200, .inl (fun _ => 0))), (q4, .inl ((xG x).2.1, 4200, .inl (fun _ => 0)))] iX5 tyX5_ok nmX5 rfl rfl (by decide) m_336 (fun _ q => q) rfl e5 rfl (by decide +kernel) rfl rfl (Nat.le_of_ble_eq_true rfl) rfl dX5_init_37 ?_
  refine J_aload_n (pc := 40) (n := 0) (i := 0) h 0 rfl rfl dX5_init_40 ?_
  refine J_sipush (pc := 41) h (4200) rfl dX5_init_41 ?_
  refine J_newa (pc := 44) h 4200 (by decide) (by decide) (by decide) (by rw [e3]; decide) dX5_init_44 (fun q5 => ?_)
  refine J_putF (pc := 46) h (q0 := 0) (kf := 5) (ty := .array .int) (T := TX5) [(b, .inr (5, [.int 0, .ref q1, .ref q2, .ref q3, .ref q4, .ref q5, .null, .null, .null, .null, .null, .null, .int 0, .int 0, .int 0, .int 0, .int 0, .int 0, .int 0, .null, .int 0, .null, .null, .null, .null, .null])), (q1, .inl ((xG x).2.1, 4200, .inl (fun _ => 0))), (q2, .inl ((xG x).2.1, 4200, .inl (fun _ => 0))), (q3, .inl ((xG x).2.1, 4200, .inl (fun _ => 0))), (q4, .inl ((xG x).2.1, 4200, .inl (fun _ => 0))), (q5, .inl ((xG x).2.1, 4200, .inl (fun _ => 0)))] iX5 tyX5_ok nmX5 rfl rfl (by decide) m_337 (fun _ q => q) rfl e5 rfl (by decide +kernel) rfl rfl (Nat.le_of_ble_eq_true rfl) rfl dX5_init_46 ?_
  refine J_aload_n (pc := 49) (n := 0) (i := 0) h 0 rfl rfl dX5_init_49 ?_
  refine J_sipush (pc := 50) h (4200) rfl dX5_init_50 ?_
  refine J_newa (pc := 53) h 4200 (by decide) (by decide) (by decide) (by rw [e3]; decide) dX5_init_53 (fun q6 => ?_)
  refine J_putF (pc := 55) h (q0 := 0) (kf := 6) (ty := .array .int) (T := TX5) [(b, .inr (5, [.int 0, .ref q1, .ref q2, .ref q3, .ref q4, .ref q5, .ref q6, .null, .null, .null, .null, .null, .int 0, .int 0, .int 0, .int 0, .int 0, .int 0, .int 0, .null, .int 0, .null, .null, .null, .null, .null])), (q1, .inl ((xG x).2.1, 4200, .inl (fun _ => 0))), (q2, .inl ((xG x).2.1, 4200, .inl (fun _ => 0))), (q3, .inl ((xG x).2.1, 4200, .inl (fun _ => 0))), (q4, .inl ((xG x).2.1, 4200, .inl (fun _ => 0))), (q5, .inl ((xG x).2.1, 4200, .inl (fun _ => 0))), (q6, .inl ((xG x).2.1, 4200, .inl (fun _ => 0)))] iX5 tyX5_ok nmX5 rfl rfl (by decide) m_338 (fun _ q => q) rfl e5 rfl (by decide +kernel) rfl rfl (Nat.le_of_ble_eq_true rfl) rfl dX5_init_55 ?_
  refine J_aload_n (pc := 58) (n := 0) (i := 0) h 0 rfl rfl dX5_init_58 ?_
  refine J_bipush (pc := 59) h (8) rfl dX5_init_59 ?_
  refine J_newa (pc := 61) h 8 (by decide) (by decide) (by decide) (by rw [e3]; decide) dX5_init_61 (fun q7 => ?_)
  refine J_dup (pc := 63) h rfl dX5_init_63 ?_
  refine J_iconst (pc := 64) h (0) rfl dX5_init_64 ?_
  refine J_iconst (pc := 65) h (-1) rfl dX5_init_65 ?_
  refine J_iast (pc := 66) h (q0 := 7) (n := 8) [(b, .inr (5, [.int 0, .ref q1, .ref q2, .ref q3, .ref q4, .ref q5, .ref q6, .null, .null, .null, .null, .null, .int 0, .int 0, .int 0, .int 0, .int 0, .int 0, .int 0, .null, .int 0, .null, .null, .null, .null, .null])), (q1, .inl ((xG x).2.1, 4200, .inl (fun _ => 0))), (q2, .inl ((xG x).2.1, 4200, .inl (fun _ => 0))), (q3, .inl ((xG x).2.1, 4200, .inl (fun _ => 0))), (q4, .inl ((xG x).2.1, 4200, .inl (fun _ => 0))), (q5, .inl ((xG x).2.1, 4200, .inl (fun _ => 0))), (q6, .inl ((xG x).2.1, 4200, .inl (fun _ => 0))), (q7, .inl ((xG x).2.1, 8, .inl (upd (fun _ => 0) 0 (-1))))] rfl (vp_in_iff.mpr ⟨by decide, by decide⟩) rfl dX5_init_66 ?_
  refine J_dup (pc := 67) h rfl dX5_init_67 ?_
  refine J_iconst (pc := 68) h (1) rfl dX5_init_68 ?_
  refine J_iconst (pc := 69) h (-1) rfl dX5_init_69 ?_
  refine J_iast (pc := 70) h (q0 := 7) (n := 8) [(b, .inr (5, [.int 0, .ref q1, .ref q2, .ref q3, .ref q4, .ref q5, .ref q6, .null, .null, .null, .null, .null, .int 0, .int 0, .int 0, .int 0, .int 0, .int 0, .int 0, .null, .int 0, .null, .null, .null, .null, .null])), (q1, .inl ((xG x).2.1, 4200, .inl (fun _ => 0))), (q2, .inl ((xG x).2.1, 4200, .inl (fun _ => 0))), (q3, .inl ((xG x).2.1, 4200, .inl (fun _ => 0))), (q4, .inl ((xG x).2.1, 4200, .inl (fun _ => 0))), (q5, .inl ((xG x).2.1, 4200, .inl (fun _ => 0))), (q6, .inl ((xG x).2.1, 4200, .inl (fun _ => 0))), (q7, .inl ((xG x).2.1, 8, .inl (upd (upd (fun _ => 0) 0 (-1)) 1 (-1))))] rfl (vp_in_iff.mpr ⟨by decide, by decide⟩) rfl dX5_init_70 ?_
  refine J_dup (pc := 71) h rfl dX5_init_71 ?_
  refine J_iconst (pc := 72) h (2) rfl dX5_init_72 ?_
  refine J_iconst (pc := 73) h (-1) rfl dX5_init_73 ?_
  refine J_iast (pc := 74) h (q0 := 7) (n := 8) [(b, .inr (5, [.int 0, .ref q1, .ref q2, .ref q3, .ref q4, .ref q5, .ref q6, .null, .null, .null, .null, .null, .int 0, .int 0, .int 0, .int 0, .int 0, .int 0, .int 0, .null, .int 0, .null, .null, .null, .null, .null])), (q1, .inl ((xG x).2.1, 4200, .inl (fun _ => 0))), (q2, .inl ((xG x).2.1, 4200, .inl (fun _ => 0))), (q3, .inl ((xG x).2.1, 4200, .inl (fun _ => 0))), (q4, .inl ((xG x).2.1, 4200, .inl (fun _ => 0))), (q5, .inl ((xG x).2.1, 4200, .inl (fun _ => 0))), (q6, .inl ((xG x).2.1, 4200, .inl (fun _ => 0))), (q7, .inl ((xG x).2.1, 8, .inl (upd (upd (upd (fun _ => 0) 0 (-1)) 1 (-1)) 2 (-1))))] rfl (vp_in_iff.mpr ⟨by decide, by decide⟩) rfl dX5_init_74 ?_
  refine J_dup (pc := 75) h rfl dX5_init_75 ?_
  refine J_iconst (pc := 76) h (3) rfl dX5_init_76 ?_
  refine J_iconst (pc := 77) h (-1) rfl dX5_init_77 ?_
  refine J_iast (pc := 78) h (q0 := 7) (n := 8) [(b, .inr (5, [.int 0, .ref q1, .ref q2, .ref q3, .ref q4, .ref q5, .ref q6, .null, .null, .null, .null, .null, .int 0, .int 0, .int 0, .int 0, .int 0, .int 0, .int 0, .null, .int 0, .null, .null, .null, .null, .null])), (q1, .inl ((xG x).2.1, 4200, .inl (fun _ => 0))), (q2, .inl ((xG x).2.1, 4200, .inl (fun _ => 0))), (q3, .inl ((xG x).2.1, 4200, .inl (fun _ => 0))), (q4, .inl ((xG x).2.1, 4200, .inl (fun _ => 0))), (q5, .inl ((xG x).2.1, 4200, .inl (fun _ => 0))), (q6, .inl ((xG x).2.1, 4200, .inl (fun _ => 0))), (q7, .inl ((xG x).2.1, 8, .inl (upd (upd (upd (upd (fun _ => 0) 0 (-1)) 1 (-1)) 2 (-1)) 3 (-1))))] rfl (vp_in_iff.mpr ⟨by decide, by decide⟩) rfl dX5_init_78 ?_
  refine J_dup (pc := 79) h rfl dX5_init_79 ?_
  refine J_iconst (pc := 80) h (4) rfl dX5_init_80 ?_
  refine J_iconst (pc := 81) h (-1) rfl dX5_init_81 ?_
  refine J_iast (pc := 82) h (q0 := 7) (n := 8) [(b, .inr (5, [.int 0, .ref q1, .ref q2, .ref q3, .ref q4, .ref q5, .ref q6, .null, .null, .null, .null, .null, .int 0, .int 0, .int 0, .int 0, .int 0, .int 0, .int 0, .null, .int 0, .null, .null, .null, .null, .null])), (q1, .inl ((xG x).2.1, 4200, .inl (fun _ => 0))), (q2, .inl ((xG x).2.1, 4200, .inl (fun _ => 0))), (q3, .inl ((xG x).2.1, 4200, .inl (fun _ => 0))), (q4, .inl ((xG x).2.1, 4200, .inl (fun _ => 0))), (q5, .inl ((xG x).2.1, 4200, .inl (fun _ => 0))), (q6, .inl ((xG x).2.1, 4200, .inl (fun _ => 0))), (q7, .inl ((xG x).2.1, 8, .inl (upd (upd (upd (upd (upd (fun _ => 0) 0 (-1)) 1 (-1)) 2 (-1)) 3 (-1)) 4 (-1))))] rfl (vp_in_iff.mpr ⟨by decide, by decide⟩) rfl dX5_init_82 ?_
  refine J_dup (pc := 83) h rfl dX5_init_83 ?_
  refine J_iconst (pc := 84) h (5) rfl dX5_init_84 ?_
  refine J_iconst (pc := 85) h (-1) rfl dX5_init_85 ?_
  refine J_iast (pc := 86) h (q0 := 7) (n := 8) [(b, .inr (5, [.int 0, .ref q1, .ref q2, .ref q3, .ref q4, .ref q5, .ref q6, .null, .null, .null, .null, .null, .int 0, .int 0, .int 0, .int 0, .int 0, .int 0, .int 0, .null, .int 0, .null, .null, .null, .null, .null])), (q1, .inl ((xG x).2.1, 4200, .inl (fun _ => 0))), (q2, .inl ((xG x).2.1, 4200, .inl (fun _ => 0))), (q3, .inl ((xG x).2.1, 4200, .inl (fun _ => 0))), (q4, .inl ((xG x).2.1, 4200, .inl (fun _ => 0))), (q5, .inl ((xG x).2.1, 4200, .inl (fun _ => 0))), (q6, .inl ((xG x).2.1, 4200, .inl (fun _ => 0))), (q7, .inl ((xG x).2.1, 8, .inl (upd (upd (upd (upd (upd (upd (fun _ => 0) 0 (-1)) 1 (-1)) 2 (-1)) 3 (-1)) 4 (-1)) 5 (-1))))] rfl (vp_in_iff.mpr ⟨by decide, by decide⟩) rfl dX5_init_86 ?_
  refine J_dup (pc := 87) h rfl dX5_init_87 ?_
  refine J_bipush (pc := 88) h (6) rfl dX5_init_88 ?_
  refine J_iconst (pc := 90) h (-1) rfl dX5_init_90 ?_
  refine J_iast (pc := 91) h (q0 := 7) (n := 8) [(b, .inr (5, [.int 0, .ref q1, .ref q2, .ref q3, .ref q4, .ref q5, .ref q6, .null, .null, .null, .null, .null, .int 0, .int 0, .int 0, .int 0, .int 0, .int 0, .int 0, .null, .int 0, .null, .null, .null, .null, .null])), (q1, .inl ((xG x).2.1, 4200, .inl (fun _ => 0))), (q2, .inl ((xG x).2.1, 4200, .inl (fun _ => 0))), (q3, .inl ((xG x).2.1, 4200, .inl (fun _ => 0))), (q4, .inl ((xG x).2.1, 4200, .inl (fun _ => 0))), (q5, .inl ((xG x).2.1, 4200, .inl (fun _ => 0))), (q6, .inl ((xG x).2.1, 4200, .inl (fun _ => 0))), (q7, .inl ((xG x).2.1, 8, .inl (upd (upd (upd (upd (upd (upd (upd (fun _ => 0) 0 (-1)) 1 (-1)) 2 (-1)) 3 (-1)) 4 (-1)) 5 (-1)) 6 (-1))))] rfl (vp_in_iff.mpr ⟨by decide, by decide⟩) rfl dX5_init_91 ?_
  refine J_dup (pc := 92) h rfl dX5_init_92 ?_
  refine J_bipush (pc := 93) h (7) rfl dX5_init_93 ?_
  refine J_iconst (pc := 95) h (-1) rfl dX5_init_95 ?_
  refine J_iast (pc := 96) h (q0 := 7) (n := 8) [(b, .inr (5, [.int 0, .ref q1, .ref q2, .ref q3, .ref q4, .ref q5, .ref q6, .null, .null, .null, .null, .null, .int 0, .int 0, .int 0, .int 0, .int 0, .int 0, .int 0, .null, .int 0, .null, .null, .null, .null, .null])), (q1, .inl ((xG x).2.1, 4200, .inl (fun _ => 0))), (q2, .inl ((xG x).2.1, 4200, .inl (fun _ => 0))), (q3, .inl ((xG x).2.1, 4200, .inl (fun _ => 0))), (q4, .inl ((xG x).2.1, 4200, .inl (fun _ => 0))), (q5, .inl ((xG x).2.1, 4200, .inl (fun _ => 0))), (q6, .inl ((xG x).2.1, 4200, .inl (fun _ => 0))), (q7, .inl ((xG x).2.1, 8, .inl (upd (upd (upd (upd (upd (upd (upd (upd (fun _ => 0) 0 (-1)) 1 (-1)) 2 (-1)) 3 (-1)) 4 (-1)) 5 (-1)) 6 (-1)) 7 (-1))))] rfl (vp_in_iff.mpr ⟨by decide, by decide⟩) rfl dX5_init_96 ?_
  refine J_putF (pc := 97) h (q0 := 0) (kf := 7) (ty := .array .int) (T := TX5) [(b, .inr (5, [.int 0, .ref q1, .ref q2, .ref q3, .ref q4, .ref q5, .ref q6, .ref q7, .null, .null, .null, .null, .int 0, .int 0, .int 0, .int 0, .int 0, .int 0, .int 0, .null, .int 0, .null, .null, .null, .null, .null])), (q1, .inl ((xG x).2.1, 4200, .inl (fun _ => 0))), (q2, .inl ((xG x).2.1, 4200, .inl (fun _ => 0))), (q3, .inl ((xG x).2.1, 4200, .inl (fun _ => 0))), (q4, .inl ((xG x).2.1, 4200, .inl (fun _ => 0))), (q5, .inl ((xG x).2.1, 4200, .inl (fun _ => 0))), (q6, .inl ((xG x).2.1, 4200, .inl (fun _ => 0))), (q7, .inl ((xG x).2.1, 8, .inl (upd (upd (upd (upd (upd (upd (upd (upd (fun _ => 0) 0 (-1)) 1 (-1)) 2 (-1)) 3 (-1)) 4 (-1)) 5 (-1)) 6 (-1)) 7 (-1))))] iX5 tyX5_ok nmX5 rfl rfl (by decide) m_339 (fun _ q => q) rfl e5 rfl (by decide +kernel) rfl rfl (Nat.le_of_ble_eq_true rfl) rfl dX5_init_97 ?_
  refine J_aload_n (pc := 100) (n := 0) (i := 0) h 0 rfl rfl dX5_init_100 ?_
  refine J_bipush (pc := 101) h (6) rfl dX5_init_101 ?_
  refine J_newa (pc := 103) h 6 (by decide) (by decide) (by decide) (by rw [e3]; decide) dX5_init_103 (fun q8 => ?_)
  refine J_putF (pc := 105) h (q0 := 0) (kf := 8) (ty := .array .int) (T := TX5) [(b, .inr (5, [.int 0, .ref q1, .ref q2, .ref q3, .ref q4, .ref q5, .ref q6, .ref q7, .ref q8, .null, .null, .null, .int 0, .int 0, .int 0, .int 0, .int 0, .int 0, .int 0, .null, .int 0, .null, .null, .null, .null, .null])), (q1, .inl ((xG x).2.1, 4200, .inl (fun _ => 0))), (q2, .inl ((xG x).2.1, 4200, .inl (fun _ => 0))), (q3, .inl ((xG x).2.1, 4200, .inl (fun _ => 0))), (q4, .inl ((xG x).2.1, 4200, .inl (fun _ => 0))), (q5, .inl ((xG x).2.1, 4200, .inl (fun _ => 0))), (q6, .inl ((xG x).2.1, 4200, .inl (fun _ => 0))), (q7, .inl ((xG x).2.1, 8, .inl (upd (upd (upd (upd (upd (upd (upd (upd (fun _ => 0) 0 (-1)) 1 (-1)) 2 (-1)) 3 (-1)) 4 (-1)) 5 (-1)) 6 (-1)) 7 (-1)))), (q8, .inl ((xG x).2.1, 6, .inl (fun _ => 0)))] iX5 tyX5_ok nmX5 rfl rfl (by decide) m_340 (fun _ q => q) rfl e5 rfl (by decide +kernel) rfl rfl (Nat.le_of_ble_eq_true rfl) rfl dX5_init_105 ?_
  refine J_aload_n (pc := 108) (n := 0) (i := 0) h 0 rfl rfl dX5_init_108 ?_
  refine J_bipush (pc := 109) h (72) rfl dX5_init_109 ?_
  refine J_newa (pc := 111) h 72 (by decide) (by decide) (by decide) (by rw [e3]; decide) dX5_init_111 (fun q9 => ?_)
  refine J_putF (pc := 113) h (q0 := 0) (kf := 9) (ty := .array .int) (T := TX5) [(b, .inr (5, [.int 0, .ref q1, .ref q2, .ref q3, .ref q4, .ref q5, .ref q6, .ref q7, .ref q8, .ref q9, .null, .null, .int 0, .int 0, .int 0, .int 0, .int 0, .int 0, .int 0, .null, .int 0, .null, .null, .null, .null, .null])), (q1, .inl ((xG x).2.1, 4200, .inl (fun _ => 0))), (q2, .inl ((xG x).2.1, 4200, .inl (fun _ => 0))), (q3, .inl ((xG x).2.1, 4200, .inl (fun _ => 0))), (q4, .inl ((xG x).2.1, 4200, .inl (fun _ => 0))), (q5, .inl ((xG x).2.1, 4200, .inl (fun _ => 0))), (q6, .inl ((xG x).2.1, 4200, .inl (fun _ => 0))), (q7, .inl ((xG x).2.1, 8, .inl (upd (upd (upd (upd (upd (upd (upd (upd (fun _ => 0) 0 (-1)) 1 (-1)) 2 (-1)) 3 (-1)) 4 (-1)) 5 (-1)) 6 (-1)) 7 (-1)))), (q8, .inl ((xG x).2.1, 6, .inl (fun _ => 0))), (q9, .inl ((xG x).2.1, 72, .inl (fun _ => 0)))] iX5 tyX5_ok nmX5 rfl rfl (by decide) m_341 (fun _ q => q) rfl e5 rfl (by decide +kernel) rfl rfl (Nat.le_of_ble_eq_true rfl) rfl dX5_init_113 ?_
  refine J_aload_n (pc := 116) (n := 0) (i := 0) h 0 rfl rfl dX5_init_116 ?_
  refine J_bipush (pc := 117) h (72) rfl dX5_init_117 ?_
  refine J_newa (pc := 119) h 72 (by decide) (by decide) (by decide) (by rw [e3]; decide) dX5_init_119 (fun q10 => ?_)
  refine J_putF (pc := 121) h (q0 := 0) (kf := 10) (ty := .array .int) (T := TX5) [(b, .inr (5, [.int 0, .ref q1, .ref q2, .ref q3, .ref q4, .ref q5, .ref q6, .ref q7, .ref q8, .ref q9, .ref q10, .null, .int 0, .int 0, .int 0, .int 0, .int 0, .int 0, .int 0, .null, .int 0, .null, .null, .null, .null, .null])), (q1, .inl ((xG x).2.1, 4200, .inl (fun _ => 0))), (q2, .inl ((xG x).2.1, 4200, .inl (fun _ => 0))), (q3, .inl ((xG x).2.1, 4200, .inl (fun _ => 0))), (q4, .inl ((xG x).2.1, 4200, .inl (fun _ => 0))), (q5, .inl ((xG x).2.1, 4200, .inl (fun _ => 0))), (q6, .inl ((xG x).2.1, 4200, .inl (fun _ => 0))), (q7, .inl ((xG x).2.1, 8, .inl (upd (upd (upd (upd (upd (upd (upd (upd (fun _ => 0) 0 (-1)) 1 (-1)) 2 (-1)) 3 (-1)) 4 (-1)) 5 (-1)) 6 (-1)) 7 (-1)))), (q8, .inl ((xG x).2.1, 6, .inl (fun _ => 0))), (q9, .inl ((xG x).2.1, 72, .inl (fun _ => 0))), (q10, .inl ((xG x).2.1, 72, .inl (fun _ => 0)))] iX5 tyX5_ok nmX5 rfl rfl (by decide) m_342 (fun _ q => q) rfl e5 rfl (by decide +kernel) rfl rfl (Nat.le_of_ble_eq_true rfl) rfl dX5_init_121 ?_
  refine J_aload_n (pc := 124) (n := 0) (i := 0) h 0 rfl rfl dX5_init_124 ?_
  refine J_bipush (pc := 125) h (72) rfl dX5_init_125 ?_
  refine J_newa (pc := 127) h 72 (by decide) (by decide) (by decide) (by rw [e3]; decide) dX5_init_127 (fun q11 => ?_)
  refine J_putF (pc := 129) h (q0 := 0) (kf := 11) (ty := .array .int) (T := TX5) [(b, .inr (5, [.int 0, .ref q1, .ref q2, .ref q3, .ref q4, .ref q5, .ref q6, .ref q7, .ref q8, .ref q9, .ref q10, .ref q11, .int 0, .int 0, .int 0, .int 0, .int 0, .int 0, .int 0, .null, .int 0, .null, .null, .null, .null, .null])), (q1, .inl ((xG x).2.1, 4200, .inl (fun _ => 0))), (q2, .inl ((xG x).2.1, 4200, .inl (fun _ => 0))), (q3, .inl ((xG x).2.1, 4200, .inl (fun _ => 0))), (q4, .inl ((xG x).2.1, 4200, .inl (fun _ => 0))), (q5, .inl ((xG x).2.1, 4200, .inl (fun _ => 0))), (q6, .inl ((xG x).2.1, 4200, .inl (fun _ => 0))), (q7, .inl ((xG x).2.1, 8, .inl (upd (upd (upd (upd (upd (upd (upd (upd (fun _ => 0) 0 (-1)) 1 (-1)) 2 (-1)) 3 (-1)) 4 (-1)) 5 (-1)) 6 (-1)) 7 (-1)))), (q8, .inl ((xG x).2.1, 6, .inl (fun _ => 0))), (q9, .inl ((xG x).2.1, 72, .inl (fun _ => 0))), (q10, .inl ((xG x).2.1, 72, .inl (fun _ => 0))), (q11, .inl ((xG x).2.1, 72, .inl (fun _ => 0)))] iX5 tyX5_ok nmX5 rfl rfl (by decide) m_343 (fun _ q => q) rfl e5 rfl (by decide +kernel) rfl rfl (Nat.le_of_ble_eq_true rfl) rfl dX5_init_129 ?_
  refine J_aload_n (pc := 132) (n := 0) (i := 0) h 0 rfl rfl dX5_init_132 ?_
  refine J_bipush (pc := 133) h (120) rfl dX5_init_133 ?_
  refine J_newa (pc := 135) h 120 (by decide) (by decide) (by decide) (by rw [e3]; decide) dX5_init_135 (fun q12 => ?_)
  refine J_putF (pc := 137) h (q0 := 0) (kf := 19) (ty := .array .int) (T := TX5) [(b, .inr (5, [.int 0, .ref q1, .ref q2, .ref q3, .ref q4, .ref q5, .ref q6, .ref q7, .ref q8, .ref q9, .ref q10, .ref q11, .int 0, .int 0, .int 0, .int 0, .int 0, .int 0, .int 0, .ref q12, .int 0, .null, .null, .null, .null, .null])), (q1, .inl ((xG x).2.1, 4200, .inl (fun _ => 0))), (q2, .inl ((xG x).2.1, 4200, .inl (fun _ => 0))), (q3, .inl ((xG x).2.1, 4200, .inl (fun _ => 0))), (q4, .inl ((xG x).2.1, 4200, .inl (fun _ => 0))), (q5, .inl ((xG x).2.1, 4200, .inl (fun _ => 0))), (q6, .inl ((xG x).2.1, 4200, .inl (fun _ => 0))), (q7, .inl ((xG x).2.1, 8, .inl (upd (upd (upd (upd (upd (upd (upd (upd (fun _ => 0) 0 (-1)) 1 (-1)) 2 (-1)) 3 (-1)) 4 (-1)) 5 (-1)) 6 (-1)) 7 (-1)))), (q8, .inl ((xG x).2.1, 6, .inl (fun _ => 0))), (q9, .inl ((xG x).2.1, 72, .inl (fun _ => 0))), (q10, .inl ((xG x).2.1, 72, .inl (fun _ => 0))), (q11, .inl ((xG x).2.1, 72, .inl (fun _ => 0))), (q12, .inl ((xG x).2.1, 120, .inl (fun _ => 0)))] iX5 tyX5_ok nmX5 rfl rfl (by decide) m_351 (fun _ q => q) rfl e5 rfl (by decide +kernel) rfl rfl (Nat.le_of_ble_eq_true rfl) rfl dX5_init_137 ?_
  refine J_aload_n (pc := 140) (n := 0) (i := 0) h 0 rfl rfl dX5_init_140 ?_
  refine J_bipush (pc := 141) h (80) rfl dX5_init_141 ?_
  refine J_newa (pc := 143) h 80 (by decide) (by decide) (by decide) (by rw [e3]; decide) dX5_init_143 (fun q13 => ?_)
  refine J_putF (pc := 145) h (q0 := 0) (kf := 21) (ty := .array .int) (T := TX5) [(b, .inr (5, [.int 0, .ref q1, .ref q2, .ref q3, .ref q4, .ref q5, .ref q6, .ref q7, .ref q8, .ref q9, .ref q10, .ref q11, .int 0, .int 0, .int 0, .int 0, .int 0, .int 0, .int 0, .ref q12, .int 0, .ref q13, .null, .null, .null, .null])), (q1, .inl ((xG x).2.1, 4200, .inl (fun _ => 0))), (q2, .inl ((xG x).2.1, 4200, .inl (fun _ => 0))), (q3, .inl ((xG x).2.1, 4200, .inl (fun _ => 0))), (q4, .inl ((xG x).2.1, 4200, .inl (fun _ => 0))), (q5, .inl ((xG x).2.1, 4200, .inl (fun _ => 0))), (q6, .inl ((xG x).2.1, 4200, .inl (fun _ => 0))), (q7, .inl ((xG x).2.1, 8, .inl (upd (upd (upd (upd (upd (upd (upd (upd (fun _ => 0) 0 (-1)) 1 (-1)) 2 (-1)) 3 (-1)) 4 (-1)) 5 (-1)) 6 (-1)) 7 (-1)))), (q8, .inl ((xG x).2.1, 6, .inl (fun _ => 0))), (q9, .inl ((xG x).2.1, 72, .inl (fun _ => 0))), (q10, .inl ((xG x).2.1, 72, .inl (fun _ => 0))), (q11, .inl ((xG x).2.1, 72, .inl (fun _ => 0))), (q12, .inl ((xG x).2.1, 120, .inl (fun _ => 0))), (q13, .inl ((xG x).2.1, 80, .inl (fun _ => 0)))] iX5 tyX5_ok nmX5 rfl rfl (by decide) m_353 (fun _ q => q) rfl e5 rfl (by decide +kernel) rfl rfl (Nat.le_of_ble_eq_true rfl) rfl dX5_init_145 ?_
  refine J_aload_n (pc := 148) (n := 0) (i := 0) h 0 rfl rfl dX5_init_148 ?_
  refine J_bipush (pc := 149) h (80) rfl dX5_init_149 ?_
  refine J_newa (pc := 151) h 80 (by decide) (by decide) (by decide) (by rw [e3]; decide) dX5_init_151 (fun q14 => ?_)
  refine J_putF (pc := 153) h (q0 := 0) (kf := 22) (ty := .array .int) (T := TX5) [(b, .inr (5, [.int 0, .ref q1, .ref q2, .ref q3, .ref q4, .ref q5, .ref q6, .ref q7, .ref q8, .ref q9, .ref q10, .ref q11, .int 0, .int 0, .int 0, .int 0, .int 0, .int 0, .int 0, .ref q12, .int 0, .ref q13, .ref q14, .null, .null, .null])), (q1, .inl ((xG x).2.1, 4200, .inl (fun _ => 0))), (q2, .inl ((xG x).2.1, 4200, .inl (fun _ => 0))), (q3, .inl ((xG x).2.1, 4200, .inl (fun _ => 0))), (q4, .inl ((xG x).2.1, 4200, .inl (fun _ => 0))), (q5, .inl ((xG x).2.1, 4200, .inl (fun _ => 0))), (q6, .inl ((xG x).2.1, 4200, .inl (fun _ => 0))), (q7, .inl ((xG x).2.1, 8, .inl (upd (upd (upd (upd (upd (upd (upd (upd (fun _ => 0) 0 (-1)) 1 (-1)) 2 (-1)) 3 (-1)) 4 (-1)) 5 (-1)) 6 (-1)) 7 (-1)))), (q8, .inl ((xG x).2.1, 6, .inl (fun _ => 0))), (q9, .inl ((xG x).2.1, 72, .inl (fun _ => 0))), (q10, .inl ((xG x).2.1, 72, .inl (fun _ => 0))), (q11, .inl ((xG x).2.1, 72, .inl (fun _ => 0))), (q12, .inl ((xG x).2.1, 120, .inl (fun _ => 0))), (q13, .inl ((xG x).2.1, 80, .inl (fun _ => 0))), (q14, .inl ((xG x).2.1, 80, .inl (fun _ => 0)))] iX5 tyX5_ok nmX5 rfl rfl (by decide) m_354 (fun _ q => q) rfl e5 rfl (by decide +kernel) rfl rfl (Nat.le_of_ble_eq_true rfl) rfl dX5_init_153 ?_
  refine J_aload_n (pc := 156) (n := 0) (i := 0) h 0 rfl rfl dX5_init_156 ?_
  refine J_bipush (pc := 157) h (80) rfl dX5_init_157 ?_
  refine J_newa (pc := 159) h 80 (by decide) (by decide) (by decide) (by rw [e3]; decide) dX5_init_159 (fun q15 => ?_)
  refine J_putF (pc := 161) h (q0 := 0) (kf := 23) (ty := .array .int) (T := TX5) [(b, .inr (5, [.int 0, .ref q1, .ref q2, .ref q3, .ref q4, .ref q5, .ref q6, .ref q7, .ref q8, .ref q9, .ref q10, .ref q11, .int 0, .int 0, .int 0, .int 0, .int 0, .int 0, .int 0, .ref q12, .int 0, .ref q13, .ref q14, .ref q15, .null, .null])), (q1, .inl ((xG x).2.1, 4200, .inl (fun _ => 0))), (q2, .inl ((xG x).2.1, 4200, .inl (fun _ => 0))), (q3, .inl ((xG x).2.1, 4200, .inl (fun _ => 0))), (q4, .inl ((xG x).2.1, 4200, .inl (fun _ => 0))), (q5, .inl ((xG x).2.1, 4200, .inl (fun _ => 0))), (q6, .inl ((xG x).2.1, 4200, .inl (fun _ => 0))), (q7, .inl ((xG x).2.1, 8, .inl (upd (upd (upd (upd (upd (upd (upd (upd (fun _ => 0) 0 (-1)) 1 (-1)) 2 (-1)) 3 (-1)) 4 (-1)) 5 (-1)) 6 (-1)) 7 (-1)))), (q8, .inl ((xG x).2.1, 6, .inl (fun _ => 0))), (q9, .inl ((xG x).2.1, 72, .inl (fun _ => 0))), (q10, .inl ((xG x).2.1, 72, .inl (fun _ => 0))), (q11, .inl ((xG x).2.1, 72, .inl (fun _ => 0))), (q12, .inl ((xG x).2.1, 120, .inl (fun _ => 0))), (q13, .inl ((xG x).2.1, 80, .inl (fun _ => 0))), (q14, .inl ((xG x).2.1, 80, .inl (fun _ => 0))), (q15, .inl ((xG x).2.1, 80, .inl (fun _ => 0)))] iX5 tyX5_ok nmX5 rfl rfl (by decide) m_355 (fun _ q => q) rfl e5 rfl (by decide +kernel) rfl rfl (Nat.le_of_ble_eq_true rfl) rfl dX5_init_161 ?_
  refine J_aload_n (pc := 164) (n := 0) (i := 0) h 0 rfl rfl dX5_init_164 ?_
  refine J_bipush (pc := 165) h (80) rfl dX5_init_165 ?_
  refine J_newa (pc := 167) h 80 (by decide) (by decide) (by decide) (by rw [e3]; decide) dX5_init_167 (fun q16 => ?_)
  refine J_putF (pc := 169) h (q0 := 0) (kf := 24) (ty := .array .int) (T := TX5) [(b, .inr (5, [.int 0, .ref q1, .ref q2, .ref q3, .ref q4, .ref q5, .ref q6, .ref q7, .ref q8, .ref q9, .ref q10, .ref q11, .int 0, .int 0, .int 0, .int 0, .int 0, .int 0, .int 0, .ref q12, .int 0, .ref q13, .ref q14, .ref q15, .ref q16, .null])), (q1, .inl ((xG x).2.1, 4200, .inl (fun _ => 0))), (q2, .inl ((xG x).2.1, 4200, .inl (fun _ => 0))), (q3, .inl ((xG x).2.1, 4200, .inl (fun _ => 0))), (q4, .inl ((xG x).2.1, 4200, .inl (fun _ => 0))), (q5, .inl ((xG x).2.1, 4200, .inl (fun _ => 0))), (q6, .inl ((xG x).2.1, 4200, .inl (fun _ => 0))), (q7, .inl ((xG x).2.1, 8, .inl (upd (upd (upd (upd (upd (upd (upd (upd (fun _ => 0) 0 (-1)) 1 (-1)) 2 (-1)) 3 (-1)) 4 (-1)) 5 (-1)) 6 (-1)) 7 (-1)))), (q8, .inl ((xG x).2.1, 6, .inl (fun _ => 0))), (q9, .inl ((xG x).2.1, 72, .inl (fun _ => 0))), (q10, .inl ((xG x).2.1, 72, .inl (fun _ => 0))), (q11, .inl ((xG x).2.1, 72, .inl (fun _ => 0))), (q12, .inl ((xG x).2.1, 120, .inl (fun _ => 0))), (q13, .inl ((xG x).2.1, 80, .inl (fun _ => 0))), (q14, .inl ((xG x).2.1, 80, .inl (fun _ => 0))), (q15, .inl ((xG x).2.1, 80, .inl (fun _ => 0))), (q16, .inl ((xG x).2.1, 80, .inl (fun _ => 0)))] iX5 tyX5_ok nmX5 rfl rfl (by decide) m_356 (fun _ q => q) rfl e5 rfl (by decide +kernel) rfl rfl (Nat.le_of_ble_eq_true rfl) rfl dX5_init_169 ?_
  refine J_aload_n (pc := 172) (n := 0) (i := 0) h 0 rfl rfl dX5_init_172 ?_
  refine J_bipush (pc := 173) h (80) rfl dX5_init_173 ?_
  refine J_newa (pc := 175) h 80 (by decide) (by decide) (by decide) (by rw [e3]; decide) dX5_init_175 (fun q17 => ?_)
  refine J_putF (pc := 177) h (q0 := 0) (kf := 25) (ty := .array .int) (T := TX5) [(b, .inr (5, [.int 0, .ref q1, .ref q2, .ref q3, .ref q4, .ref q5, .ref q6, .ref q7, .ref q8, .ref q9, .ref q10, .ref q11, .int 0, .int 0, .int 0, .int 0, .int 0, .int 0, .int 0, .ref q12, .int 0, .ref q13, .ref q14, .ref q15, .ref q16, .ref q17])), (q1, .inl ((xG x).2.1, 4200, .inl (fun _ => 0))), (q2, .inl ((xG x).2.1, 4200, .inl (fun _ => 0))), (q3, .inl ((xG x).2.1, 4200, .inl (fun _ => 0))), (q4, .inl ((xG x).2.1, 4200, .inl (fun _ => 0))), (q5, .inl ((xG x).2.1, 4200, .inl (fun _ => 0))), (q6, .inl ((xG x).2.1, 4200, .inl (fun _ => 0))), (q7, .inl ((xG x).2.1, 8, .inl (upd (upd (upd (upd (upd (upd (upd (upd (fun _ => 0) 0 (-1)) 1 (-1)) 2 (-1)) 3 (-1)) 4 (-1)) 5 (-1)) 6 (-1)) 7 (-1)))), (q8, .inl ((xG x).2.1, 6, .inl (fun _ => 0))), (q9, .inl ((xG x).2.1, 72, .inl (fun _ => 0))), (q10, .inl ((xG x).2.1, 72, .inl (fun _ => 0))), (q11, .inl ((xG x).2.1, 72, .inl (fun _ => 0))), (q12, .inl ((xG x).2.1, 120, .inl (fun _ => 0))), (q13, .inl ((xG x).2.1, 80, .inl (fun _ => 0))), (q14, .inl ((xG x).2.1, 80, .inl (fun _ => 0))), (q15, .inl ((xG x).2.1, 80, .inl (fun _ => 0))), (q16, .inl ((xG x).2.1, 80, .inl (fun _ => 0))), (q17, .inl ((xG x).2.1, 80, .inl (fun _ => 0)))] iX5 tyX5_ok nmX5 rfl rfl (by decide) m_357 (fun _ q => q) rfl e5 rfl (by decide +kernel) rfl rfl (Nat.le_of_ble_eq_true rfl) rfl dX5_init_177 ?_
  rw [r7_eq]
  exact J_vret (pc := 180) h hr ⟨adL [b, q1, q2, q3, q4, q5, q6, q7, q8, q9, q10, q11, q12, q13, q14, q15, q16, q17], rfl, rfl, rfl⟩ dX5_init_180

theorem RA_ini : RA 0 σi τi := by
  have s0 : ∀ k, k ≠ 1 → σi k = fun _ => 0 := fun k hk => if_neg hk
  have t0 : ∀ k, k ≠ 7 → τi k = fun _ => 0 := fun k hk => if_neg hk
  refine ⟨by decide, rfl, fun i f hf => ?_, fun r => rfl, fun i => rfl, ⟨rfl, rfl, rfl, rfl, rfl⟩, rfl, ?_, ?_, ?_, fun i => Or.inl rfl, ?_, ?_⟩
  · rw [s0 _ (by omega), t0 _ (by omega)]
  · intro p hp
    rw [t0 8 (by decide), t0 9 (by decide), t0 10 (by decide), t0 11 (by decide), s0 _ (by omega), s0 _ (by omega), s0 _ (by omega), s0 _ (by omega)]
    exact ⟨rfl, fun x hx => ⟨rfl, rfl, rfl⟩⟩
  · intro p hp
    rw [s0 _ (by omega), s0 _ (by omega), s0 _ (by omega), s0 _ (by omega)]
    exact ⟨⟨by decide, by decide⟩, fun i hi => by rw [ti0] at hi; omega⟩
  · intro r hr
    refine Or.inl ?_
    show r7 r = -1
    unfold r7
    rw [if_pos hr]
  · intro k f hk hf
    rw [s0 _ (by omega)]
  · exact ⟨by decide, by decide⟩

