theorem fr5_putPlain {s v : Int32} {σ : Sg} {k : Nat} (h : k ≠ 2 ∧ k ≠ 4 ∧ k ≠ 5 ∧ k ≠ 6) : (f_X5_putPlain s v σ).2 k = σ k := by
  unfold f_X5_putPlain
  repeat' split
  all_goals (funext j; simp only [up2_off _ _ h.1, up2_off _ _ h.2.2.1, fr5_enter h.2])
theorem fr5_putTimed {s v : Int32} {σ : Sg} {k : Nat} (h : k ≠ 2 ∧ k ≠ 3 ∧ k ≠ 4 ∧ k ≠ 5 ∧ k ≠ 6) : (f_X5_putTimed s v σ).2 k = σ k := by
  unfold f_X5_putTimed
  funext j
  simp only [up2_off _ _ h.2.2.2.1, fr5_putPlain ⟨h.1, h.2.2⟩, up2_off _ _ h.2.1, fr5_enter h.2.2]
theorem fr5_put {s v : Int32} {σ : Sg} {k : Nat} (h : k ≠ 2 ∧ k ≠ 3 ∧ k ≠ 4 ∧ k ≠ 5 ∧ k ≠ 6) : (f_X5_put s v σ).2 k = σ k := by
  unfold f_X5_put
  split
  · exact fr5_putPlain ⟨h.1, h.2.2⟩
  · split
    · exact fr5_putTimed h
    · split
      · funext j; simp only [up2_off _ _ h.2.2.2.1, fr5_putTimed h, fr5_enter h.2.2]
      · split <;> (funext j; simp only [up2_off _ _ h.2.2.2.1, fr5_putTimed h, fr5_enter h.2.2])
theorem fr5_give {s w v : Int32} {σ : Sg} {k : Nat} (h : k ≠ 2 ∧ k ≠ 3 ∧ k ≠ 4 ∧ k ≠ 5 ∧ k ≠ 6) : (f_X5_give s w v σ).2 k = σ k := by
  unfold f_X5_give
  repeat' split
  all_goals (funext j; simp only [up2_off _ _ h.2.2.2.1, fr5_put h, fr5_enter h.2.2])
theorem fr5_lfw {s : Int32} {k : Nat} (h : k ≠ 4 ∧ k ≠ 5 ∧ k ≠ 6) : ∀ (m i : Nat) (σ : Sg), (lf_X5_worth m i s σ).2 k = σ k := by
  intro m
  induction m with
  | zero => intro i σ; rfl
  | succ m ih =>
    intro i σ
    unfold lf_X5_worth
    repeat' split
    all_goals first | (rw [ih, fr5_enter h]; done) | (funext j; simp only [up2_off _ _ h.2.1])
theorem fr5_worth {s : Int32} {σ : Sg} {k : Nat} (h : k ≠ 4 ∧ k ≠ 5 ∧ k ≠ 6) : (f_X5_worth s σ).2 k = σ k := fr5_lfw h _ _ _
theorem and7 (b : Int32) : vp_in (b &&& 7) 8 := pk_andIn b 3 rfl (by decide)
/-- what holds of the reference's ints while a run goes on, with B + 1 blocks -/
def MV (B : Nat) (σ : Sg) : Prop := SV (B + 1) σ ∧ B + 1 < 80 ∧ σ 13 0 = 0 ∧ (∀ r : Nat, r < 8 → σ 7 r = -1 ∨ vp_in (σ 7 r) 4200) ∧ ∀ i : Nat, (σ 1 i).toInt ≤ 2
theorem MV.of {B : Nat} {σ σ' : Sg} (h : MV B σ) (e0 : σ' 0 20 = σ 0 20) (e1 : σ' 0 18 = σ 0 18) (e : ∀ k, k = 1 ∨ k = 7 ∨ k = 13 ∨ k = 17 → σ' k = σ k) : MV B σ' := by
  refine ⟨h.1.of e0 e1 (e 13 (by omega)) (e 17 (by omega)), h.2.1, ?_, ?_, ?_⟩
  · rw [e 13 (by omega)]; exact h.2.2.1
  · rw [e 7 (by omega)]; exact h.2.2.2.1
  · rw [e 1 (by omega)]; exact h.2.2.2.2
theorem MV.leave {B : Nat} {σ : Sg} (h : MV B σ) (a : Int32) : MV B (f_X5_leave a σ) := by
  refine ⟨h.1.leave a, h.2.1, ?_, ?_, ?_⟩
  · rw [lv_rows (by decide) (by decide)]; exact h.2.2.1
  · rw [lv_rows (by decide) (by decide)]; exact h.2.2.2.1
  · rw [lv_rows (by decide) (by decide)]; exact h.2.2.2.2
theorem MV.vin2 {B : Nat} {σ : Sg} (h : MV B σ) : vp_in (σ 0 20) 80 := by
  rw [h.1.1]
  exact vp_in_nI h.2.1 (by decide)
theorem MV.put {B : Nat} {σ : Sg} {s v : Int32} (h : MV B σ) : MV B (f_X5_put s v σ).2 := h.of (by rw [fr5_put (by decide)]) (by rw [fr5_put (by decide)]) (fun k hk => fr5_put (by omega))
theorem MV.give {B : Nat} {σ : Sg} {s w v : Int32} (h : MV B σ) : MV B (f_X5_give s w v σ).2 := h.of (by rw [fr5_give (by decide)]) (by rw [fr5_give (by decide)]) (fun k hk => fr5_give (by omega))
theorem MV.enter {B : Nat} {σ : Sg} {s : Int32} (h : MV B σ) : MV B (f_X5_enter s σ) := h.of (by rw [fr5_enter (by decide)]) (by rw [fr5_enter (by decide)]) (fun k hk => fr5_enter (by omega))
theorem step_rk {kd a b : Int32} (N : Int32) (hv : ¬ f_X4_isStep kd a b = 0) (c : kd = N) (hN : N = 2 ∨ N = 3 ∨ N = 4 ∨ N = 5 ∨ N = 6 ∨ N = 7 ∨ N = 13) : vp_in a 8 := by
  subst c
  apply isRoom_in
  intro q
  apply hv
  rcases hN with rfl | rfl | rfl | rfl | rfl | rfl | rfl <;> exact q
theorem step_r0 {kd a b : Int32} (hv : ¬ f_X4_isStep kd a b = 0) (n1 : ¬ kd = 1) (n2 : ¬ kd = 2) (n3 : ¬ kd = 3) (n4 : ¬ kd = 4) (n5 : ¬ kd = 5) (n6 : ¬ kd = 6) (n7 : ¬ kd = 7) (n8 : ¬ kd = 8) (n9 : ¬ kd = 9) (n10 : ¬ kd = 10) (n11 : ¬ kd = 11) (n12 : ¬ kd = 12) (n13 : ¬ kd = 13) : vp_in a 8 := by
  apply isRoom_in
  intro q
  apply hv
  unfold f_X4_isStep
  by_cases n0 : kd = 0
  · rw [if_pos n0, if_pos q]
  · rw [if_neg n0, if_neg n1, if_neg n2, if_neg n3, if_neg n4, if_neg n5, if_neg n6, if_neg n7, if_neg n8, if_neg n9, if_neg n10, if_neg n11, if_neg n12, if_neg n13]
theorem step_pl {kd a b : Int32} (hv : ¬ f_X4_isStep kd a b = 0) (c : kd = 12) : vp_in a 6 := by
  subst c
  apply isPlan_in
  intro q
  exact hv q
def f_X5_withSafe (kd : Int32) (w : Int32) (b : Int32) (σ : Sg) : Sg := (if w = (-1) then (f_X5_fails 1 σ) else (if kd = 0 then (f_X5_within 1 b w (f_X5_leave 1 (f_X5_enter w σ))) else (if kd = 1 then (up2 σ 0 12 (σ 5 w.toNatClampNeg)) else (if kd = 2 then (if (f_X5_put w b σ).1 = 0 then (f_X5_fails 30 ((f_X5_put w b σ).2)) else ((f_X5_put w b σ).2)) else (if kd = 3 then (up2 ((f_X5_worth w σ).2) 0 12 ((f_X5_worth w σ).1)) else (if kd = 4 then (if (f_X5_give w (σ 7 ((b &&& 7).toNatClampNeg)) (σ 0 12) σ).1 = 0 then ((f_X5_give w (σ 7 ((b &&& 7).toNatClampNeg)) (σ 0 12) σ).2) else (f_X5_fails ((f_X5_give w (σ 7 ((b &&& 7).toNatClampNeg)) (σ 0 12) σ).1) ((f_X5_give w (σ 7 ((b &&& 7).toNatClampNeg)) (σ 0 12) σ).2))) else (up2 σ 0 12 (σ 5 w.toNatClampNeg))))))))
theorem hd_X5_withSafe : yX5_withSafe.cls ≠ "java/lang/invoke/MethodHandle" ∧ yX5_withSafe.cls ≠ "java/lang/invoke/VarHandle" ∧ (parseMethodDescriptor yX5_withSafe.desc).map (fun d => d.parameters.length) = some 3 := by decide +kernel
set_option maxHeartbeats 4000000 in
set_option maxRecDepth 20000 in
theorem c_X5_withSafe (l : Launch) (g : Gy) (ad : Nat → Nat) (σ : Sg) (kd : Int32) (w : Int32) (b : Int32) (B : Nat) (hm : MV B σ) (hw : w = -1 ∨ vp_in w 4200) : Con l g yX5_withSafe cX5_withSafe 5 none (rmL 5) [.ref (ad 0), .int kd, .int w, .int b] (wM g ad σ) (Det none (wM g ad (f_X5_withSafe kd w b σ))) := by
  refine Con.of (by decide) (Nat.le_of_ble_eq_true rfl) ?_
  intro x h e1 e2 e3 e4 e5 hr
  subst e1 e2
  have h : Ok x cX5_withSafe "SafeDeskModel" none := h
  have hR : RmOk x 5 0 0 := RmOk.of e3 (Nat.le_refl _) (Nat.le_refl _)
  obtain ⟨out, ho⟩ : ∃ o, f_X5_withSafe kd w b σ = o := ⟨_, rfl⟩
  rw [ho] at hr
  unfold f_X5_withSafe at ho
  show J x 0 0 _ 0 [(0, .ref (ad 0)), (1, .int kd), (2, .int w), (3, .int b)] []
  refine J_iload_n (pc := 0) (n := 2) (i := 2) h 2 rfl rfl dX5_withSafe_0 ?_
  refine J_iconst (pc := 1) h (-1) rfl dX5_withSafe_1 ?_
  refine J_icmp_ne (pc := 2) h 11 (by decide) dX5_withSafe_2 (fun c1 => ?_) (fun c1 => ?_)
  · replace ho := (if_neg c1).symm.trans ho
    refine J_iconst (pc := 11) h (0) rfl dX5_withSafe_11 ?_
    refine J_istore (pc := 12) h [(4, .int 0), (0, .ref (ad 0)), (1, .int kd), (2, .int w), (3, .int b)] (by rw [e4]; decide) rfl dX5_withSafe_12 ?_
    refine J_iload_n (pc := 14) (n := 1) (i := 1) h 2 rfl rfl dX5_withSafe_14 ?_
    by_cases c2 : kd = 0
    · replace ho := (if_pos c2).symm.trans ho
      refine J_tabIn (pc := 15) h (0) 48 c2 (by decide) (by decide) rfl (by decide) dX5_withSafe_15 ?_
      refine J_aload_n (pc := 48) (n := 0) (i := 0) h 1 rfl rfl dX5_withSafe_48 ?_
      refine J_iload_n (pc := 49) (n := 2) (i := 2) h 3 rfl rfl dX5_withSafe_49 ?_
      refine J_cM (pc := 50) h hR (by decide) (c_X5_enter _ _ _ σ w (hw.resolve_left (by assumption))) (by decide) m_475 m_477 ms_22 m_478 ⟨rfl, hd_X5_enter⟩ rfl rfl (Nat.le_of_ble_eq_true rfl) [] rfl dX5_withSafe_50 ?_
      refine J_aload_n (pc := 53) (n := 0) (i := 0) h 1 rfl rfl dX5_withSafe_53 ?_
      refine J_iconst (pc := 54) h (1) rfl dX5_withSafe_54 ?_
      refine J_cM (pc := 55) h hR (by decide) (c_X5_leave _ _ _ (f_X5_enter w σ) 1 (by rw [fr5_enter (by decide)]; exact hm.1.t)) (by decide) m_451 m_453 ms_16 m_454 ⟨rfl, hd_X5_leave⟩ rfl rfl (Nat.le_of_ble_eq_true rfl) [] rfl dX5_withSafe_55 ?_
      refine J_aload_n (pc := 58) (n := 0) (i := 0) h 1 rfl rfl dX5_withSafe_58 ?_
      refine J_iconst (pc := 59) h (1) rfl dX5_withSafe_59 ?_
      refine J_iload_n (pc := 60) (n := 3) (i := 3) h 4 rfl rfl dX5_withSafe_60 ?_
      refine J_iload_n (pc := 61) (n := 2) (i := 2) h 3 rfl rfl dX5_withSafe_61 ?_
      refine J_cM (pc := 62) h hR (by decide) (c_X5_within _ _ _ (f_X5_leave 1 (f_X5_enter w σ)) 1 b w (show MV B (f_X5_leave 1 (f_X5_enter w σ)) from hm.enter.leave _).1.vin (show MV B (f_X5_leave 1 (f_X5_enter w σ)) from hm.enter.leave _).vin2) (by decide) m_463 m_465 ms_19 m_466 ⟨rfl, hd_X5_within⟩ rfl rfl (Nat.le_of_ble_eq_true rfl) [] rfl dX5_withSafe_62 ?_
      refine J_goto (pc := 65) h 133 (by decide) dX5_withSafe_65 ?_
      refine J_iload (pc := 133) h 0 rfl dX5_withSafe_133 ?_
      refine J_if_eq (pc := 135) h 144 (by decide) dX5_withSafe_135 (fun c3 => ?_) (fun c3 => ?_)
      · skip
        exact J_vret (pc := 144) h hr (by subst ho; exact ⟨rfl, rfl⟩) dX5_withSafe_144
      · exact absurd rfl c3
    replace ho := (if_neg c2).symm.trans ho
    by_cases c4 : kd = 1
    · replace ho := (if_pos c4).symm.trans ho
      refine J_tabIn (pc := 15) h (1) 123 c4 (by decide) (by decide) rfl (by decide) dX5_withSafe_15 ?_
      refine J_aload_n (pc := 123) (n := 0) (i := 0) h 1 rfl rfl dX5_withSafe_123 ?_
      refine J_aload_n (pc := 124) (n := 0) (i := 0) h 1 rfl rfl dX5_withSafe_124 ?_
      refine J_Mr5 (pc := 125) h m_337 dX5_withSafe_125 ?_
      refine J_iload_n (pc := 128) (n := 2) (i := 2) h 3 rfl rfl dX5_withSafe_128 ?_
      refine J_Ma (pc := 129) h 5 4200 ⟨by decide, by decide⟩ rfl (hw.resolve_left (by assumption)) (σ 5 w.toNatClampNeg) rfl dX5_withSafe_129 ?_
      refine J_Mp12 (pc := 130) h m_344 dX5_withSafe_130 ?_
      refine J_iload (pc := 133) h 0 rfl dX5_withSafe_133 ?_
      refine J_if_eq (pc := 135) h 144 (by decide) dX5_withSafe_135 (fun c5 => ?_) (fun c5 => ?_)
      · skip
        exact J_vret (pc := 144) h hr (by subst ho; exact ⟨rfl, rfl⟩) dX5_withSafe_144
      · exact absurd rfl c5
    replace ho := (if_neg c4).symm.trans ho
    by_cases c6 : kd = 2
    · replace ho := (if_pos c6).symm.trans ho
      refine J_tabIn (pc := 15) h (2) 68 c6 (by decide) (by decide) rfl (by decide) dX5_withSafe_15 ?_
      refine J_aload_n (pc := 68) (n := 0) (i := 0) h 1 rfl rfl dX5_withSafe_68 ?_
      refine J_iload_n (pc := 69) (n := 2) (i := 2) h 3 rfl rfl dX5_withSafe_69 ?_
      refine J_iload_n (pc := 70) (n := 3) (i := 3) h 4 rfl rfl dX5_withSafe_70 ?_
      refine J_cM (pc := 71) h hR (by decide) (c_X5_put _ _ _ σ w b (hw.resolve_left (by assumption))) (by decide) m_483 m_485 ms_24 m_486 ⟨rfl, hd_X5_put⟩ rfl rfl (Nat.le_of_ble_eq_true rfl) [.int ((f_X5_put w b σ).1)] rfl dX5_withSafe_71 ?_
      refine J_if_eq (pc := 74) h 81 (by decide) dX5_withSafe_74 (fun c7 => ?_) (fun c7 => ?_)
      · replace ho := (if_pos c7).symm.trans ho
        refine J_bipush (pc := 81) h (30) rfl dX5_withSafe_81 ?_
        refine J_istore (pc := 83) h [(4, .int 30), (0, .ref (ad 0)), (1, .int kd), (2, .int w), (3, .int b)] (by rw [e4]; decide) rfl dX5_withSafe_83 ?_
        refine J_goto (pc := 85) h 133 (by decide) dX5_withSafe_85 ?_
        refine J_iload (pc := 133) h 0 rfl dX5_withSafe_133 ?_
        refine J_if_eq (pc := 135) h 144 (by decide) dX5_withSafe_135 (fun c8 => ?_) (fun c8 => ?_)
        · exact absurd c8 (by decide)
        · skip
          refine J_aload_n (pc := 138) (n := 0) (i := 0) h 1 rfl rfl dX5_withSafe_138 ?_
          refine J_iload (pc := 139) h 0 rfl dX5_withSafe_139 ?_
          refine J_cM (pc := 141) h hR (by decide) (c_X5_fails _ _ _ ((f_X5_put w b σ).2) 30 (B + 1) (show MV B ((f_X5_put w b σ).2) from hm.put).1) (by decide) m_455 m_457 ms_17 m_458 ⟨rfl, hd_X5_fails⟩ rfl rfl (Nat.le_of_ble_eq_true rfl) [] rfl dX5_withSafe_141 ?_
          exact J_vret (pc := 144) h hr (by subst ho; exact ⟨rfl, rfl⟩) dX5_withSafe_144
      · replace ho := (if_neg c7).symm.trans ho
        refine J_iconst (pc := 77) h (0) rfl dX5_withSafe_77 ?_
        refine J_goto (pc := 78) h 83 (by decide) dX5_withSafe_78 ?_
        refine J_istore (pc := 83) h [(4, .int 0), (0, .ref (ad 0)), (1, .int kd), (2, .int w), (3, .int b)] (by rw [e4]; decide) rfl dX5_withSafe_83 ?_
        refine J_goto (pc := 85) h 133 (by decide) dX5_withSafe_85 ?_
        refine J_iload (pc := 133) h 0 rfl dX5_withSafe_133 ?_
        refine J_if_eq (pc := 135) h 144 (by decide) dX5_withSafe_135 (fun c9 => ?_) (fun c9 => ?_)
        · skip
          exact J_vret (pc := 144) h hr (by subst ho; exact ⟨rfl, rfl⟩) dX5_withSafe_144
        · exact absurd rfl c9
    replace ho := (if_neg c6).symm.trans ho
    by_cases c10 : kd = 3
    · replace ho := (if_pos c10).symm.trans ho
      refine J_tabIn (pc := 15) h (3) 88 c10 (by decide) (by decide) rfl (by decide) dX5_withSafe_15 ?_
      refine J_aload_n (pc := 88) (n := 0) (i := 0) h 1 rfl rfl dX5_withSafe_88 ?_
      refine J_aload_n (pc := 89) (n := 0) (i := 0) h 1 rfl rfl dX5_withSafe_89 ?_
      refine J_iload_n (pc := 90) (n := 2) (i := 2) h 3 rfl rfl dX5_withSafe_90 ?_
      refine J_cM (pc := 91) h hR (by decide) (c_X5_worth _ _ _ σ w (hw.resolve_left (by assumption)) hm.2.2.2.2) (by decide) m_496 m_498 ms_27 m_499 ⟨rfl, hd_X5_worth⟩ rfl rfl (Nat.le_of_ble_eq_true rfl) [.int ((f_X5_worth w σ).1), .ref (ad 0)] rfl dX5_withSafe_91 ?_
      refine J_Mp12 (pc := 94) h m_344 dX5_withSafe_94 ?_
      refine J_goto (pc := 97) h 133 (by decide) dX5_withSafe_97 ?_
      refine J_iload (pc := 133) h 0 rfl dX5_withSafe_133 ?_
      refine J_if_eq (pc := 135) h 144 (by decide) dX5_withSafe_135 (fun c11 => ?_) (fun c11 => ?_)
      · skip
        exact J_vret (pc := 144) h hr (by subst ho; exact ⟨rfl, rfl⟩) dX5_withSafe_144
      · exact absurd rfl c11
    replace ho := (if_neg c10).symm.trans ho
    by_cases c12 : kd = 4
    · replace ho := (if_pos c12).symm.trans ho
      refine J_tabIn (pc := 15) h (4) 100 c12 (by decide) (by decide) rfl (by decide) dX5_withSafe_15 ?_
      refine J_aload_n (pc := 100) (n := 0) (i := 0) h 1 rfl rfl dX5_withSafe_100 ?_
      refine J_iload_n (pc := 101) (n := 2) (i := 2) h 3 rfl rfl dX5_withSafe_101 ?_
      refine J_aload_n (pc := 102) (n := 0) (i := 0) h 1 rfl rfl dX5_withSafe_102 ?_
      refine J_Mr7 (pc := 103) h m_339 dX5_withSafe_103 ?_
      refine J_iload_n (pc := 106) (n := 3) (i := 3) h 4 rfl rfl dX5_withSafe_106 ?_
      refine J_bipush (pc := 107) h (7) rfl dX5_withSafe_107 ?_
      refine J_iand (pc := 109) h dX5_withSafe_109 ?_
      refine J_Ma (pc := 110) h 7 8 ⟨by decide, by decide⟩ rfl (and7 b) (σ 7 ((b &&& 7).toNatClampNeg)) rfl dX5_withSafe_110 ?_
      refine J_aload_n (pc := 111) (n := 0) (i := 0) h 1 rfl rfl dX5_withSafe_111 ?_
      refine J_Mg12 (pc := 112) h m_344 (σ 0 12) rfl dX5_withSafe_112 ?_
      refine J_cM (pc := 115) h hR (by decide) (c_X5_give _ _ _ σ w (σ 7 ((b &&& 7).toNatClampNeg)) (σ 0 12) (hw.resolve_left (by assumption)) (hm.2.2.2.1 _ (vp_lt (and7 b)))) (by decide) m_500 m_502 ms_28 m_503 ⟨rfl, hd_X5_give⟩ rfl rfl (Nat.le_of_ble_eq_true rfl) [.int ((f_X5_give w (σ 7 ((b &&& 7).toNatClampNeg)) (σ 0 12) σ).1)] rfl dX5_withSafe_115 ?_
      refine J_istore (pc := 118) h [(4, .int ((f_X5_give w (σ 7 ((b &&& 7).toNatClampNeg)) (σ 0 12) σ).1)), (0, .ref (ad 0)), (1, .int kd), (2, .int w), (3, .int b)] (by rw [e4]; decide) rfl dX5_withSafe_118 ?_
      refine J_goto (pc := 120) h 133 (by decide) dX5_withSafe_120 ?_
      refine J_iload (pc := 133) h 0 rfl dX5_withSafe_133 ?_
      refine J_if_eq (pc := 135) h 144 (by decide) dX5_withSafe_135 (fun c13 => ?_) (fun c13 => ?_)
      · replace ho := (if_pos c13).symm.trans ho
        exact J_vret (pc := 144) h hr (by subst ho; exact ⟨rfl, rfl⟩) dX5_withSafe_144
      · replace ho := (if_neg c13).symm.trans ho
        refine J_aload_n (pc := 138) (n := 0) (i := 0) h 1 rfl rfl dX5_withSafe_138 ?_
        refine J_iload (pc := 139) h 0 rfl dX5_withSafe_139 ?_
        refine J_cM (pc := 141) h hR (by decide) (c_X5_fails _ _ _ ((f_X5_give w (σ 7 ((b &&& 7).toNatClampNeg)) (σ 0 12) σ).2) ((f_X5_give w (σ 7 ((b &&& 7).toNatClampNeg)) (σ 0 12) σ).1) (B + 1) (show MV B ((f_X5_give w (σ 7 ((b &&& 7).toNatClampNeg)) (σ 0 12) σ).2) from hm.give).1) (by decide) m_455 m_457 ms_17 m_458 ⟨rfl, hd_X5_fails⟩ rfl rfl (Nat.le_of_ble_eq_true rfl) [] rfl dX5_withSafe_141 ?_
        exact J_vret (pc := 144) h hr (by subst ho; exact ⟨rfl, rfl⟩) dX5_withSafe_144
    replace ho := (if_neg c12).symm.trans ho
    refine J_tabOut (pc := 15) h 123 (by have zc2 := ne_toI c2 (n := 0) rfl; have zc4 := ne_toI c4 (n := 1) rfl; have zc6 := ne_toI c6 (n := 2) rfl; have zc10 := ne_toI c10 (n := 3) rfl; have zc12 := ne_toI c12 (n := 4) rfl; omega) (by decide) dX5_withSafe_15 ?_
    refine J_aload_n (pc := 123) (n := 0) (i := 0) h 1 rfl rfl dX5_withSafe_123 ?_
    refine J_aload_n (pc := 124) (n := 0) (i := 0) h 1 rfl rfl dX5_withSafe_124 ?_
    refine J_Mr5 (pc := 125) h m_337 dX5_withSafe_125 ?_
    refine J_iload_n (pc := 128) (n := 2) (i := 2) h 3 rfl rfl dX5_withSafe_128 ?_
    refine J_Ma (pc := 129) h 5 4200 ⟨by decide, by decide⟩ rfl (hw.resolve_left (by assumption)) (σ 5 w.toNatClampNeg) rfl dX5_withSafe_129 ?_
    refine J_Mp12 (pc := 130) h m_344 dX5_withSafe_130 ?_
    refine J_iload (pc := 133) h 0 rfl dX5_withSafe_133 ?_
    refine J_if_eq (pc := 135) h 144 (by decide) dX5_withSafe_135 (fun c14 => ?_) (fun c14 => ?_)
    · skip
      exact J_vret (pc := 144) h hr (by subst ho; exact ⟨rfl, rfl⟩) dX5_withSafe_144
    · exact absurd rfl c14
  · replace ho := (if_pos c1).symm.trans ho
    refine J_aload_n (pc := 5) (n := 0) (i := 0) h 0 rfl rfl dX5_withSafe_5 ?_
    refine J_iconst (pc := 6) h (1) rfl dX5_withSafe_6 ?_
    refine J_cM (pc := 7) h hR (by decide) (c_X5_fails _ _ _ σ 1 (B + 1) hm.1) (by decide) m_455 m_457 ms_17 m_458 ⟨rfl, hd_X5_fails⟩ rfl rfl (Nat.le_of_ble_eq_true rfl) [] rfl dX5_withSafe_7 ?_
    exact J_vret (pc := 10) h hr (by subst ho; exact ⟨rfl, rfl⟩) dX5_withSafe_10
def f_X5_does (kd : Int32) (a : Int32) (b : Int32) (σ : Sg) : Sg := (if kd = 1 then (f_X5_within 2 b a σ) else (if kd = 2 then (f_X5_withSafe kd (σ 7 a.toNatClampNeg) b σ) else (if kd = 3 then (f_X5_withSafe kd (σ 7 a.toNatClampNeg) b σ) else (if kd = 4 then (f_X5_withSafe kd (σ 7 a.toNatClampNeg) b σ) else (if kd = 5 then (up2 σ 7 a.toNatClampNeg (σ 7 ((b &&& 7).toNatClampNeg))) else (if kd = 6 then (up2 σ 7 a.toNatClampNeg (-1)) else (if kd = 7 then (f_X5_withSafe kd (σ 7 a.toNatClampNeg) b σ) else (if kd = 8 then (if a = 0 then (f_X5_fails 6 σ) else (up2 σ 0 12 ((σ 0 12) / a))) else (if kd = 9 then (f_X5_fails a σ) else (if kd = 10 then (f_X5_back a σ) else (if kd = 11 then (up2 σ 0 12 ((σ 0 12) + a)) else (if kd = 12 then (if σ 0 16 = 4 then (f_X5_fails 7 σ) else (f_X5_beginPlan a σ)) else (if kd = 13 then (f_X5_seek a b σ) else (f_X5_withSafe kd (σ 7 a.toNatClampNeg) b σ))))))))))))))
theorem hd_X5_does : yX5_does.cls ≠ "java/lang/invoke/MethodHandle" ∧ yX5_does.cls ≠ "java/lang/invoke/VarHandle" ∧ (parseMethodDescriptor yX5_does.desc).map (fun d => d.parameters.length) = some 3 := by decide +kernel
set_option maxHeartbeats 4000000 in
set_option maxRecDepth 20000 in
theorem c_X5_does (l : Launch) (g : Gy) (ad : Nat → Nat) (σ : Sg) (kd : Int32) (a : Int32) (b : Int32) (B : Nat) (hm : MV B σ) (hv : ¬ f_X4_isStep kd a b = 0) : Con l g yX5_does cX5_does 4 none (rmL 6) [.ref (ad 0), .int kd, .int a, .int b] (wM g ad σ) (Det none (wM g ad (f_X5_does kd a b σ))) := by
  refine Con.of (by decide) (Nat.le_of_ble_eq_true rfl) ?_
  intro x h e1 e2 e3 e4 e5 hr
  subst e1 e2
  have h : Ok x cX5_does "SafeDeskModel" none := h
  have hR : RmOk x 6 0 0 := RmOk.of e3 (Nat.le_refl _) (Nat.le_refl _)
  obtain ⟨out, ho⟩ : ∃ o, f_X5_does kd a b σ = o := ⟨_, rfl⟩
  rw [ho] at hr
  unfold f_X5_does at ho
  show J x 0 0 _ 0 [(0, .ref (ad 0)), (1, .int kd), (2, .int a), (3, .int b)] []
  refine J_iload_n (pc := 0) (n := 1) (i := 1) h 1 rfl rfl dX5_does_0 ?_
  by_cases c1 : kd = 1
  · replace ho := (if_pos c1).symm.trans ho
    refine J_tabIn (pc := 1) h (1) 68 c1 (by decide) (by decide) rfl (by decide) dX5_does_1 ?_
    refine J_aload_n (pc := 68) (n := 0) (i := 0) h 0 rfl rfl dX5_does_68 ?_
    refine J_iconst (pc := 69) h (2) rfl dX5_does_69 ?_
    refine J_iload_n (pc := 70) (n := 3) (i := 3) h 3 rfl rfl dX5_does_70 ?_
    refine J_iload_n (pc := 71) (n := 2) (i := 2) h 2 rfl rfl dX5_does_71 ?_
    refine J_cM (pc := 72) h hR (by decide) (c_X5_within _ _ _ σ 2 b a hm.1.vin hm.vin2) (by decide) m_463 m_465 ms_19 m_466 ⟨rfl, hd_X5_within⟩ rfl rfl (Nat.le_of_ble_eq_true rfl) [] rfl dX5_does_72 ?_
    refine J_goto (pc := 75) h 207 (by decide) dX5_does_75 ?_
    exact J_vret (pc := 207) h hr (by subst ho; exact ⟨rfl, rfl⟩) dX5_does_207
  replace ho := (if_neg c1).symm.trans ho
  by_cases c2 : kd = 2
  · replace ho := (if_pos c2).symm.trans ho
    refine J_tabIn (pc := 1) h (2) 195 c2 (by decide) (by decide) rfl (by decide) dX5_does_1 ?_
    refine J_aload_n (pc := 195) (n := 0) (i := 0) h 0 rfl rfl dX5_does_195 ?_
    refine J_iload_n (pc := 196) (n := 1) (i := 1) h 1 rfl rfl dX5_does_196 ?_
    refine J_aload_n (pc := 197) (n := 0) (i := 0) h 0 rfl rfl dX5_does_197 ?_
    refine J_Mr7 (pc := 198) h m_339 dX5_does_198 ?_
    refine J_iload_n (pc := 201) (n := 2) (i := 2) h 2 rfl rfl dX5_does_201 ?_
    refine J_Ma (pc := 202) h 7 8 ⟨by decide, by decide⟩ rfl (step_rk 2 hv c2 (by decide)) (σ 7 a.toNatClampNeg) rfl dX5_does_202 ?_
    refine J_iload_n (pc := 203) (n := 3) (i := 3) h 3 rfl rfl dX5_does_203 ?_
    refine J_cM (pc := 204) h hR (by decide) (c_X5_withSafe _ _ _ σ kd (σ 7 a.toNatClampNeg) b B hm (hm.2.2.2.1 _ (vp_lt (step_rk 2 hv c2 (by decide))))) (by decide) m_479 m_481 ms_23 m_482 ⟨rfl, hd_X5_withSafe⟩ rfl rfl (Nat.le_of_ble_eq_true rfl) [] rfl dX5_does_204 ?_
    exact J_vret (pc := 207) h hr (by subst ho; exact ⟨rfl, rfl⟩) dX5_does_207
  replace ho := (if_neg c2).symm.trans ho
  by_cases c3 : kd = 3
  · replace ho := (if_pos c3).symm.trans ho
    refine J_tabIn (pc := 1) h (3) 195 c3 (by decide) (by decide) rfl (by decide) dX5_does_1 ?_
    refine J_aload_n (pc := 195) (n := 0) (i := 0) h 0 rfl rfl dX5_does_195 ?_
    refine J_iload_n (pc := 196) (n := 1) (i := 1) h 1 rfl rfl dX5_does_196 ?_
    refine J_aload_n (pc := 197) (n := 0) (i := 0) h 0 rfl rfl dX5_does_197 ?_
    refine J_Mr7 (pc := 198) h m_339 dX5_does_198 ?_
    refine J_iload_n (pc := 201) (n := 2) (i := 2) h 2 rfl rfl dX5_does_201 ?_
    refine J_Ma (pc := 202) h 7 8 ⟨by decide, by decide⟩ rfl (step_rk 3 hv c3 (by decide)) (σ 7 a.toNatClampNeg) rfl dX5_does_202 ?_
    refine J_iload_n (pc := 203) (n := 3) (i := 3) h 3 rfl rfl dX5_does_203 ?_
    refine J_cM (pc := 204) h hR (by decide) (c_X5_withSafe _ _ _ σ kd (σ 7 a.toNatClampNeg) b B hm (hm.2.2.2.1 _ (vp_lt (step_rk 3 hv c3 (by decide))))) (by decide) m_479 m_481 ms_23 m_482 ⟨rfl, hd_X5_withSafe⟩ rfl rfl (Nat.le_of_ble_eq_true rfl) [] rfl dX5_does_204 ?_
    exact J_vret (pc := 207) h hr (by subst ho; exact ⟨rfl, rfl⟩) dX5_does_207
  replace ho := (if_neg c3).symm.trans ho
  by_cases c4 : kd = 4
  · replace ho := (if_pos c4).symm.trans ho
    refine J_tabIn (pc := 1) h (4) 195 c4 (by decide) (by decide) rfl (by decide) dX5_does_1 ?_
    refine J_aload_n (pc := 195) (n := 0) (i := 0) h 0 rfl rfl dX5_does_195 ?_
    refine J_iload_n (pc := 196) (n := 1) (i := 1) h 1 rfl rfl dX5_does_196 ?_
    refine J_aload_n (pc := 197) (n := 0) (i := 0) h 0 rfl rfl dX5_does_197 ?_
    refine J_Mr7 (pc := 198) h m_339 dX5_does_198 ?_
    refine J_iload_n (pc := 201) (n := 2) (i := 2) h 2 rfl rfl dX5_does_201 ?_
    refine J_Ma (pc := 202) h 7 8 ⟨by decide, by decide⟩ rfl (step_rk 4 hv c4 (by decide)) (σ 7 a.toNatClampNeg) rfl dX5_does_202 ?_
    refine J_iload_n (pc := 203) (n := 3) (i := 3) h 3 rfl rfl dX5_does_203 ?_
    refine J_cM (pc := 204) h hR (by decide) (c_X5_withSafe _ _ _ σ kd (σ 7 a.toNatClampNeg) b B hm (hm.2.2.2.1 _ (vp_lt (step_rk 4 hv c4 (by decide))))) (by decide) m_479 m_481 ms_23 m_482 ⟨rfl, hd_X5_withSafe⟩ rfl rfl (Nat.le_of_ble_eq_true rfl) [] rfl dX5_does_204 ?_
    exact J_vret (pc := 207) h hr (by subst ho; exact ⟨rfl, rfl⟩) dX5_does_207
  replace ho := (if_neg c4).symm.trans ho
  by_cases c5 : kd = 5
  · replace ho := (if_pos c5).symm.trans ho
    refine J_tabIn (pc := 1) h (5) 78 c5 (by decide) (by decide) rfl (by decide) dX5_does_1 ?_
    refine J_aload_n (pc := 78) (n := 0) (i := 0) h 0 rfl rfl dX5_does_78 ?_
    refine J_Mr7 (pc := 79) h m_339 dX5_does_79 ?_
    refine J_iload_n (pc := 82) (n := 2) (i := 2) h 2 rfl rfl dX5_does_82 ?_
    refine J_aload_n (pc := 83) (n := 0) (i := 0) h 0 rfl rfl dX5_does_83 ?_
    refine J_Mr7 (pc := 84) h m_339 dX5_does_84 ?_
    refine J_iload_n (pc := 87) (n := 3) (i := 3) h 3 rfl rfl dX5_does_87 ?_
    refine J_bipush (pc := 88) h (7) rfl dX5_does_88 ?_
    refine J_iand (pc := 90) h dX5_does_90 ?_
    refine J_Ma (pc := 91) h 7 8 ⟨by decide, by decide⟩ rfl (and7 b) (σ 7 ((b &&& 7).toNatClampNeg)) rfl dX5_does_91 ?_
    refine J_Ms (pc := 92) h 7 8 ⟨by decide, by decide⟩ rfl (step_rk 5 hv c5 (by decide)) dX5_does_92 ?_
    refine J_goto (pc := 93) h 207 (by decide) dX5_does_93 ?_
    exact J_vret (pc := 207) h hr (by subst ho; exact ⟨rfl, rfl⟩) dX5_does_207
  replace ho := (if_neg c5).symm.trans ho
  by_cases c6 : kd = 6
  · replace ho := (if_pos c6).symm.trans ho
    refine J_tabIn (pc := 1) h (6) 96 c6 (by decide) (by decide) rfl (by decide) dX5_does_1 ?_
    refine J_aload_n (pc := 96) (n := 0) (i := 0) h 0 rfl rfl dX5_does_96 ?_
    refine J_Mr7 (pc := 97) h m_339 dX5_does_97 ?_
    refine J_iload_n (pc := 100) (n := 2) (i := 2) h 2 rfl rfl dX5_does_100 ?_
    refine J_iconst (pc := 101) h (-1) rfl dX5_does_101 ?_
    refine J_Ms (pc := 102) h 7 8 ⟨by decide, by decide⟩ rfl (step_rk 6 hv c6 (by decide)) dX5_does_102 ?_
    refine J_goto (pc := 103) h 207 (by decide) dX5_does_103 ?_
    exact J_vret (pc := 207) h hr (by subst ho; exact ⟨rfl, rfl⟩) dX5_does_207
  replace ho := (if_neg c6).symm.trans ho
  by_cases c7 : kd = 7
  · replace ho := (if_pos c7).symm.trans ho
    refine J_tabIn (pc := 1) h (7) 195 c7 (by decide) (by decide) rfl (by decide) dX5_does_1 ?_
    refine J_aload_n (pc := 195) (n := 0) (i := 0) h 0 rfl rfl dX5_does_195 ?_
    refine J_iload_n (pc := 196) (n := 1) (i := 1) h 1 rfl rfl dX5_does_196 ?_
    refine J_aload_n (pc := 197) (n := 0) (i := 0) h 0 rfl rfl dX5_does_197 ?_
    refine J_Mr7 (pc := 198) h m_339 dX5_does_198 ?_
    refine J_iload_n (pc := 201) (n := 2) (i := 2) h 2 rfl rfl dX5_does_201 ?_
    refine J_Ma (pc := 202) h 7 8 ⟨by decide, by decide⟩ rfl (step_rk 7 hv c7 (by decide)) (σ 7 a.toNatClampNeg) rfl dX5_does_202 ?_
    refine J_iload_n (pc := 203) (n := 3) (i := 3) h 3 rfl rfl dX5_does_203 ?_
    refine J_cM (pc := 204) h hR (by decide) (c_X5_withSafe _ _ _ σ kd (σ 7 a.toNatClampNeg) b B hm (hm.2.2.2.1 _ (vp_lt (step_rk 7 hv c7 (by decide))))) (by decide) m_479 m_481 ms_23 m_482 ⟨rfl, hd_X5_withSafe⟩ rfl rfl (Nat.le_of_ble_eq_true rfl) [] rfl dX5_does_204 ?_
    exact J_vret (pc := 207) h hr (by subst ho; exact ⟨rfl, rfl⟩) dX5_does_207
  replace ho := (if_neg c7).symm.trans ho
  by_cases c8 : kd = 8
  · replace ho := (if_pos c8).symm.trans ho
    refine J_tabIn (pc := 1) h (8) 106 c8 (by decide) (by decide) rfl (by decide) dX5_does_1 ?_
    refine J_iload_n (pc := 106) (n := 2) (i := 2) h 2 rfl rfl dX5_does_106 ?_
    refine J_if_ne (pc := 107) h 119 (by decide) dX5_does_107 (fun c9 => ?_) (fun c9 => ?_)
    · replace ho := (if_neg c9).symm.trans ho
      refine J_aload_n (pc := 119) (n := 0) (i := 0) h 0 rfl rfl dX5_does_119 ?_
      refine J_aload_n (pc := 120) (n := 0) (i := 0) h 0 rfl rfl dX5_does_120 ?_
      refine J_Mg12 (pc := 121) h m_344 (σ 0 12) rfl dX5_does_121 ?_
      refine J_iload_n (pc := 124) (n := 2) (i := 2) h 2 rfl rfl dX5_does_124 ?_
      refine J_idiv (pc := 125) h (by assumption) dX5_does_125 ?_
      refine J_Mp12 (pc := 126) h m_344 dX5_does_126 ?_
      refine J_goto (pc := 129) h 207 (by decide) dX5_does_129 ?_
      exact J_vret (pc := 207) h hr (by subst ho; exact ⟨rfl, rfl⟩) dX5_does_207
    · replace ho := (if_pos c9).symm.trans ho
      refine J_aload_n (pc := 110) (n := 0) (i := 0) h 0 rfl rfl dX5_does_110 ?_
      refine J_bipush (pc := 111) h (6) rfl dX5_does_111 ?_
      refine J_cM (pc := 113) h hR (by decide) (c_X5_fails _ _ _ σ 6 (B + 1) hm.1) (by decide) m_455 m_457 ms_17 m_458 ⟨rfl, hd_X5_fails⟩ rfl rfl (Nat.le_of_ble_eq_true rfl) [] rfl dX5_does_113 ?_
      refine J_goto (pc := 116) h 207 (by decide) dX5_does_116 ?_
      exact J_vret (pc := 207) h hr (by subst ho; exact ⟨rfl, rfl⟩) dX5_does_207
  replace ho := (if_neg c8).symm.trans ho
  by_cases c10 : kd = 9
  · replace ho := (if_pos c10).symm.trans ho
    refine J_tabIn (pc := 1) h (9) 132 c10 (by decide) (by decide) rfl (by decide) dX5_does_1 ?_
    refine J_aload_n (pc := 132) (n := 0) (i := 0) h 0 rfl rfl dX5_does_132 ?_
    refine J_iload_n (pc := 133) (n := 2) (i := 2) h 2 rfl rfl dX5_does_133 ?_
    refine J_cM (pc := 134) h hR (by decide) (c_X5_fails _ _ _ σ a (B + 1) hm.1) (by decide) m_455 m_457 ms_17 m_458 ⟨rfl, hd_X5_fails⟩ rfl rfl (Nat.le_of_ble_eq_true rfl) [] rfl dX5_does_134 ?_
    refine J_goto (pc := 137) h 207 (by decide) dX5_does_137 ?_
    exact J_vret (pc := 207) h hr (by subst ho; exact ⟨rfl, rfl⟩) dX5_does_207
  replace ho := (if_neg c10).symm.trans ho
  by_cases c11 : kd = 10
  · replace ho := (if_pos c11).symm.trans ho
    refine J_tabIn (pc := 1) h (10) 140 c11 (by decide) (by decide) rfl (by decide) dX5_does_1 ?_
    refine J_aload_n (pc := 140) (n := 0) (i := 0) h 0 rfl rfl dX5_does_140 ?_
    refine J_iload_n (pc := 141) (n := 2) (i := 2) h 2 rfl rfl dX5_does_141 ?_
    refine J_cM (pc := 142) h hR (by decide) (c_X5_back _ _ _ σ a B hm.1 hm.2.2.1) (by decide) m_467 m_469 ms_20 m_470 ⟨rfl, hd_X5_back⟩ rfl rfl (Nat.le_of_ble_eq_true rfl) [] rfl dX5_does_142 ?_
    refine J_goto (pc := 145) h 207 (by decide) dX5_does_145 ?_
    exact J_vret (pc := 207) h hr (by subst ho; exact ⟨rfl, rfl⟩) dX5_does_207
  replace ho := (if_neg c11).symm.trans ho
  by_cases c12 : kd = 11
  · replace ho := (if_pos c12).symm.trans ho
    refine J_tabIn (pc := 1) h (11) 148 c12 (by decide) (by decide) rfl (by decide) dX5_does_1 ?_
    refine J_aload_n (pc := 148) (n := 0) (i := 0) h 0 rfl rfl dX5_does_148 ?_
    refine J_aload_n (pc := 149) (n := 0) (i := 0) h 0 rfl rfl dX5_does_149 ?_
    refine J_Mg12 (pc := 150) h m_344 (σ 0 12) rfl dX5_does_150 ?_
    refine J_iload_n (pc := 153) (n := 2) (i := 2) h 2 rfl rfl dX5_does_153 ?_
    refine J_iadd (pc := 154) h dX5_does_154 ?_
    refine J_Mp12 (pc := 155) h m_344 dX5_does_155 ?_
    refine J_goto (pc := 158) h 207 (by decide) dX5_does_158 ?_
    exact J_vret (pc := 207) h hr (by subst ho; exact ⟨rfl, rfl⟩) dX5_does_207
  replace ho := (if_neg c12).symm.trans ho
  by_cases c13 : kd = 12
  · replace ho := (if_pos c13).symm.trans ho
    refine J_tabIn (pc := 1) h (12) 161 c13 (by decide) (by decide) rfl (by decide) dX5_does_1 ?_
    refine J_aload_n (pc := 161) (n := 0) (i := 0) h 0 rfl rfl dX5_does_161 ?_
    refine J_Mg16 (pc := 162) h m_348 (σ 0 16) rfl dX5_does_162 ?_
    refine J_iconst (pc := 165) h (4) rfl dX5_does_165 ?_
    refine J_icmp_ne (pc := 166) h 178 (by decide) dX5_does_166 (fun c14 => ?_) (fun c14 => ?_)
    · replace ho := (if_neg c14).symm.trans ho
      refine J_aload_n (pc := 178) (n := 0) (i := 0) h 0 rfl rfl dX5_does_178 ?_
      refine J_iload_n (pc := 179) (n := 2) (i := 2) h 2 rfl rfl dX5_does_179 ?_
      refine J_cM (pc := 180) h hR (by decide) (c_X5_beginPlan _ _ _ σ a (step_pl hv c13) hm.vin2) (by decide) m_439 m_441 ms_13 m_442 ⟨rfl, hd_X5_beginPlan⟩ rfl rfl (Nat.le_of_ble_eq_true rfl) [] rfl dX5_does_180 ?_
      refine J_goto (pc := 183) h 207 (by decide) dX5_does_183 ?_
      exact J_vret (pc := 207) h hr (by subst ho; exact ⟨rfl, rfl⟩) dX5_does_207
    · replace ho := (if_pos c14).symm.trans ho
      refine J_aload_n (pc := 169) (n := 0) (i := 0) h 0 rfl rfl dX5_does_169 ?_
      refine J_bipush (pc := 170) h (7) rfl dX5_does_170 ?_
      refine J_cM (pc := 172) h hR (by decide) (c_X5_fails _ _ _ σ 7 (B + 1) hm.1) (by decide) m_455 m_457 ms_17 m_458 ⟨rfl, hd_X5_fails⟩ rfl rfl (Nat.le_of_ble_eq_true rfl) [] rfl dX5_does_172 ?_
      refine J_goto (pc := 175) h 207 (by decide) dX5_does_175 ?_
      exact J_vret (pc := 207) h hr (by subst ho; exact ⟨rfl, rfl⟩) dX5_does_207
  replace ho := (if_neg c13).symm.trans ho
  by_cases c15 : kd = 13
  · replace ho := (if_pos c15).symm.trans ho
    refine J_tabIn (pc := 1) h (13) 186 c15 (by decide) (by decide) rfl (by decide) dX5_does_1 ?_
    refine J_aload_n (pc := 186) (n := 0) (i := 0) h 0 rfl rfl dX5_does_186 ?_
    refine J_iload_n (pc := 187) (n := 2) (i := 2) h 2 rfl rfl dX5_does_187 ?_
    refine J_iload_n (pc := 188) (n := 3) (i := 3) h 3 rfl rfl dX5_does_188 ?_
    refine J_cM (pc := 189) h hR (by decide) (c_X5_seek _ _ _ σ a b hm.2.2.2.1 (step_rk 13 hv c15 (by decide))) (by decide) m_471 m_473 ms_21 m_474 ⟨rfl, hd_X5_seek⟩ rfl rfl (Nat.le_of_ble_eq_true rfl) [] rfl dX5_does_189 ?_
    refine J_goto (pc := 192) h 207 (by decide) dX5_does_192 ?_
    exact J_vret (pc := 207) h hr (by subst ho; exact ⟨rfl, rfl⟩) dX5_does_207
  replace ho := (if_neg c15).symm.trans ho
  refine J_tabOut (pc := 1) h 195 (by have zc1 := ne_toI c1 (n := 1) rfl; have zc2 := ne_toI c2 (n := 2) rfl; have zc3 := ne_toI c3 (n := 3) rfl; have zc4 := ne_toI c4 (n := 4) rfl; have zc5 := ne_toI c5 (n := 5) rfl; have zc6 := ne_toI c6 (n := 6) rfl; have zc7 := ne_toI c7 (n := 7) rfl; have zc8 := ne_toI c8 (n := 8) rfl; have zc10 := ne_toI c10 (n := 9) rfl; have zc11 := ne_toI c11 (n := 10) rfl; have zc12 := ne_toI c12 (n := 11) rfl; have zc13 := ne_toI c13 (n := 12) rfl; have zc15 := ne_toI c15 (n := 13) rfl; omega) (by decide) dX5_does_1 ?_
  refine J_aload_n (pc := 195) (n := 0) (i := 0) h 0 rfl rfl dX5_does_195 ?_
  refine J_iload_n (pc := 196) (n := 1) (i := 1) h 1 rfl rfl dX5_does_196 ?_
  refine J_aload_n (pc := 197) (n := 0) (i := 0) h 0 rfl rfl dX5_does_197 ?_
  refine J_Mr7 (pc := 198) h m_339 dX5_does_198 ?_
  refine J_iload_n (pc := 201) (n := 2) (i := 2) h 2 rfl rfl dX5_does_201 ?_
  refine J_Ma (pc := 202) h 7 8 ⟨by decide, by decide⟩ rfl (step_r0 hv c1 c2 c3 c4 c5 c6 c7 c8 c10 c11 c12 c13 c15) (σ 7 a.toNatClampNeg) rfl dX5_does_202 ?_
  refine J_iload_n (pc := 203) (n := 3) (i := 3) h 3 rfl rfl dX5_does_203 ?_
  refine J_cM (pc := 204) h hR (by decide) (c_X5_withSafe _ _ _ σ kd (σ 7 a.toNatClampNeg) b B hm (hm.2.2.2.1 _ (vp_lt (step_r0 hv c1 c2 c3 c4 c5 c6 c7 c8 c10 c11 c12 c13 c15)))) (by decide) m_479 m_481 ms_23 m_482 ⟨rfl, hd_X5_withSafe⟩ rfl rfl (Nat.le_of_ble_eq_true rfl) [] rfl dX5_does_204 ?_
  exact J_vret (pc := 207) h hr (by subst ho; exact ⟨rfl, rfl⟩) dX5_does_207
