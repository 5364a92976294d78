/-- the reference's stack of B blocks: who was entered is there; the trace's length -/
def SV (B : Nat) (σ : Sg) : Prop := σ 0 20 = nI B ∧ B ≤ 80 ∧ (∀ k, k < B → σ 13 k = 1 → vp_in (σ 17 k) 4200) ∧ (¬ σ 0 18 < 0 ∧ σ 0 18 ≤ 120)
theorem SV.of {B : Nat} {σ σ' : Sg} (h : SV B σ) (e0 : σ' 0 20 = σ 0 20) (e1 : σ' 0 18 = σ 0 18) (e2 : σ' 13 = σ 13) (e3 : σ' 17 = σ 17) : SV B σ' := by
  unfold SV
  rw [e0, e1, e2, e3]
  exact h
theorem SV.pos {B : Nat} {σ : Sg} (h : SV B σ) (c : ¬ σ 0 20 ≤ 0) : 0 < B := by
  rcases Nat.eq_zero_or_pos B with rfl | hp
  · exact absurd (by rw [h.1]; decide) c
  · exact hp
theorem SV.m1 {B : Nat} {σ : Sg} (h : SV (B + 1) σ) : (σ 0 20) - 1 = nI B := by rw [h.1, nI_pred]
theorem SV.vin {B : Nat} {σ : Sg} (h : SV (B + 1) σ) : vp_in ((σ 0 20) - 1) 80 := by
  rw [h.m1]
  exact vp_in_nI (by have := h.2.1; omega) (by decide)
theorem SV.nat {B : Nat} {σ : Sg} (h : SV (B + 1) σ) : ((σ 0 20) - 1).toNatClampNeg = B := by
  rw [h.m1, nI_clamp (by have := h.2.1; omega)]
theorem SV.ab {B : Nat} {σ : Sg} (h : SV (B + 1) σ) : σ 13 ((σ 0 20) - 1).toNatClampNeg = 1 → vp_in (σ 17 ((σ 0 20) - 1).toNatClampNeg) 4200 := by
  rw [h.nat]
  exact h.2.2.1 B (by omega)
theorem SV.t {B : Nat} {σ : Sg} (h : SV B σ) : ¬ σ 0 18 < 0 := h.2.2.2.1
theorem lv_rows {a : Int32} {σ : Sg} {k : Nat} (h0 : k ≠ 0) (h12 : k ≠ 12) : f_X5_leave a σ k = σ k := by
  unfold f_X5_leave
  split
  · rfl
  · funext j
    rw [up2_off _ _ h0, up2_off _ _ h12]
theorem lv_0 {a : Int32} {σ : Sg} {i : Nat} (h : i ≠ 18) : f_X5_leave a σ 0 i = σ 0 i := by
  unfold f_X5_leave
  split
  · rfl
  · rw [up2_row _ _ _ h, up2_off _ _ (by decide)]
theorem lv_t {a : Int32} {σ : Sg} (h : ¬ σ 0 18 < 0 ∧ σ 0 18 ≤ 120) : ¬ f_X5_leave a σ 0 18 < 0 ∧ f_X5_leave a σ 0 18 ≤ 120 := by
  unfold f_X5_leave
  by_cases c : (120 : Int32) ≤ σ 0 18
  · rw [if_pos c]; exact h
  · rw [if_neg c, up2_self]
    obtain ⟨t0, t1⟩ := h
    rw [i_lt, ti0] at t0
    rw [i_le, show (120 : Int32).toInt = 120 from rfl] at c
    have e := toInt_succ (i := σ 0 18) (by omega) (by omega)
    rw [i_lt, i_le, e, ti0, show (120 : Int32).toInt = 120 from rfl]
    omega
theorem SV.leave {B : Nat} {σ : Sg} (h : SV B σ) (a : Int32) : SV B (f_X5_leave a σ) := by
  refine ⟨by rw [lv_0 (by decide)]; exact h.1, h.2.1, ?_, lv_t h.2.2.2⟩
  rw [lv_rows (by decide) (by decide), lv_rows (by decide) (by decide)]
  exact h.2.2.1
theorem SV.popd {B : Nat} {σ : Sg} (h : SV (B + 1) σ) : SV B (f_X5_pop σ) := by
  have h1 : SV B (up2 σ 0 20 ((σ 0 20) - 1)) := by
    refine ⟨by rw [up2_self]; exact h.m1, by have := h.2.1; omega, fun k hk => ?_, ?_⟩
    · rw [up2_off _ _ (by decide), up2_off _ _ (by decide)]; exact h.2.2.1 k (by omega)
    · rw [up2_row _ _ _ (by decide)]; exact h.2.2.2
  unfold f_X5_pop
  by_cases c1 : σ 13 (((σ 0 20) - 1).toNatClampNeg) = 1
  · rw [if_pos c1]
    exact SV.leave (h1.of (up2_off _ _ (by decide)) (up2_off _ _ (by decide)) (by funext j; exact up2_off _ _ (by decide)) (by funext j; exact up2_off _ _ (by decide))) 2
  · rw [if_neg c1]
    by_cases c2 : σ 13 (((σ 0 20) - 1).toNatClampNeg) = 0
    · rw [if_pos c2]
      exact h1.of (up2_row _ _ _ (by decide)) (up2_row _ _ _ (by decide)) (by funext j; exact up2_off _ _ (by decide)) (by funext j; exact up2_off _ _ (by decide))
    · rw [if_neg c2]; exact h1
theorem pop_13 {B : Nat} {σ : Sg} (h : SV (B + 1) σ) : f_X5_pop σ 13 = σ 13 := by
  unfold f_X5_pop
  split
  · rw [lv_rows (by decide) (by decide)]; funext j; rw [up2_off _ _ (by decide), up2_off _ _ (by decide)]
  · split
    · funext j; rw [up2_off _ _ (by decide), up2_off _ _ (by decide)]
    · funext j; rw [up2_off _ _ (by decide)]
theorem back_pos {B : Nat} {σ : Sg} (hsv : SV (B + 1) σ) (h0 : σ 13 0 = 0) (c : ¬ σ 13 ((σ 0 20) - 1).toNatClampNeg = 0) : 0 < B := by
  rcases Nat.eq_zero_or_pos B with q | q
  · subst q
    rw [hsv.nat] at c
    exact absurd h0 c
  · exact q
def lf_X5_fails : Nat → Int32 → Sg → Sg
  | 0, _, σ => σ
  | m + 1, f, σ => (if σ 0 20 ≤ 0 then (up2 σ 0 14 f) else (if σ 13 (((σ 0 20) - 1).toNatClampNeg) = 2 then (if f = 40 then (lf_X5_fails m f (f_X5_pop σ)) else (if σ 17 (((σ 0 20) - 1).toNatClampNeg) = 0 then (up2 (f_X5_pop σ) 0 12 f) else (if σ 17 (((σ 0 20) - 1).toNatClampNeg) = f then (up2 (f_X5_pop σ) 0 12 f) else (lf_X5_fails m f (f_X5_pop σ))))) else (lf_X5_fails m f (f_X5_pop σ))))
set_option maxHeartbeats 4000000 in
theorem lp_X5_fails {x : Cx} {ad : Nat → Nat} {f : Int32} {L : Nat} (hL : 2 ≤ L) (h : Ok x cX5_fails "SafeDeskModel" none) (hR : RmOk x L 0 0) (e4 : xN x = 3) {out : Sg} (hr : Rt x 0 0 (Det none (wM (xG x) ad out))) : ∀ (m B0 : Nat) (σ : Sg), m = B0 + 1 → SV B0 σ → lf_X5_fails m f σ = out → J x 0 0 (wM (xG x) ad σ) 0 [(0, .ref (ad 0)), (1, .int f)] [] := by
  intro m
  induction m with
  | zero => intro B0 σ hm hsv0 ho; omega
  | succ m ih =>
    intro B0 σ hm hsv0 ho
    unfold lf_X5_fails at ho
    refine J_aload_n (pc := 0) (n := 0) (i := 0) h 0 rfl rfl dX5_fails_0 ?_
    refine J_Mg20 (pc := 1) h m_352 (σ 0 20) rfl dX5_fails_1 ?_
    refine J_if_le (pc := 4) h 80 (by decide) dX5_fails_4 (fun c1 => ?_) (fun c1 => ?_)
    · replace ho := (if_pos c1).symm.trans ho
      refine J_aload_n (pc := 80) (n := 0) (i := 0) h 0 rfl rfl dX5_fails_80 ?_
      refine J_iload_n (pc := 81) (n := 1) (i := 1) h 1 rfl rfl dX5_fails_81 ?_
      refine J_Mp14 (pc := 82) h m_346 dX5_fails_82 ?_
      exact J_vret (pc := 85) h hr (by subst ho; exact ⟨rfl, rfl⟩) dX5_fails_85
    · replace ho := (if_neg c1).symm.trans ho
      obtain ⟨B, rfl⟩ : ∃ b, B0 = b + 1 := ⟨B0 - 1, by have := hsv0.pos c1; omega⟩
      have hsv := hsv0
      refine J_aload_n (pc := 7) (n := 0) (i := 0) h 0 rfl rfl dX5_fails_7 ?_
      refine J_Mr21 (pc := 8) h m_353 dX5_fails_8 ?_
      refine J_aload_n (pc := 11) (n := 0) (i := 0) h 0 rfl rfl dX5_fails_11 ?_
      refine J_Mg20 (pc := 12) h m_352 (σ 0 20) rfl dX5_fails_12 ?_
      refine J_iconst (pc := 15) h (1) rfl dX5_fails_15 ?_
      refine J_isub (pc := 16) h dX5_fails_16 ?_
      refine J_Ma (pc := 17) h 13 80 ⟨by decide, by decide⟩ rfl hsv.vin (σ 13 (((σ 0 20) - 1).toNatClampNeg)) rfl dX5_fails_17 ?_
      refine J_iconst (pc := 18) h (2) rfl dX5_fails_18 ?_
      refine J_icmp_ne (pc := 19) h 61 (by decide) dX5_fails_19 (fun c2 => ?_) (fun c2 => ?_)
      · replace ho := (if_neg c2).symm.trans ho
        refine J_iconst (pc := 61) h (0) rfl dX5_fails_61 ?_
        refine J_istore_n (pc := 62) (n := 2) (i := 2) h [(2, .int 0), (0, .ref (ad 0)), (1, .int f)] rfl (by rw [e4]; decide) rfl dX5_fails_62 ?_
        refine J_aload_n (pc := 63) (n := 0) (i := 0) h 1 rfl rfl dX5_fails_63 ?_
        refine J_cM (pc := 64) h hR (by omega) (c_X5_pop _ _ _ σ  hsv.vin hsv.ab hsv.t) (by decide) m_447 m_449 ms_15 m_450 ⟨rfl, hd_X5_pop⟩ rfl rfl (Nat.le_of_ble_eq_true rfl) [] rfl dX5_fails_64 ?_
        refine J_iload_n (pc := 67) (n := 2) (i := 2) h 0 rfl rfl dX5_fails_67 ?_
        refine J_if_eq (pc := 68) h 77 (by decide) dX5_fails_68 (fun c3 => ?_) (fun c3 => ?_)
        · skip
          refine J_goto (pc := 77) h 0 (by decide) dX5_fails_77 ?_
          refine J_sub [(0, .ref (ad 0)), (1, .int f)] [1, 2] rfl ?_
          exact ih B (f_X5_pop σ) (by omega) hsv.popd ho
        · exact absurd rfl c3
      · replace ho := (if_pos c2).symm.trans ho
        refine J_iload_n (pc := 22) (n := 1) (i := 1) h 1 rfl rfl dX5_fails_22 ?_
        refine J_bipush (pc := 23) h (40) rfl dX5_fails_23 ?_
        refine J_icmp_eq (pc := 25) h 61 (by decide) dX5_fails_25 (fun c4 => ?_) (fun c4 => ?_)
        · replace ho := (if_pos c4).symm.trans ho
          refine J_iconst (pc := 61) h (0) rfl dX5_fails_61 ?_
          refine J_istore_n (pc := 62) (n := 2) (i := 2) h [(2, .int 0), (0, .ref (ad 0)), (1, .int f)] rfl (by rw [e4]; decide) rfl dX5_fails_62 ?_
          refine J_aload_n (pc := 63) (n := 0) (i := 0) h 1 rfl rfl dX5_fails_63 ?_
          refine J_cM (pc := 64) h hR (by omega) (c_X5_pop _ _ _ σ  hsv.vin hsv.ab hsv.t) (by decide) m_447 m_449 ms_15 m_450 ⟨rfl, hd_X5_pop⟩ rfl rfl (Nat.le_of_ble_eq_true rfl) [] rfl dX5_fails_64 ?_
          refine J_iload_n (pc := 67) (n := 2) (i := 2) h 0 rfl rfl dX5_fails_67 ?_
          refine J_if_eq (pc := 68) h 77 (by decide) dX5_fails_68 (fun c5 => ?_) (fun c5 => ?_)
          · skip
            refine J_goto (pc := 77) h 0 (by decide) dX5_fails_77 ?_
            refine J_sub [(0, .ref (ad 0)), (1, .int f)] [1, 2] rfl ?_
            exact ih B (f_X5_pop σ) (by omega) hsv.popd ho
          · exact absurd rfl c5
        · replace ho := (if_neg c4).symm.trans ho
          refine J_aload_n (pc := 28) (n := 0) (i := 0) h 0 rfl rfl dX5_fails_28 ?_
          refine J_Mr25 (pc := 29) h m_357 dX5_fails_29 ?_
          refine J_aload_n (pc := 32) (n := 0) (i := 0) h 0 rfl rfl dX5_fails_32 ?_
          refine J_Mg20 (pc := 33) h m_352 (σ 0 20) rfl dX5_fails_33 ?_
          refine J_iconst (pc := 36) h (1) rfl dX5_fails_36 ?_
          refine J_isub (pc := 37) h dX5_fails_37 ?_
          refine J_Ma (pc := 38) h 17 80 ⟨by decide, by decide⟩ rfl hsv.vin (σ 17 (((σ 0 20) - 1).toNatClampNeg)) rfl dX5_fails_38 ?_
          refine J_if_eq (pc := 39) h 57 (by decide) dX5_fails_39 (fun c6 => ?_) (fun c6 => ?_)
          · replace ho := (if_pos c6).symm.trans ho
            refine J_iconst (pc := 57) h (1) rfl dX5_fails_57 ?_
            refine J_goto (pc := 58) h 62 (by decide) dX5_fails_58 ?_
            refine J_istore_n (pc := 62) (n := 2) (i := 2) h [(2, .int 1), (0, .ref (ad 0)), (1, .int f)] rfl (by rw [e4]; decide) rfl dX5_fails_62 ?_
            refine J_aload_n (pc := 63) (n := 0) (i := 0) h 1 rfl rfl dX5_fails_63 ?_
            refine J_cM (pc := 64) h hR (by omega) (c_X5_pop _ _ _ σ  hsv.vin hsv.ab hsv.t) (by decide) m_447 m_449 ms_15 m_450 ⟨rfl, hd_X5_pop⟩ rfl rfl (Nat.le_of_ble_eq_true rfl) [] rfl dX5_fails_64 ?_
            refine J_iload_n (pc := 67) (n := 2) (i := 2) h 0 rfl rfl dX5_fails_67 ?_
            refine J_if_eq (pc := 68) h 77 (by decide) dX5_fails_68 (fun c7 => ?_) (fun c7 => ?_)
            · exact absurd c7 (by decide)
            · skip
              refine J_aload_n (pc := 71) (n := 0) (i := 0) h 1 rfl rfl dX5_fails_71 ?_
              refine J_iload_n (pc := 72) (n := 1) (i := 1) h 2 rfl rfl dX5_fails_72 ?_
              refine J_Mp12 (pc := 73) h m_344 dX5_fails_73 ?_
              exact J_vret (pc := 76) h hr (by subst ho; exact ⟨rfl, rfl⟩) dX5_fails_76
          · replace ho := (if_neg c6).symm.trans ho
            refine J_aload_n (pc := 42) (n := 0) (i := 0) h 0 rfl rfl dX5_fails_42 ?_
            refine J_Mr25 (pc := 43) h m_357 dX5_fails_43 ?_
            refine J_aload_n (pc := 46) (n := 0) (i := 0) h 0 rfl rfl dX5_fails_46 ?_
            refine J_Mg20 (pc := 47) h m_352 (σ 0 20) rfl dX5_fails_47 ?_
            refine J_iconst (pc := 50) h (1) rfl dX5_fails_50 ?_
            refine J_isub (pc := 51) h dX5_fails_51 ?_
            refine J_Ma (pc := 52) h 17 80 ⟨by decide, by decide⟩ rfl hsv.vin (σ 17 (((σ 0 20) - 1).toNatClampNeg)) rfl dX5_fails_52 ?_
            refine J_iload_n (pc := 53) (n := 1) (i := 1) h 1 rfl rfl dX5_fails_53 ?_
            refine J_icmp_ne (pc := 54) h 61 (by decide) dX5_fails_54 (fun c8 => ?_) (fun c8 => ?_)
            · replace ho := (if_neg c8).symm.trans ho
              refine J_iconst (pc := 61) h (0) rfl dX5_fails_61 ?_
              refine J_istore_n (pc := 62) (n := 2) (i := 2) h [(2, .int 0), (0, .ref (ad 0)), (1, .int f)] rfl (by rw [e4]; decide) rfl dX5_fails_62 ?_
              refine J_aload_n (pc := 63) (n := 0) (i := 0) h 1 rfl rfl dX5_fails_63 ?_
              refine J_cM (pc := 64) h hR (by omega) (c_X5_pop _ _ _ σ  hsv.vin hsv.ab hsv.t) (by decide) m_447 m_449 ms_15 m_450 ⟨rfl, hd_X5_pop⟩ rfl rfl (Nat.le_of_ble_eq_true rfl) [] rfl dX5_fails_64 ?_
              refine J_iload_n (pc := 67) (n := 2) (i := 2) h 0 rfl rfl dX5_fails_67 ?_
              refine J_if_eq (pc := 68) h 77 (by decide) dX5_fails_68 (fun c9 => ?_) (fun c9 => ?_)
              · skip
                refine J_goto (pc := 77) h 0 (by decide) dX5_fails_77 ?_
                refine J_sub [(0, .ref (ad 0)), (1, .int f)] [1, 2] rfl ?_
                exact ih B (f_X5_pop σ) (by omega) hsv.popd ho
              · exact absurd rfl c9
            · replace ho := (if_pos c8).symm.trans ho
              refine J_iconst (pc := 57) h (1) rfl dX5_fails_57 ?_
              refine J_goto (pc := 58) h 62 (by decide) dX5_fails_58 ?_
              refine J_istore_n (pc := 62) (n := 2) (i := 2) h [(2, .int 1), (0, .ref (ad 0)), (1, .int f)] rfl (by rw [e4]; decide) rfl dX5_fails_62 ?_
              refine J_aload_n (pc := 63) (n := 0) (i := 0) h 1 rfl rfl dX5_fails_63 ?_
              refine J_cM (pc := 64) h hR (by omega) (c_X5_pop _ _ _ σ  hsv.vin hsv.ab hsv.t) (by decide) m_447 m_449 ms_15 m_450 ⟨rfl, hd_X5_pop⟩ rfl rfl (Nat.le_of_ble_eq_true rfl) [] rfl dX5_fails_64 ?_
              refine J_iload_n (pc := 67) (n := 2) (i := 2) h 0 rfl rfl dX5_fails_67 ?_
              refine J_if_eq (pc := 68) h 77 (by decide) dX5_fails_68 (fun c10 => ?_) (fun c10 => ?_)
              · exact absurd c10 (by decide)
              · skip
                refine J_aload_n (pc := 71) (n := 0) (i := 0) h 1 rfl rfl dX5_fails_71 ?_
                refine J_iload_n (pc := 72) (n := 1) (i := 1) h 2 rfl rfl dX5_fails_72 ?_
                refine J_Mp12 (pc := 73) h m_344 dX5_fails_73 ?_
                exact J_vret (pc := 76) h hr (by subst ho; exact ⟨rfl, rfl⟩) dX5_fails_76
def f_X5_fails (f : Int32) (σ : Sg) : Sg := lf_X5_fails ((σ 0 20).toNatClampNeg + 1) f σ
theorem hd_X5_fails : yX5_fails.cls ≠ "java/lang/invoke/MethodHandle" ∧ yX5_fails.cls ≠ "java/lang/invoke/VarHandle" ∧ (parseMethodDescriptor yX5_fails.desc).map (fun d => d.parameters.length) = some 1 := by decide +kernel
theorem c_X5_fails (l : Launch) (g : Gy) (ad : Nat → Nat) (σ : Sg) (f : Int32) (B : Nat) (hsv : SV B σ) : Con l g yX5_fails cX5_fails 3 none (rmL 2) [.ref (ad 0), .int f] (wM g ad σ) (Det none (wM g ad (f_X5_fails f σ))) := by
  refine Con.of (by decide) (Nat.le_of_ble_eq_true rfl) ?_
  intro x h e1 e2 e3 e4 e5 hr
  subst e1 e2
  have h : Ok x cX5_fails "SafeDeskModel" none := h
  have hR : RmOk x 2 0 0 := RmOk.of e3 (Nat.le_refl _) (Nat.le_refl _)
  show J x 0 0 _ 0 [(0, .ref (ad 0)), (1, .int f)] []
  exact lp_X5_fails (by decide) h hR e4 hr ((σ 0 20).toNatClampNeg + 1) B σ (by rw [hsv.1, nI_clamp (by have := hsv.2.1; omega)]) hsv rfl
def lf_X5_back : Nat → Sg → Sg
  | 0, σ => σ
  | m + 1, σ => (if σ 13 (((σ 0 20) - 1).toNatClampNeg) = 0 then (f_X5_pop σ) else (lf_X5_back m (f_X5_pop σ)))
set_option maxHeartbeats 4000000 in
theorem lp_X5_back {x : Cx} {ad : Nat → Nat} {v : Int32} {L : Nat} (hL : 2 ≤ L) (h : Ok x cX5_back "SafeDeskModel" none) (hR : RmOk x L 0 0) {out : Sg} (hr : Rt x 0 0 (Det none (wM (xG x) ad out))) : ∀ (m B : Nat) (σ : Sg), m = B + 1 → SV (B + 1) σ → σ 13 0 = 0 → lf_X5_back m σ = out → J x 0 0 (wM (xG x) ad σ) 5 [(0, .ref (ad 0)), (1, .int v)] [] := by
  intro m
  induction m with
  | zero => intro B σ hm hsv h0 ho; omega
  | succ m ih =>
    intro B σ hm hsv h0 ho
    unfold lf_X5_back at ho
    refine J_aload_n (pc := 5) (n := 0) (i := 0) h 0 rfl rfl dX5_back_5 ?_
    refine J_Mr21 (pc := 6) h m_353 dX5_back_6 ?_
    refine J_aload_n (pc := 9) (n := 0) (i := 0) h 0 rfl rfl dX5_back_9 ?_
    refine J_Mg20 (pc := 10) h m_352 (σ 0 20) rfl dX5_back_10 ?_
    refine J_iconst (pc := 13) h (1) rfl dX5_back_13 ?_
    refine J_isub (pc := 14) h dX5_back_14 ?_
    refine J_Ma (pc := 15) h 13 80 ⟨by decide, by decide⟩ rfl hsv.vin (σ 13 (((σ 0 20) - 1).toNatClampNeg)) rfl dX5_back_15 ?_
    refine J_if_eq (pc := 16) h 26 (by decide) dX5_back_16 (fun c1 => ?_) (fun c1 => ?_)
    · replace ho := (if_pos c1).symm.trans ho
      refine J_aload_n (pc := 26) (n := 0) (i := 0) h 0 rfl rfl dX5_back_26 ?_
      refine J_cM (pc := 27) h hR (by omega) (c_X5_pop _ _ _ σ  hsv.vin hsv.ab hsv.t) (by decide) m_447 m_449 ms_15 m_450 ⟨rfl, hd_X5_pop⟩ rfl rfl (Nat.le_of_ble_eq_true rfl) [] rfl dX5_back_27 ?_
      exact J_vret (pc := 30) h hr (by subst ho; exact ⟨rfl, rfl⟩) dX5_back_30
    · replace ho := (if_neg c1).symm.trans ho
      refine J_aload_n (pc := 19) (n := 0) (i := 0) h 0 rfl rfl dX5_back_19 ?_
      refine J_cM (pc := 20) h hR (by omega) (c_X5_pop _ _ _ σ  hsv.vin hsv.ab hsv.t) (by decide) m_447 m_449 ms_15 m_450 ⟨rfl, hd_X5_pop⟩ rfl rfl (Nat.le_of_ble_eq_true rfl) [] rfl dX5_back_20 ?_
      refine J_goto (pc := 23) h 5 (by decide) dX5_back_23 ?_
      obtain ⟨B2, rfl⟩ : ∃ b, B = b + 1 := ⟨B - 1, by have := back_pos hsv h0 c1; omega⟩
      exact ih B2 (f_X5_pop σ) (by omega) hsv.popd (by rw [pop_13 hsv]; exact h0) ho
def f_X5_back (v : Int32) (σ : Sg) : Sg := (lf_X5_back (σ 0 20).toNatClampNeg (up2 σ 0 12 v))
theorem hd_X5_back : yX5_back.cls ≠ "java/lang/invoke/MethodHandle" ∧ yX5_back.cls ≠ "java/lang/invoke/VarHandle" ∧ (parseMethodDescriptor yX5_back.desc).map (fun d => d.parameters.length) = some 1 := by decide +kernel
set_option maxHeartbeats 4000000 in
set_option maxRecDepth 20000 in
theorem c_X5_back (l : Launch) (g : Gy) (ad : Nat → Nat) (σ : Sg) (v : Int32) (B : Nat) (hsv : SV (B + 1) σ) (h0 : σ 13 0 = 0) : Con l g yX5_back cX5_back 2 none (rmL 2) [.ref (ad 0), .int v] (wM g ad σ) (Det none (wM g ad (f_X5_back v σ))) := by
  refine Con.of (by decide) (Nat.le_of_ble_eq_true rfl) ?_
  intro x h e1 e2 e3 e4 e5 hr
  subst e1 e2
  have h : Ok x cX5_back "SafeDeskModel" none := h
  have hR : RmOk x 2 0 0 := RmOk.of e3 (Nat.le_refl _) (Nat.le_refl _)
  obtain ⟨out, ho⟩ : ∃ o, f_X5_back v σ = o := ⟨_, rfl⟩
  rw [ho] at hr
  unfold f_X5_back at ho
  show J x 0 0 _ 0 [(0, .ref (ad 0)), (1, .int v)] []
  refine J_aload_n (pc := 0) (n := 0) (i := 0) h 0 rfl rfl dX5_back_0 ?_
  refine J_iload_n (pc := 1) (n := 1) (i := 1) h 1 rfl rfl dX5_back_1 ?_
  refine J_Mp12 (pc := 2) h m_344 dX5_back_2 ?_
  have hsv2 : SV (B + 1) (up2 σ 0 12 v) := hsv.of (up2_row _ _ _ (by decide)) (up2_row _ _ _ (by decide)) (by funext j; exact up2_off _ _ (by decide)) (by funext j; exact up2_off _ _ (by decide))
  exact lp_X5_back (by decide) h hR hr (σ 0 20).toNatClampNeg B (up2 σ 0 12 v) (by rw [hsv.1, nI_clamp (by have := hsv.2.1; omega)]) hsv2 (by rw [up2_off _ _ (by decide)]; exact h0) ho
theorem fr5_enter {s : Int32} {σ : Sg} {k : Nat} (h : k ≠ 4 ∧ k ≠ 5 ∧ k ≠ 6) : f_X5_enter s σ k = σ k := by
  unfold f_X5_enter
  split <;> (funext j; simp only [up2_off _ _ h.1, up2_off _ _ h.2.1, up2_off _ _ h.2.2])
theorem ltk {k N : Nat} {b : Int32} (hb : b.toInt ≤ N) (hk : k < 2 ^ 31) (h : ¬ b < nI k) : k ≤ N := by
  rw [i_lt, nI_toInt hk] at h
  omega
def lf_X5_worth : Nat → Nat → Int32 → Sg → Int32 × Sg
  | 0, _, _, σ => (0, σ)
  | m + 1, k, s, σ => (if σ 1 s.toNatClampNeg < nI k then (if σ 1 s.toNatClampNeg ≤ 0 then (if σ 1 s.toNatClampNeg = 2 then (2 * (σ 2 s.toNatClampNeg), up2 σ 5 s.toNatClampNeg ((σ 5 s.toNatClampNeg) - ((σ 1 s.toNatClampNeg) + 1))) else (σ 2 s.toNatClampNeg, up2 σ 5 s.toNatClampNeg ((σ 5 s.toNatClampNeg) - ((σ 1 s.toNatClampNeg) + 1)))) else (if σ 1 s.toNatClampNeg = 2 then (2 * ((σ 2 s.toNatClampNeg) + (σ 3 s.toNatClampNeg)), up2 σ 5 s.toNatClampNeg ((σ 5 s.toNatClampNeg) - ((σ 1 s.toNatClampNeg) + 1))) else ((σ 2 s.toNatClampNeg) + (σ 3 s.toNatClampNeg), up2 σ 5 s.toNatClampNeg ((σ 5 s.toNatClampNeg) - ((σ 1 s.toNatClampNeg) + 1))))) else (lf_X5_worth m (k + 1) s (f_X5_enter s σ)))
set_option maxHeartbeats 4000000 in
theorem lp_X5_worth {x : Cx} {ad : Nat → Nat} {s : Int32} {L : Nat} (hL : 1 ≤ L) (hs : vp_in s 4200) (h : Ok x cX5_worth "SafeDeskModel" (some .int)) (hR : RmOk x L 0 0) (e4 : xN x = 3) {out : Int32 × Sg} (hr : Rt x 0 0 (Det (some (.int out.1)) (wM (xG x) ad out.2))) : ∀ (m k : Nat) (σ : Sg), (∀ i : Nat, (σ 1 i).toInt ≤ 2) → k ≤ 3 → k + m = 4 → lf_X5_worth m k s σ = out → J x 0 0 (wM (xG x) ad σ) 2 [(2, .int (nI k)), (0, .ref (ad 0)), (1, .int s)] [] := by
  intro m
  induction m with
  | zero => intro k σ hk hk3 hm ho; omega
  | succ m ih =>
    intro k σ hk hk3 hm ho
    unfold lf_X5_worth at ho
    refine J_iload_n (pc := 2) (n := 2) (i := 2) h 0 rfl rfl dX5_worth_2 ?_
    refine J_aload_n (pc := 3) (n := 0) (i := 0) h 1 rfl rfl dX5_worth_3 ?_
    refine J_Mr1 (pc := 4) h m_333 dX5_worth_4 ?_
    refine J_iload_n (pc := 7) (n := 1) (i := 1) h 2 rfl rfl dX5_worth_7 ?_
    refine J_Ma (pc := 8) h 1 4200 ⟨by decide, by decide⟩ rfl hs (σ 1 s.toNatClampNeg) rfl dX5_worth_8 ?_
    refine J_icmp_gt (pc := 9) h 23 (by decide) dX5_worth_9 (fun c1 => ?_) (fun c1 => ?_)
    · replace ho := (if_pos c1).symm.trans ho
      refine J_aload_n (pc := 23) (n := 0) (i := 0) h 1 rfl rfl dX5_worth_23 ?_
      refine J_Mr5 (pc := 24) h m_337 dX5_worth_24 ?_
      refine J_iload_n (pc := 27) (n := 1) (i := 1) h 2 rfl rfl dX5_worth_27 ?_
      refine J_dup2 (pc := 28) h rfl rfl dX5_worth_28 ?_
      refine J_Ma (pc := 29) h 5 4200 ⟨by decide, by decide⟩ rfl hs (σ 5 s.toNatClampNeg) rfl dX5_worth_29 ?_
      refine J_aload_n (pc := 30) (n := 0) (i := 0) h 1 rfl rfl dX5_worth_30 ?_
      refine J_Mr1 (pc := 31) h m_333 dX5_worth_31 ?_
      refine J_iload_n (pc := 34) (n := 1) (i := 1) h 2 rfl rfl dX5_worth_34 ?_
      refine J_Ma (pc := 35) h 1 4200 ⟨by decide, by decide⟩ rfl hs (σ 1 s.toNatClampNeg) rfl dX5_worth_35 ?_
      refine J_iconst (pc := 36) h (1) rfl dX5_worth_36 ?_
      refine J_iadd (pc := 37) h dX5_worth_37 ?_
      refine J_isub (pc := 38) h dX5_worth_38 ?_
      refine J_Ms (pc := 39) h 5 4200 ⟨by decide, by decide⟩ rfl hs dX5_worth_39 ?_
      refine J_aload_n (pc := 40) (n := 0) (i := 0) h 1 rfl rfl dX5_worth_40 ?_
      refine J_Mr1 (pc := 41) h m_333 dX5_worth_41 ?_
      refine J_iload_n (pc := 44) (n := 1) (i := 1) h 2 rfl rfl dX5_worth_44 ?_
      refine J_Ma (pc := 45) h 1 4200 ⟨by decide, by decide⟩ rfl hs (σ 1 s.toNatClampNeg) (up2_off _ _ (by decide)) dX5_worth_45 ?_
      refine J_if_le (pc := 46) h 65 (by decide) dX5_worth_46 (fun c2 => ?_) (fun c2 => ?_)
      · replace ho := (if_pos c2).symm.trans ho
        refine J_aload_n (pc := 65) (n := 0) (i := 0) h 1 rfl rfl dX5_worth_65 ?_
        refine J_Mr2 (pc := 66) h m_334 dX5_worth_66 ?_
        refine J_iload_n (pc := 69) (n := 1) (i := 1) h 2 rfl rfl dX5_worth_69 ?_
        refine J_Ma (pc := 70) h 2 4200 ⟨by decide, by decide⟩ rfl hs (σ 2 s.toNatClampNeg) (up2_off _ _ (by decide)) dX5_worth_70 ?_
        refine J_istore_n (pc := 71) (n := 2) (i := 2) h [(2, .int (σ 2 s.toNatClampNeg)), (0, .ref (ad 0)), (1, .int s)] rfl (by rw [e4]; decide) rfl dX5_worth_71 ?_
        refine J_aload_n (pc := 72) (n := 0) (i := 0) h 1 rfl rfl dX5_worth_72 ?_
        refine J_Mr1 (pc := 73) h m_333 dX5_worth_73 ?_
        refine J_iload_n (pc := 76) (n := 1) (i := 1) h 2 rfl rfl dX5_worth_76 ?_
        refine J_Ma (pc := 77) h 1 4200 ⟨by decide, by decide⟩ rfl hs (σ 1 s.toNatClampNeg) (up2_off _ _ (by decide)) dX5_worth_77 ?_
        refine J_iconst (pc := 78) h (2) rfl dX5_worth_78 ?_
        refine J_icmp_ne (pc := 79) h 88 (by decide) dX5_worth_79 (fun c3 => ?_) (fun c3 => ?_)
        · replace ho := (if_neg c3).symm.trans ho
          refine J_iload_n (pc := 88) (n := 2) (i := 2) h 0 rfl rfl dX5_worth_88 ?_
          exact J_iret (pc := 89) h hr (by subst ho; exact ⟨rfl, rfl⟩) dX5_worth_89
        · replace ho := (if_pos c3).symm.trans ho
          refine J_iconst (pc := 82) h (2) rfl dX5_worth_82 ?_
          refine J_iload_n (pc := 83) (n := 2) (i := 2) h 0 rfl rfl dX5_worth_83 ?_
          refine J_imul (pc := 84) h dX5_worth_84 ?_
          refine J_goto (pc := 85) h 89 (by decide) dX5_worth_85 ?_
          exact J_iret (pc := 89) h hr (by subst ho; exact ⟨rfl, rfl⟩) dX5_worth_89
      · replace ho := (if_neg c2).symm.trans ho
        refine J_aload_n (pc := 49) (n := 0) (i := 0) h 1 rfl rfl dX5_worth_49 ?_
        refine J_Mr2 (pc := 50) h m_334 dX5_worth_50 ?_
        refine J_iload_n (pc := 53) (n := 1) (i := 1) h 2 rfl rfl dX5_worth_53 ?_
        refine J_Ma (pc := 54) h 2 4200 ⟨by decide, by decide⟩ rfl hs (σ 2 s.toNatClampNeg) (up2_off _ _ (by decide)) dX5_worth_54 ?_
        refine J_aload_n (pc := 55) (n := 0) (i := 0) h 1 rfl rfl dX5_worth_55 ?_
        refine J_Mr3 (pc := 56) h m_335 dX5_worth_56 ?_
        refine J_iload_n (pc := 59) (n := 1) (i := 1) h 2 rfl rfl dX5_worth_59 ?_
        refine J_Ma (pc := 60) h 3 4200 ⟨by decide, by decide⟩ rfl hs (σ 3 s.toNatClampNeg) (up2_off _ _ (by decide)) dX5_worth_60 ?_
        refine J_iadd (pc := 61) h dX5_worth_61 ?_
        refine J_goto (pc := 62) h 71 (by decide) dX5_worth_62 ?_
        refine J_istore_n (pc := 71) (n := 2) (i := 2) h [(2, .int ((σ 2 s.toNatClampNeg) + (σ 3 s.toNatClampNeg))), (0, .ref (ad 0)), (1, .int s)] rfl (by rw [e4]; decide) rfl dX5_worth_71 ?_
        refine J_aload_n (pc := 72) (n := 0) (i := 0) h 1 rfl rfl dX5_worth_72 ?_
        refine J_Mr1 (pc := 73) h m_333 dX5_worth_73 ?_
        refine J_iload_n (pc := 76) (n := 1) (i := 1) h 2 rfl rfl dX5_worth_76 ?_
        refine J_Ma (pc := 77) h 1 4200 ⟨by decide, by decide⟩ rfl hs (σ 1 s.toNatClampNeg) (up2_off _ _ (by decide)) dX5_worth_77 ?_
        refine J_iconst (pc := 78) h (2) rfl dX5_worth_78 ?_
        refine J_icmp_ne (pc := 79) h 88 (by decide) dX5_worth_79 (fun c4 => ?_) (fun c4 => ?_)
        · replace ho := (if_neg c4).symm.trans ho
          refine J_iload_n (pc := 88) (n := 2) (i := 2) h 0 rfl rfl dX5_worth_88 ?_
          exact J_iret (pc := 89) h hr (by subst ho; exact ⟨rfl, rfl⟩) dX5_worth_89
        · replace ho := (if_pos c4).symm.trans ho
          refine J_iconst (pc := 82) h (2) rfl dX5_worth_82 ?_
          refine J_iload_n (pc := 83) (n := 2) (i := 2) h 0 rfl rfl dX5_worth_83 ?_
          refine J_imul (pc := 84) h dX5_worth_84 ?_
          refine J_goto (pc := 85) h 89 (by decide) dX5_worth_85 ?_
          exact J_iret (pc := 89) h hr (by subst ho; exact ⟨rfl, rfl⟩) dX5_worth_89
    · replace ho := (if_neg c1).symm.trans ho
      refine J_aload_n (pc := 12) (n := 0) (i := 0) h 1 rfl rfl dX5_worth_12 ?_
      refine J_iload_n (pc := 13) (n := 1) (i := 1) h 2 rfl rfl dX5_worth_13 ?_
      refine J_cM (pc := 14) h hR (by omega) (c_X5_enter _ _ _ σ s hs) (by decide) m_475 m_477 ms_22 m_478 ⟨rfl, hd_X5_enter⟩ rfl rfl (Nat.le_of_ble_eq_true rfl) [] rfl dX5_worth_14 ?_
      refine J_iinc (pc := 17) h 0 ((nI k) + 1) [(2, .int ((nI k) + 1)), (0, .ref (ad 0)), (1, .int s)] rfl rfl (by rw [e4]; decide) rfl dX5_worth_17 ?_
      refine J_goto (pc := 20) h 2 (by decide) dX5_worth_20 ?_
      have hk3 := ltk (k := k) (N := 2) (hk _) (by omega) (by assumption)
      rw [nI_1]
      exact ih (k + 1) (f_X5_enter s σ) (fun i => by rw [fr5_enter (by decide)]; exact hk i) (by omega) (by omega) ho
def f_X5_worth (s : Int32) (σ : Sg) : Int32 × Sg := (lf_X5_worth 4 0 s σ)
theorem hd_X5_worth : yX5_worth.cls ≠ "java/lang/invoke/MethodHandle" ∧ yX5_worth.cls ≠ "java/lang/invoke/VarHandle" ∧ (parseMethodDescriptor yX5_worth.desc).map (fun d => d.parameters.length) = some 1 := by decide +kernel
set_option maxHeartbeats 4000000 in
set_option maxRecDepth 20000 in
theorem c_X5_worth (l : Launch) (g : Gy) (ad : Nat → Nat) (σ : Sg) (s : Int32) (hs : vp_in s 4200) (hk : ∀ i : Nat, (σ 1 i).toInt ≤ 2) : Con l g yX5_worth cX5_worth 3 (some .int) (rmL 1) [.ref (ad 0), .int s] (wM g ad σ) (Det (some (.int (f_X5_worth s σ).1)) (wM g ad ((f_X5_worth s σ).2))) := by
  refine Con.of (by decide) (Nat.le_of_ble_eq_true rfl) ?_
  intro x h e1 e2 e3 e4 e5 hr
  subst e1 e2
  have h : Ok x cX5_worth "SafeDeskModel" (some .int) := h
  have hR : RmOk x 1 0 0 := RmOk.of e3 (Nat.le_refl _) (Nat.le_refl _)
  obtain ⟨out, ho⟩ : ∃ o, f_X5_worth s σ = o := ⟨_, rfl⟩
  rw [ho] at hr
  unfold f_X5_worth at ho
  show J x 0 0 _ 0 [(0, .ref (ad 0)), (1, .int s)] []
  refine J_iconst (pc := 0) h (0) rfl dX5_worth_0 ?_
  refine J_istore_n (pc := 1) (n := 2) (i := 2) h [(2, .int 0), (0, .ref (ad 0)), (1, .int s)] rfl (by rw [e4]; decide) rfl dX5_worth_1 ?_
  exact lp_X5_worth (by decide) hs h hR e4 hr 4 0 σ hk (by decide) (by decide) ho
def lf_X5_seek : Nat → Nat → Int32 → Sg → Sg
  | 0, _, _, σ => σ
  | m + 1, k, b, σ => (if 8 ≤ nI k then σ else (if 0 ≤ σ 0 12 then σ else (if σ 7 ((nI k).toNatClampNeg) = (-1) then (lf_X5_seek m (k + 1) b σ) else (if (f_X5_enter (σ 7 ((nI k).toNatClampNeg)) σ) 2 ((σ 7 ((nI k).toNatClampNeg)).toNatClampNeg) < b then (lf_X5_seek m (k + 1) b (up2 (up2 (f_X5_enter (σ 7 ((nI k).toNatClampNeg)) σ) 5 ((σ 7 ((nI k).toNatClampNeg)).toNatClampNeg) (((f_X5_enter (σ 7 ((nI k).toNatClampNeg)) σ) 5 ((σ 7 ((nI k).toNatClampNeg)).toNatClampNeg)) - 1)) 0 12 (-1))) else (lf_X5_seek m (k + 1) b (up2 (up2 (f_X5_enter (σ 7 ((nI k).toNatClampNeg)) σ) 5 ((σ 7 ((nI k).toNatClampNeg)).toNatClampNeg) (((f_X5_enter (σ 7 ((nI k).toNatClampNeg)) σ) 5 ((σ 7 ((nI k).toNatClampNeg)).toNatClampNeg)) - 1)) 0 12 (nI k)))))))
set_option maxHeartbeats 4000000 in
theorem lp_X5_seek {x : Cx} {ad : Nat → Nat} {a b : Int32} {L : Nat} (hL : 1 ≤ L) (h : Ok x cX5_seek "SafeDeskModel" none) (hR : RmOk x L 0 0) (e4 : xN x = 5) {out : Sg} (hr : Rt x 0 0 (Det none (wM (xG x) ad out))) : ∀ (m k : Nat) (σ : Sg), (∀ r : Nat, r < 8 → σ 7 r = -1 ∨ vp_in (σ 7 r) 4200) → k ≤ 8 → k + m = 9 → lf_X5_seek m k b σ = out → J x 0 0 (wM (xG x) ad σ) 7 [(3, .int (nI k)), (0, .ref (ad 0)), (1, .int a), (2, .int b)] [] := by
  intro m
  induction m with
  | zero => intro k σ h7 hk hm ho; omega
  | succ m ih =>
    intro k σ h7 hk hm ho
    unfold lf_X5_seek at ho
    refine J_iload_n (pc := 7) (n := 3) (i := 3) h 0 rfl rfl dX5_seek_7 ?_
    refine J_bipush (pc := 8) h (8) rfl dX5_seek_8 ?_
    refine J_icmp_ge (pc := 10) h 77 (by decide) dX5_seek_10 (fun c1 => ?_) (fun c1 => ?_)
    · replace ho := (if_pos c1).symm.trans ho
      exact J_vret (pc := 77) h hr (by subst ho; exact ⟨rfl, rfl⟩) dX5_seek_77
    · replace ho := (if_neg c1).symm.trans ho
      refine J_aload_n (pc := 13) (n := 0) (i := 0) h 1 rfl rfl dX5_seek_13 ?_
      refine J_Mg12 (pc := 14) h m_344 (σ 0 12) rfl dX5_seek_14 ?_
      refine J_if_ge (pc := 17) h 77 (by decide) dX5_seek_17 (fun c2 => ?_) (fun c2 => ?_)
      · replace ho := (if_pos c2).symm.trans ho
        exact J_vret (pc := 77) h hr (by subst ho; exact ⟨rfl, rfl⟩) dX5_seek_77
      · replace ho := (if_neg c2).symm.trans ho
        refine J_aload_n (pc := 20) (n := 0) (i := 0) h 1 rfl rfl dX5_seek_20 ?_
        refine J_Mr7 (pc := 21) h m_339 dX5_seek_21 ?_
        refine J_iload_n (pc := 24) (n := 3) (i := 3) h 0 rfl rfl dX5_seek_24 ?_
        refine J_Ma (pc := 25) h 7 8 ⟨by decide, by decide⟩ rfl (vp_in_nI (ltn (b := 8) (N := 8) rfl (by omega) (by assumption)) (by decide)) (σ 7 ((nI k).toNatClampNeg)) rfl dX5_seek_25 ?_
        refine J_istore (pc := 26) h [(4, .int (σ 7 ((nI k).toNatClampNeg))), (3, .int (nI k)), (0, .ref (ad 0)), (1, .int a), (2, .int b)] (by rw [e4]; decide) rfl dX5_seek_26 ?_
        refine J_iload (pc := 28) h 0 rfl dX5_seek_28 ?_
        refine J_iconst (pc := 30) h (-1) rfl dX5_seek_30 ?_
        refine J_icmp_eq (pc := 31) h 71 (by decide) dX5_seek_31 (fun c3 => ?_) (fun c3 => ?_)
        · replace ho := (if_pos c3).symm.trans ho
          refine J_iinc (pc := 71) h 1 ((nI k) + 1) [(3, .int ((nI k) + 1)), (4, .int (σ 7 ((nI k).toNatClampNeg))), (0, .ref (ad 0)), (1, .int a), (2, .int b)] rfl rfl (by rw [e4]; decide) rfl dX5_seek_71 ?_
          refine J_goto (pc := 74) h 7 (by decide) dX5_seek_74 ?_
          have hk8 := ltn (k := k) (b := 8) (N := 8) rfl (by omega) (by assumption)
          rw [nI_1]
          refine J_sub [(3, .int (nI (k + 1))), (0, .ref (ad 0)), (1, .int a), (2, .int b)] [0, 2, 3, 4] rfl ?_
          exact ih (k + 1) σ h7 (by omega) (by omega) ho
        · replace ho := (if_neg c3).symm.trans ho
          refine J_aload_n (pc := 34) (n := 0) (i := 0) h 2 rfl rfl dX5_seek_34 ?_
          refine J_iload (pc := 35) h 0 rfl dX5_seek_35 ?_
          refine J_cM (pc := 37) h hR (by omega) (c_X5_enter _ _ _ σ (σ 7 ((nI k).toNatClampNeg)) ((h7 _ (vp_lt (vp_in_nI (ltn (b := 8) (N := 8) rfl (by omega) (by assumption)) (by decide)))).resolve_left (by assumption))) (by decide) m_475 m_477 ms_22 m_478 ⟨rfl, hd_X5_enter⟩ rfl rfl (Nat.le_of_ble_eq_true rfl) [] rfl dX5_seek_37 ?_
          refine J_aload_n (pc := 40) (n := 0) (i := 0) h 2 rfl rfl dX5_seek_40 ?_
          refine J_Mr5 (pc := 41) h m_337 dX5_seek_41 ?_
          refine J_iload (pc := 44) h 0 rfl dX5_seek_44 ?_
          refine J_dup2 (pc := 46) h rfl rfl dX5_seek_46 ?_
          refine J_Ma (pc := 47) h 5 4200 ⟨by decide, by decide⟩ rfl ((h7 _ (vp_lt (vp_in_nI (ltn (b := 8) (N := 8) rfl (by omega) (by assumption)) (by decide)))).resolve_left (by assumption)) ((f_X5_enter (σ 7 ((nI k).toNatClampNeg)) σ) 5 ((σ 7 ((nI k).toNatClampNeg)).toNatClampNeg)) rfl dX5_seek_47 ?_
          refine J_iconst (pc := 48) h (1) rfl dX5_seek_48 ?_
          refine J_isub (pc := 49) h dX5_seek_49 ?_
          refine J_Ms (pc := 50) h 5 4200 ⟨by decide, by decide⟩ rfl ((h7 _ (vp_lt (vp_in_nI (ltn (b := 8) (N := 8) rfl (by omega) (by assumption)) (by decide)))).resolve_left (by assumption)) dX5_seek_50 ?_
          refine J_aload_n (pc := 51) (n := 0) (i := 0) h 2 rfl rfl dX5_seek_51 ?_
          refine J_aload_n (pc := 52) (n := 0) (i := 0) h 2 rfl rfl dX5_seek_52 ?_
          refine J_Mr2 (pc := 53) h m_334 dX5_seek_53 ?_
          refine J_iload (pc := 56) h 0 rfl dX5_seek_56 ?_
          refine J_Ma (pc := 58) h 2 4200 ⟨by decide, by decide⟩ rfl ((h7 _ (vp_lt (vp_in_nI (ltn (b := 8) (N := 8) rfl (by omega) (by assumption)) (by decide)))).resolve_left (by assumption)) ((f_X5_enter (σ 7 ((nI k).toNatClampNeg)) σ) 2 ((σ 7 ((nI k).toNatClampNeg)).toNatClampNeg)) (up2_off _ _ (by decide)) dX5_seek_58 ?_
          refine J_iload_n (pc := 59) (n := 2) (i := 2) h 4 rfl rfl dX5_seek_59 ?_
          refine J_icmp_lt (pc := 60) h 67 (by decide) dX5_seek_60 (fun c4 => ?_) (fun c4 => ?_)
          · replace ho := (if_pos c4).symm.trans ho
            refine J_iconst (pc := 67) h (-1) rfl dX5_seek_67 ?_
            refine J_Mp12 (pc := 68) h m_344 dX5_seek_68 ?_
            refine J_iinc (pc := 71) h 1 ((nI k) + 1) [(3, .int ((nI k) + 1)), (4, .int (σ 7 ((nI k).toNatClampNeg))), (0, .ref (ad 0)), (1, .int a), (2, .int b)] rfl rfl (by rw [e4]; decide) rfl dX5_seek_71 ?_
            refine J_goto (pc := 74) h 7 (by decide) dX5_seek_74 ?_
            have hk8 := ltn (k := k) (b := 8) (N := 8) rfl (by omega) (by assumption)
            rw [nI_1]
            refine J_sub [(3, .int (nI (k + 1))), (0, .ref (ad 0)), (1, .int a), (2, .int b)] [0, 2, 3, 4] rfl ?_
            exact ih (k + 1) (up2 (up2 (f_X5_enter (σ 7 ((nI k).toNatClampNeg)) σ) 5 ((σ 7 ((nI k).toNatClampNeg)).toNatClampNeg) (((f_X5_enter (σ 7 ((nI k).toNatClampNeg)) σ) 5 ((σ 7 ((nI k).toNatClampNeg)).toNatClampNeg)) - 1)) 0 12 (-1)) (fun r hr => by rw [up2_off _ _ (by decide), up2_off _ _ (by decide), fr5_enter (by decide)]; exact h7 r hr) (by omega) (by omega) ho
          · replace ho := (if_neg c4).symm.trans ho
            refine J_iload_n (pc := 63) (n := 3) (i := 3) h 1 rfl rfl dX5_seek_63 ?_
            refine J_goto (pc := 64) h 68 (by decide) dX5_seek_64 ?_
            refine J_Mp12 (pc := 68) h m_344 dX5_seek_68 ?_
            refine J_iinc (pc := 71) h 1 ((nI k) + 1) [(3, .int ((nI k) + 1)), (4, .int (σ 7 ((nI k).toNatClampNeg))), (0, .ref (ad 0)), (1, .int a), (2, .int b)] rfl rfl (by rw [e4]; decide) rfl dX5_seek_71 ?_
            refine J_goto (pc := 74) h 7 (by decide) dX5_seek_74 ?_
            have hk8 := ltn (k := k) (b := 8) (N := 8) rfl (by omega) (by assumption)
            rw [nI_1]
            refine J_sub [(3, .int (nI (k + 1))), (0, .ref (ad 0)), (1, .int a), (2, .int b)] [0, 2, 3, 4] rfl ?_
            exact ih (k + 1) (up2 (up2 (f_X5_enter (σ 7 ((nI k).toNatClampNeg)) σ) 5 ((σ 7 ((nI k).toNatClampNeg)).toNatClampNeg) (((f_X5_enter (σ 7 ((nI k).toNatClampNeg)) σ) 5 ((σ 7 ((nI k).toNatClampNeg)).toNatClampNeg)) - 1)) 0 12 (nI k)) (fun r hr => by rw [up2_off _ _ (by decide), up2_off _ _ (by decide), fr5_enter (by decide)]; exact h7 r hr) (by omega) (by omega) ho
def f_X5_seek (a : Int32) (b : Int32) (σ : Sg) : Sg := (lf_X5_seek (9 - a.toNatClampNeg) a.toNatClampNeg b (up2 σ 0 12 (-1)))
theorem hd_X5_seek : yX5_seek.cls ≠ "java/lang/invoke/MethodHandle" ∧ yX5_seek.cls ≠ "java/lang/invoke/VarHandle" ∧ (parseMethodDescriptor yX5_seek.desc).map (fun d => d.parameters.length) = some 2 := by decide +kernel
set_option maxHeartbeats 4000000 in
set_option maxRecDepth 20000 in
theorem c_X5_seek (l : Launch) (g : Gy) (ad : Nat → Nat) (σ : Sg) (a : Int32) (b : Int32) (hR7 : ∀ r : Nat, r < 8 → σ 7 r = -1 ∨ vp_in (σ 7 r) 4200) (ha : vp_in a 8) : Con l g yX5_seek cX5_seek 5 none (rmL 1) [.ref (ad 0), .int a, .int b] (wM g ad σ) (Det none (wM g ad (f_X5_seek a b σ))) := by
  refine Con.of (by decide) (Nat.le_of_ble_eq_true rfl) ?_
  intro x h e1 e2 e3 e4 e5 hr
  subst e1 e2
  have h : Ok x cX5_seek "SafeDeskModel" none := h
  have hR : RmOk x 1 0 0 := RmOk.of e3 (Nat.le_refl _) (Nat.le_refl _)
  obtain ⟨out, ho⟩ : ∃ o, f_X5_seek a b σ = o := ⟨_, rfl⟩
  rw [ho] at hr
  unfold f_X5_seek at ho
  show J x 0 0 _ 0 [(0, .ref (ad 0)), (1, .int a), (2, .int b)] []
  refine J_aload_n (pc := 0) (n := 0) (i := 0) h 0 rfl rfl dX5_seek_0 ?_
  refine J_iconst (pc := 1) h (-1) rfl dX5_seek_1 ?_
  refine J_Mp12 (pc := 2) h m_344 dX5_seek_2 ?_
  refine J_iload_n (pc := 5) (n := 1) (i := 1) h 1 rfl rfl dX5_seek_5 ?_
  refine J_istore_n (pc := 6) (n := 3) (i := 3) h [(3, .int a), (0, .ref (ad 0)), (1, .int a), (2, .int b)] rfl (by rw [e4]; decide) rfl dX5_seek_6 ?_
  rw [nI_nat ha]
  exact lp_X5_seek (by decide) h hR e4 hr (9 - a.toNatClampNeg) a.toNatClampNeg (up2 σ 0 12 (-1)) (fun r hr => by rw [up2_off _ _ (by decide)]; exact hR7 r hr) (Nat.le_of_lt (vp_lt ha)) (by have := vp_lt ha; omega) ho
def lf_X5_count : Nat → Nat → Int32 → Sg → Int32
  | 0, _, acc, _ => acc
  | m + 1, k, acc, σ => (if 8 ≤ nI k then acc else (if σ 7 ((nI k).toNatClampNeg) = (-1) then (lf_X5_count m (k + 1) acc σ) else (lf_X5_count m (k + 1) (acc + 1) σ)))
set_option maxHeartbeats 4000000 in
theorem lp_X5_count {x : Cx} {ad : Nat → Nat} {a : Int32} {σ : Sg} (h : Ok x cX5_count "SafeDeskModel" (some .int)) (e4 : xN x = 4) {out : Int32} (hr : Rt x 0 0 (Det (some (.int out)) (wM (xG x) ad σ))) : ∀ (m k : Nat) (acc : Int32), k ≤ 8 → k + m = 9 → lf_X5_count m k acc σ = out → J x 0 0 (wM (xG x) ad σ) 9 [(3, .int (nI k)), (2, .int acc), (0, .ref (ad 0)), (1, .int a)] [] := by
  intro m
  induction m with
  | zero => intro k acc hk hm ho; omega
  | succ m ih =>
    intro k acc hk hm ho
    unfold lf_X5_count at ho
    refine J_iload_n (pc := 9) (n := 3) (i := 3) h 0 rfl rfl dX5_count_9 ?_
    refine J_bipush (pc := 10) h (8) rfl dX5_count_10 ?_
    refine J_icmp_ge (pc := 12) h 39 (by decide) dX5_count_12 (fun c1 => ?_) (fun c1 => ?_)
    · replace ho := (if_pos c1).symm.trans ho
      refine J_iload_n (pc := 39) (n := 2) (i := 2) h 1 rfl rfl dX5_count_39 ?_
      exact J_iret (pc := 40) h hr (by subst ho; exact ⟨rfl, rfl⟩) dX5_count_40
    · replace ho := (if_neg c1).symm.trans ho
      refine J_aload_n (pc := 15) (n := 0) (i := 0) h 2 rfl rfl dX5_count_15 ?_
      refine J_Mr7 (pc := 16) h m_339 dX5_count_16 ?_
      refine J_iload_n (pc := 19) (n := 3) (i := 3) h 0 rfl rfl dX5_count_19 ?_
      refine J_Ma (pc := 20) h 7 8 ⟨by decide, by decide⟩ rfl (vp_in_nI (ltn (b := 8) (N := 8) rfl (by omega) (by assumption)) (by decide)) (σ 7 ((nI k).toNatClampNeg)) rfl dX5_count_20 ?_
      refine J_iconst (pc := 21) h (-1) rfl dX5_count_21 ?_
      refine J_icmp_ne (pc := 22) h 29 (by decide) dX5_count_22 (fun c2 => ?_) (fun c2 => ?_)
      · replace ho := (if_neg c2).symm.trans ho
        refine J_iload_n (pc := 29) (n := 2) (i := 2) h 1 rfl rfl dX5_count_29 ?_
        refine J_iconst (pc := 30) h (1) rfl dX5_count_30 ?_
        refine J_iadd (pc := 31) h dX5_count_31 ?_
        refine J_istore_n (pc := 32) (n := 2) (i := 2) h [(2, .int (acc + 1)), (3, .int (nI k)), (0, .ref (ad 0)), (1, .int a)] rfl (by rw [e4]; decide) rfl dX5_count_32 ?_
        refine J_iinc (pc := 33) h 1 ((nI k) + 1) [(3, .int ((nI k) + 1)), (2, .int (acc + 1)), (0, .ref (ad 0)), (1, .int a)] rfl rfl (by rw [e4]; decide) rfl dX5_count_33 ?_
        refine J_goto (pc := 36) h 9 (by decide) dX5_count_36 ?_
        have hk8 := ltn (k := k) (b := 8) (N := 8) rfl (by omega) (by assumption)
        rw [nI_1]
        exact ih (k + 1) (acc + 1) (by omega) (by omega) ho
      · replace ho := (if_pos c2).symm.trans ho
        refine J_iload_n (pc := 25) (n := 2) (i := 2) h 1 rfl rfl dX5_count_25 ?_
        refine J_goto (pc := 26) h 32 (by decide) dX5_count_26 ?_
        refine J_istore_n (pc := 32) (n := 2) (i := 2) h [(2, .int acc), (3, .int (nI k)), (0, .ref (ad 0)), (1, .int a)] rfl (by rw [e4]; decide) rfl dX5_count_32 ?_
        refine J_iinc (pc := 33) h 1 ((nI k) + 1) [(3, .int ((nI k) + 1)), (2, .int acc), (0, .ref (ad 0)), (1, .int a)] rfl rfl (by rw [e4]; decide) rfl dX5_count_33 ?_
        refine J_goto (pc := 36) h 9 (by decide) dX5_count_36 ?_
        have hk8 := ltn (k := k) (b := 8) (N := 8) rfl (by omega) (by assumption)
        rw [nI_1]
        exact ih (k + 1) acc (by omega) (by omega) ho
theorem in_49 {a : Int32} (h : ¬ f_X5_in a 4 9 = 0) : vp_in (a - 4) 6 := by
  obtain ⟨h1, h2⟩ := in_no h
  have h0 : ¬ a < 0 := by
    rw [i_lt] at h1 ⊢
    rw [ti0]
    rw [show (4 : Int32).toInt = 4 from rfl] at h1
    omega
  obtain ⟨j, hj, rfl⟩ := nI_of h0
  rw [i_lt, nI_toInt hj, show (4 : Int32).toInt = 4 from rfl] at h1
  rw [i_lt, nI_toInt hj, show (9 : Int32).toInt = 9 from rfl] at h2
  rw [show (4 : Int32) = nI 4 from rfl, pk_sub (by omega)]
  exact vp_in_nI (by omega) (by decide)
def f_X5_count (a : Int32) (σ : Sg) : Int32 := (if a = 3 then (lf_X5_count 9 0 0 σ) else (if a = 0 then (σ 0 13) else (if a = 1 then (σ 0 15) else (if a = 2 then (σ 0 17) else (if f_X5_in a 4 9 = 0 then (-1) else (σ 8 ((a - 4).toNatClampNeg)))))))
theorem hd_X5_count : yX5_count.cls ≠ "java/lang/invoke/MethodHandle" ∧ yX5_count.cls ≠ "java/lang/invoke/VarHandle" ∧ (parseMethodDescriptor yX5_count.desc).map (fun d => d.parameters.length) = some 1 := by decide +kernel
set_option maxHeartbeats 4000000 in
set_option maxRecDepth 20000 in
theorem c_X5_count (l : Launch) (g : Gy) (ad : Nat → Nat) (σ : Sg) (a : Int32)  : Con l g yX5_count cX5_count 4 (some .int) (rmL 1) [.ref (ad 0), .int a] (wM g ad σ) (Det (some (.int (f_X5_count a σ))) (wM g ad σ)) := by
  refine Con.of (by decide) (Nat.le_of_ble_eq_true rfl) ?_
  intro x h e1 e2 e3 e4 e5 hr
  subst e1 e2
  have h : Ok x cX5_count "SafeDeskModel" (some .int) := h
  have hR : RmOk x 1 0 0 := RmOk.of e3 (Nat.le_refl _) (Nat.le_refl _)
  obtain ⟨out, ho⟩ : ∃ o, f_X5_count a σ = o := ⟨_, rfl⟩
  rw [ho] at hr
  unfold f_X5_count at ho
  show J x 0 0 _ 0 [(0, .ref (ad 0)), (1, .int a)] []
  refine J_iload_n (pc := 0) (n := 1) (i := 1) h 1 rfl rfl dX5_count_0 ?_
  refine J_iconst (pc := 1) h (3) rfl dX5_count_1 ?_
  refine J_icmp_ne (pc := 2) h 41 (by decide) dX5_count_2 (fun c1 => ?_) (fun c1 => ?_)
  · replace ho := (if_neg c1).symm.trans ho
    refine J_iload_n (pc := 41) (n := 1) (i := 1) h 1 rfl rfl dX5_count_41 ?_
    refine J_if_ne (pc := 42) h 52 (by decide) dX5_count_42 (fun c2 => ?_) (fun c2 => ?_)
    · replace ho := (if_neg c2).symm.trans ho
      refine J_iload_n (pc := 52) (n := 1) (i := 1) h 1 rfl rfl dX5_count_52 ?_
      refine J_iconst (pc := 53) h (1) rfl dX5_count_53 ?_
      refine J_icmp_ne (pc := 54) h 64 (by decide) dX5_count_54 (fun c3 => ?_) (fun c3 => ?_)
      · replace ho := (if_neg c3).symm.trans ho
        refine J_iload_n (pc := 64) (n := 1) (i := 1) h 1 rfl rfl dX5_count_64 ?_
        refine J_iconst (pc := 65) h (2) rfl dX5_count_65 ?_
        refine J_icmp_ne (pc := 66) h 76 (by decide) dX5_count_66 (fun c4 => ?_) (fun c4 => ?_)
        · replace ho := (if_neg c4).symm.trans ho
          refine J_iload_n (pc := 76) (n := 1) (i := 1) h 1 rfl rfl dX5_count_76 ?_
          refine J_iconst (pc := 77) h (4) rfl dX5_count_77 ?_
          refine J_bipush (pc := 78) h (9) rfl dX5_count_78 ?_
          refine J_cS (pc := 80) h hR (by decide) (c_X5_in _ _ _ a 4 9 ) (by decide) m_415 m_416 m_3 m_417 hd_X5_in rfl rfl (Nat.le_of_ble_eq_true rfl) [.int (f_X5_in a 4 9)] rfl dX5_count_80 ?_
          refine J_if_eq (pc := 83) h 97 (by decide) dX5_count_83 (fun c5 => ?_) (fun c5 => ?_)
          · replace ho := (if_pos c5).symm.trans ho
            refine J_iconst (pc := 97) h (-1) rfl dX5_count_97 ?_
            exact J_iret (pc := 98) h hr (by subst ho; exact ⟨rfl, rfl⟩) dX5_count_98
          · replace ho := (if_neg c5).symm.trans ho
            refine J_aload_n (pc := 86) (n := 0) (i := 0) h 0 rfl rfl dX5_count_86 ?_
            refine J_Mr8 (pc := 87) h m_340 dX5_count_87 ?_
            refine J_iload_n (pc := 90) (n := 1) (i := 1) h 1 rfl rfl dX5_count_90 ?_
            refine J_iconst (pc := 91) h (4) rfl dX5_count_91 ?_
            refine J_isub (pc := 92) h dX5_count_92 ?_
            refine J_Ma (pc := 93) h 8 6 ⟨by decide, by decide⟩ rfl (in_49 (by assumption)) (σ 8 ((a - 4).toNatClampNeg)) rfl dX5_count_93 ?_
            refine J_goto (pc := 94) h 98 (by decide) dX5_count_94 ?_
            exact J_iret (pc := 98) h hr (by subst ho; exact ⟨rfl, rfl⟩) dX5_count_98
        · replace ho := (if_pos c4).symm.trans ho
          refine J_aload_n (pc := 69) (n := 0) (i := 0) h 0 rfl rfl dX5_count_69 ?_
          refine J_Mg17 (pc := 70) h m_349 (σ 0 17) rfl dX5_count_70 ?_
          refine J_goto (pc := 73) h 98 (by decide) dX5_count_73 ?_
          exact J_iret (pc := 98) h hr (by subst ho; exact ⟨rfl, rfl⟩) dX5_count_98
      · replace ho := (if_pos c3).symm.trans ho
        refine J_aload_n (pc := 57) (n := 0) (i := 0) h 0 rfl rfl dX5_count_57 ?_
        refine J_Mg15 (pc := 58) h m_347 (σ 0 15) rfl dX5_count_58 ?_
        refine J_goto (pc := 61) h 98 (by decide) dX5_count_61 ?_
        exact J_iret (pc := 98) h hr (by subst ho; exact ⟨rfl, rfl⟩) dX5_count_98
    · replace ho := (if_pos c2).symm.trans ho
      refine J_aload_n (pc := 45) (n := 0) (i := 0) h 0 rfl rfl dX5_count_45 ?_
      refine J_Mg13 (pc := 46) h m_345 (σ 0 13) rfl dX5_count_46 ?_
      refine J_goto (pc := 49) h 98 (by decide) dX5_count_49 ?_
      exact J_iret (pc := 98) h hr (by subst ho; exact ⟨rfl, rfl⟩) dX5_count_98
  · replace ho := (if_pos c1).symm.trans ho
    refine J_iconst (pc := 5) h (0) rfl dX5_count_5 ?_
    refine J_istore_n (pc := 6) (n := 2) (i := 2) h [(2, .int 0), (0, .ref (ad 0)), (1, .int a)] rfl (by rw [e4]; decide) rfl dX5_count_6 ?_
    refine J_iconst (pc := 7) h (0) rfl dX5_count_7 ?_
    refine J_istore_n (pc := 8) (n := 3) (i := 3) h [(3, .int 0), (2, .int 0), (0, .ref (ad 0)), (1, .int a)] rfl (by rw [e4]; decide) rfl dX5_count_8 ?_
    exact lp_X5_count h e4 hr 9 0 0 (by decide) (by decide) ho
