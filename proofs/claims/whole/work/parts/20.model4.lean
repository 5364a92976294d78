/-- one turn of the reference's loop may be done -/
def ITm (B : Nat) (σ : Sg) : Prop := MV B σ ∧ (¬ σ 15 ((σ 0 20) - 1).toNatClampNeg = σ 16 ((σ 0 20) - 1).toNatClampNeg → vp_in ((12 * (σ 14 ((σ 0 20) - 1).toNatClampNeg)) + (σ 15 ((σ 0 20) - 1).toNatClampNeg)) 72 ∧ ¬ f_X4_isStep (σ 9 ((12 * (σ 14 ((σ 0 20) - 1).toNatClampNeg)) + (σ 15 ((σ 0 20) - 1).toNatClampNeg)).toNatClampNeg) (σ 10 ((12 * (σ 14 ((σ 0 20) - 1).toNatClampNeg)) + (σ 15 ((σ 0 20) - 1).toNatClampNeg)).toNatClampNeg) (σ 11 ((12 * (σ 14 ((σ 0 20) - 1).toNatClampNeg)) + (σ 15 ((σ 0 20) - 1).toNatClampNeg)).toNatClampNeg) = 0)
theorem MV.npos {B : Nat} {σ : Sg} (h : MV B σ) : ¬ σ 0 20 ≤ 0 := by
  rw [h.1.1]
  exact nI_nle (by omega) (by have := h.2.1; omega)
def f_X5_it (σ : Sg) : Sg := (if σ 15 (((σ 0 20) - 1).toNatClampNeg) = σ 16 (((σ 0 20) - 1).toNatClampNeg) then (f_X5_pop σ) else (if σ 0 13 = 200 then (f_X5_fails 40 σ) else (f_X5_does ((f_X5_leave (100 + (σ 9 (((12 * (σ 14 (((σ 0 20) - 1).toNatClampNeg))) + (σ 15 (((σ 0 20) - 1).toNatClampNeg))).toNatClampNeg))) (up2 (up2 σ 15 (((σ 0 20) - 1).toNatClampNeg) ((σ 15 (((σ 0 20) - 1).toNatClampNeg)) + 1)) 0 13 ((σ 0 13) + 1))) 9 (((12 * (σ 14 (((σ 0 20) - 1).toNatClampNeg))) + (σ 15 (((σ 0 20) - 1).toNatClampNeg))).toNatClampNeg)) ((f_X5_leave (100 + (σ 9 (((12 * (σ 14 (((σ 0 20) - 1).toNatClampNeg))) + (σ 15 (((σ 0 20) - 1).toNatClampNeg))).toNatClampNeg))) (up2 (up2 σ 15 (((σ 0 20) - 1).toNatClampNeg) ((σ 15 (((σ 0 20) - 1).toNatClampNeg)) + 1)) 0 13 ((σ 0 13) + 1))) 10 (((12 * (σ 14 (((σ 0 20) - 1).toNatClampNeg))) + (σ 15 (((σ 0 20) - 1).toNatClampNeg))).toNatClampNeg)) ((f_X5_leave (100 + (σ 9 (((12 * (σ 14 (((σ 0 20) - 1).toNatClampNeg))) + (σ 15 (((σ 0 20) - 1).toNatClampNeg))).toNatClampNeg))) (up2 (up2 σ 15 (((σ 0 20) - 1).toNatClampNeg) ((σ 15 (((σ 0 20) - 1).toNatClampNeg)) + 1)) 0 13 ((σ 0 13) + 1))) 11 (((12 * (σ 14 (((σ 0 20) - 1).toNatClampNeg))) + (σ 15 (((σ 0 20) - 1).toNatClampNeg))).toNatClampNeg)) (f_X5_leave (100 + (σ 9 (((12 * (σ 14 (((σ 0 20) - 1).toNatClampNeg))) + (σ 15 (((σ 0 20) - 1).toNatClampNeg))).toNatClampNeg))) (up2 (up2 σ 15 (((σ 0 20) - 1).toNatClampNeg) ((σ 15 (((σ 0 20) - 1).toNatClampNeg)) + 1)) 0 13 ((σ 0 13) + 1))))))
/-- the reference's loop comes from σ to σ' in m turns -/
def Rch : Nat → Sg → Sg → Prop
  | 0, σ, σ' => σ = σ'
  | m + 1, σ, σ' => (∃ B, ITm B σ) ∧ Rch m (f_X5_it σ) σ'
set_option maxHeartbeats 4000000 in
theorem lp_X5_run {x : Cx} {ad : Nat → Nat} {pl v : Int32} {L : Nat} {σe : Sg} (hL : 7 ≤ L) (h : Ok x cX5_run "SafeDeskModel" (some .int)) (hR : RmOk x L 0 0) (e4 : xN x = 5) (hex : J x 0 0 (wM (xG x) ad σe) 51 [(0, .ref (ad 0)), (1, .int pl), (2, .int v)] []) : ∀ (m : Nat) (σ : Sg), Rch m σ σe → J x 0 0 (wM (xG x) ad σ) 51 [(0, .ref (ad 0)), (1, .int pl), (2, .int v)] [] := by
  intro m
  induction m with
  | zero => intro σ hx; rw [show σ = σe from hx]; exact hex
  | succ m ih =>
    intro σ hx
    obtain ⟨⟨B, hm, hat⟩, hx⟩ := hx
    have hpos := hm.npos
    unfold f_X5_it at hx
    refine J_aload_n (pc := 51) (n := 0) (i := 0) h 0 rfl rfl dX5_run_51 ?_
    refine J_Mg20 (pc := 52) h m_352 (σ 0 20) rfl dX5_run_52 ?_
    refine J_if_le (pc := 55) h 186 (by decide) dX5_run_55 (fun c1 => ?_) (fun c1 => ?_)
    · exact absurd c1 hpos
    · skip
      refine J_aload_n (pc := 58) (n := 0) (i := 0) h 0 rfl rfl dX5_run_58 ?_
      refine J_Mg20 (pc := 59) h m_352 (σ 0 20) rfl dX5_run_59 ?_
      refine J_iconst (pc := 62) h (1) rfl dX5_run_62 ?_
      refine J_isub (pc := 63) h dX5_run_63 ?_
      refine J_istore_n (pc := 64) (n := 3) (i := 3) h [(3, .int ((σ 0 20) - 1)), (0, .ref (ad 0)), (1, .int pl), (2, .int v)] rfl (by rw [e4]; decide) rfl dX5_run_64 ?_
      refine J_aload_n (pc := 65) (n := 0) (i := 0) h 1 rfl rfl dX5_run_65 ?_
      refine J_Mr23 (pc := 66) h m_355 dX5_run_66 ?_
      refine J_iload_n (pc := 69) (n := 3) (i := 3) h 0 rfl rfl dX5_run_69 ?_
      refine J_Ma (pc := 70) h 15 80 ⟨by decide, by decide⟩ rfl hm.1.vin (σ 15 (((σ 0 20) - 1).toNatClampNeg)) rfl dX5_run_70 ?_
      refine J_aload_n (pc := 71) (n := 0) (i := 0) h 1 rfl rfl dX5_run_71 ?_
      refine J_Mr24 (pc := 72) h m_356 dX5_run_72 ?_
      refine J_iload_n (pc := 75) (n := 3) (i := 3) h 0 rfl rfl dX5_run_75 ?_
      refine J_Ma (pc := 76) h 16 80 ⟨by decide, by decide⟩ rfl hm.1.vin (σ 16 (((σ 0 20) - 1).toNatClampNeg)) rfl dX5_run_76 ?_
      refine J_icmp_ne (pc := 77) h 87 (by decide) dX5_run_77 (fun c2 => ?_) (fun c2 => ?_)
      · rw [if_neg c2] at hx
        refine J_aload_n (pc := 87) (n := 0) (i := 0) h 1 rfl rfl dX5_run_87 ?_
        refine J_Mg13 (pc := 88) h m_345 (σ 0 13) rfl dX5_run_88 ?_
        refine J_sipush (pc := 91) h (200) rfl dX5_run_91 ?_
        refine J_icmp_ne (pc := 94) h 106 (by decide) dX5_run_94 (fun c3 => ?_) (fun c3 => ?_)
        · rw [if_neg c3] at hx
          refine J_bipush (pc := 106) h (12) rfl dX5_run_106 ?_
          refine J_aload_n (pc := 108) (n := 0) (i := 0) h 1 rfl rfl dX5_run_108 ?_
          refine J_Mr22 (pc := 109) h m_354 dX5_run_109 ?_
          refine J_iload_n (pc := 112) (n := 3) (i := 3) h 0 rfl rfl dX5_run_112 ?_
          refine J_Ma (pc := 113) h 14 80 ⟨by decide, by decide⟩ rfl hm.1.vin (σ 14 (((σ 0 20) - 1).toNatClampNeg)) rfl dX5_run_113 ?_
          refine J_imul (pc := 114) h dX5_run_114 ?_
          refine J_aload_n (pc := 115) (n := 0) (i := 0) h 1 rfl rfl dX5_run_115 ?_
          refine J_Mr23 (pc := 116) h m_355 dX5_run_116 ?_
          refine J_iload_n (pc := 119) (n := 3) (i := 3) h 0 rfl rfl dX5_run_119 ?_
          refine J_Ma (pc := 120) h 15 80 ⟨by decide, by decide⟩ rfl hm.1.vin (σ 15 (((σ 0 20) - 1).toNatClampNeg)) rfl dX5_run_120 ?_
          refine J_iadd (pc := 121) h dX5_run_121 ?_
          refine J_istore (pc := 122) h [(4, .int ((12 * (σ 14 (((σ 0 20) - 1).toNatClampNeg))) + (σ 15 (((σ 0 20) - 1).toNatClampNeg)))), (3, .int ((σ 0 20) - 1)), (0, .ref (ad 0)), (1, .int pl), (2, .int v)] (by rw [e4]; decide) rfl dX5_run_122 ?_
          refine J_aload_n (pc := 124) (n := 0) (i := 0) h 2 rfl rfl dX5_run_124 ?_
          refine J_Mr23 (pc := 125) h m_355 dX5_run_125 ?_
          refine J_iload_n (pc := 128) (n := 3) (i := 3) h 1 rfl rfl dX5_run_128 ?_
          refine J_dup2 (pc := 129) h rfl rfl dX5_run_129 ?_
          refine J_Ma (pc := 130) h 15 80 ⟨by decide, by decide⟩ rfl hm.1.vin (σ 15 (((σ 0 20) - 1).toNatClampNeg)) rfl dX5_run_130 ?_
          refine J_iconst (pc := 131) h (1) rfl dX5_run_131 ?_
          refine J_iadd (pc := 132) h dX5_run_132 ?_
          refine J_Ms (pc := 133) h 15 80 ⟨by decide, by decide⟩ rfl hm.1.vin dX5_run_133 ?_
          refine J_aload_n (pc := 134) (n := 0) (i := 0) h 2 rfl rfl dX5_run_134 ?_
          refine J_dup (pc := 135) h rfl dX5_run_135 ?_
          refine J_Mg13 (pc := 136) h m_345 (σ 0 13) (up2_off _ _ (by decide)) dX5_run_136 ?_
          refine J_iconst (pc := 139) h (1) rfl dX5_run_139 ?_
          refine J_iadd (pc := 140) h dX5_run_140 ?_
          refine J_Mp13 (pc := 141) h m_345 dX5_run_141 ?_
          refine J_aload_n (pc := 144) (n := 0) (i := 0) h 2 rfl rfl dX5_run_144 ?_
          refine J_bipush (pc := 145) h (100) rfl dX5_run_145 ?_
          refine J_aload_n (pc := 147) (n := 0) (i := 0) h 2 rfl rfl dX5_run_147 ?_
          refine J_Mr9 (pc := 148) h m_341 dX5_run_148 ?_
          refine J_iload (pc := 151) h 0 rfl dX5_run_151 ?_
          refine J_Ma (pc := 153) h 9 72 ⟨by decide, by decide⟩ rfl (hat (by assumption)).1 (σ 9 (((12 * (σ 14 (((σ 0 20) - 1).toNatClampNeg))) + (σ 15 (((σ 0 20) - 1).toNatClampNeg))).toNatClampNeg)) ((up2_off _ _ (by decide)).trans (up2_off _ _ (by decide))) dX5_run_153 ?_
          refine J_iadd (pc := 154) h dX5_run_154 ?_
          refine J_cM (pc := 155) h hR (by omega) (c_X5_leave _ _ _ (up2 (up2 σ 15 (((σ 0 20) - 1).toNatClampNeg) ((σ 15 (((σ 0 20) - 1).toNatClampNeg)) + 1)) 0 13 ((σ 0 13) + 1)) (100 + (σ 9 (((12 * (σ 14 (((σ 0 20) - 1).toNatClampNeg))) + (σ 15 (((σ 0 20) - 1).toNatClampNeg))).toNatClampNeg))) (by rw [up2_row _ _ _ (by decide), up2_off _ _ (by decide)]; exact hm.1.t)) (by decide) m_451 m_453 ms_16 m_454 ⟨rfl, hd_X5_leave⟩ rfl rfl (Nat.le_of_ble_eq_true rfl) [] rfl dX5_run_155 ?_
          refine J_aload_n (pc := 158) (n := 0) (i := 0) h 2 rfl rfl dX5_run_158 ?_
          refine J_aload_n (pc := 159) (n := 0) (i := 0) h 2 rfl rfl dX5_run_159 ?_
          refine J_Mr9 (pc := 160) h m_341 dX5_run_160 ?_
          refine J_iload (pc := 163) h 0 rfl dX5_run_163 ?_
          refine J_Ma (pc := 165) h 9 72 ⟨by decide, by decide⟩ rfl (hat (by assumption)).1 ((f_X5_leave (100 + (σ 9 (((12 * (σ 14 (((σ 0 20) - 1).toNatClampNeg))) + (σ 15 (((σ 0 20) - 1).toNatClampNeg))).toNatClampNeg))) (up2 (up2 σ 15 (((σ 0 20) - 1).toNatClampNeg) ((σ 15 (((σ 0 20) - 1).toNatClampNeg)) + 1)) 0 13 ((σ 0 13) + 1))) 9 (((12 * (σ 14 (((σ 0 20) - 1).toNatClampNeg))) + (σ 15 (((σ 0 20) - 1).toNatClampNeg))).toNatClampNeg)) rfl dX5_run_165 ?_
          refine J_aload_n (pc := 166) (n := 0) (i := 0) h 2 rfl rfl dX5_run_166 ?_
          refine J_Mr10 (pc := 167) h m_342 dX5_run_167 ?_
          refine J_iload (pc := 170) h 0 rfl dX5_run_170 ?_
          refine J_Ma (pc := 172) h 10 72 ⟨by decide, by decide⟩ rfl (hat (by assumption)).1 ((f_X5_leave (100 + (σ 9 (((12 * (σ 14 (((σ 0 20) - 1).toNatClampNeg))) + (σ 15 (((σ 0 20) - 1).toNatClampNeg))).toNatClampNeg))) (up2 (up2 σ 15 (((σ 0 20) - 1).toNatClampNeg) ((σ 15 (((σ 0 20) - 1).toNatClampNeg)) + 1)) 0 13 ((σ 0 13) + 1))) 10 (((12 * (σ 14 (((σ 0 20) - 1).toNatClampNeg))) + (σ 15 (((σ 0 20) - 1).toNatClampNeg))).toNatClampNeg)) rfl dX5_run_172 ?_
          refine J_aload_n (pc := 173) (n := 0) (i := 0) h 2 rfl rfl dX5_run_173 ?_
          refine J_Mr11 (pc := 174) h m_343 dX5_run_174 ?_
          refine J_iload (pc := 177) h 0 rfl dX5_run_177 ?_
          refine J_Ma (pc := 179) h 11 72 ⟨by decide, by decide⟩ rfl (hat (by assumption)).1 ((f_X5_leave (100 + (σ 9 (((12 * (σ 14 (((σ 0 20) - 1).toNatClampNeg))) + (σ 15 (((σ 0 20) - 1).toNatClampNeg))).toNatClampNeg))) (up2 (up2 σ 15 (((σ 0 20) - 1).toNatClampNeg) ((σ 15 (((σ 0 20) - 1).toNatClampNeg)) + 1)) 0 13 ((σ 0 13) + 1))) 11 (((12 * (σ 14 (((σ 0 20) - 1).toNatClampNeg))) + (σ 15 (((σ 0 20) - 1).toNatClampNeg))).toNatClampNeg)) rfl dX5_run_179 ?_
          refine J_cM (pc := 180) h hR (by omega) (c_X5_does _ _ _ (f_X5_leave (100 + (σ 9 (((12 * (σ 14 (((σ 0 20) - 1).toNatClampNeg))) + (σ 15 (((σ 0 20) - 1).toNatClampNeg))).toNatClampNeg))) (up2 (up2 σ 15 (((σ 0 20) - 1).toNatClampNeg) ((σ 15 (((σ 0 20) - 1).toNatClampNeg)) + 1)) 0 13 ((σ 0 13) + 1))) ((f_X5_leave (100 + (σ 9 (((12 * (σ 14 (((σ 0 20) - 1).toNatClampNeg))) + (σ 15 (((σ 0 20) - 1).toNatClampNeg))).toNatClampNeg))) (up2 (up2 σ 15 (((σ 0 20) - 1).toNatClampNeg) ((σ 15 (((σ 0 20) - 1).toNatClampNeg)) + 1)) 0 13 ((σ 0 13) + 1))) 9 (((12 * (σ 14 (((σ 0 20) - 1).toNatClampNeg))) + (σ 15 (((σ 0 20) - 1).toNatClampNeg))).toNatClampNeg)) ((f_X5_leave (100 + (σ 9 (((12 * (σ 14 (((σ 0 20) - 1).toNatClampNeg))) + (σ 15 (((σ 0 20) - 1).toNatClampNeg))).toNatClampNeg))) (up2 (up2 σ 15 (((σ 0 20) - 1).toNatClampNeg) ((σ 15 (((σ 0 20) - 1).toNatClampNeg)) + 1)) 0 13 ((σ 0 13) + 1))) 10 (((12 * (σ 14 (((σ 0 20) - 1).toNatClampNeg))) + (σ 15 (((σ 0 20) - 1).toNatClampNeg))).toNatClampNeg)) ((f_X5_leave (100 + (σ 9 (((12 * (σ 14 (((σ 0 20) - 1).toNatClampNeg))) + (σ 15 (((σ 0 20) - 1).toNatClampNeg))).toNatClampNeg))) (up2 (up2 σ 15 (((σ 0 20) - 1).toNatClampNeg) ((σ 15 (((σ 0 20) - 1).toNatClampNeg)) + 1)) 0 13 ((σ 0 13) + 1))) 11 (((12 * (σ 14 (((σ 0 20) - 1).toNatClampNeg))) + (σ 15 (((σ 0 20) - 1).toNatClampNeg))).toNatClampNeg)) B (show MV B (f_X5_leave (100 + (σ 9 (((12 * (σ 14 (((σ 0 20) - 1).toNatClampNeg))) + (σ 15 (((σ 0 20) - 1).toNatClampNeg))).toNatClampNeg))) (up2 (up2 σ 15 (((σ 0 20) - 1).toNatClampNeg) ((σ 15 (((σ 0 20) - 1).toNatClampNeg)) + 1)) 0 13 ((σ 0 13) + 1))) from MV.leave (hm.of (by rw [up2_row _ _ _ (by decide), up2_off _ _ (by decide)]) (by rw [up2_row _ _ _ (by decide), up2_off _ _ (by decide)]) (fun k hk => by funext j; rw [up2_off _ _ (by omega), up2_off _ _ (by omega)])) _) (by simp only [lv_rows (k := 9) (by decide) (by decide), lv_rows (k := 10) (by decide) (by decide), lv_rows (k := 11) (by decide) (by decide), up2_off _ _ (show (9 : Nat) ≠ 0 by decide), up2_off _ _ (show (10 : Nat) ≠ 0 by decide), up2_off _ _ (show (11 : Nat) ≠ 0 by decide), up2_off _ _ (show (9 : Nat) ≠ 15 by decide), up2_off _ _ (show (10 : Nat) ≠ 15 by decide), up2_off _ _ (show (11 : Nat) ≠ 15 by decide)]; exact (hat (by assumption)).2)) (by decide) m_459 m_461 ms_18 m_462 ⟨rfl, hd_X5_does⟩ rfl rfl (Nat.le_of_ble_eq_true rfl) [] rfl dX5_run_180 ?_
          refine J_goto (pc := 183) h 51 (by decide) dX5_run_183 ?_
          refine J_sub [(0, .ref (ad 0)), (1, .int pl), (2, .int v)] [2, 3, 4] rfl ?_
          exact ih _ hx
        · rw [if_pos c3] at hx
          refine J_aload_n (pc := 97) (n := 0) (i := 0) h 1 rfl rfl dX5_run_97 ?_
          refine J_bipush (pc := 98) h (40) rfl dX5_run_98 ?_
          refine J_cM (pc := 100) h hR (by omega) (c_X5_fails _ _ _ σ 40 (B + 1) hm.1) (by decide) m_455 m_457 ms_17 m_458 ⟨rfl, hd_X5_fails⟩ rfl rfl (Nat.le_of_ble_eq_true rfl) [] rfl dX5_run_100 ?_
          refine J_goto (pc := 103) h 183 (by decide) dX5_run_103 ?_
          refine J_goto (pc := 183) h 51 (by decide) dX5_run_183 ?_
          refine J_sub [(0, .ref (ad 0)), (1, .int pl), (2, .int v)] [1, 2, 3] rfl ?_
          exact ih _ hx
      · rw [if_pos c2] at hx
        refine J_aload_n (pc := 80) (n := 0) (i := 0) h 1 rfl rfl dX5_run_80 ?_
        refine J_cM (pc := 81) h hR (by omega) (c_X5_pop _ _ _ σ  hm.1.vin hm.1.ab hm.1.t) (by decide) m_447 m_449 ms_15 m_450 ⟨rfl, hd_X5_pop⟩ rfl rfl (Nat.le_of_ble_eq_true rfl) [] rfl dX5_run_81 ?_
        refine J_goto (pc := 84) h 183 (by decide) dX5_run_84 ?_
        refine J_goto (pc := 183) h 51 (by decide) dX5_run_183 ?_
        refine J_sub [(0, .ref (ad 0)), (1, .int pl), (2, .int v)] [1, 2, 3] rfl ?_
        exact ih _ hx
def f_X5_end (σ : Sg) : Int32 × Sg := (if σ 0 14 = 0 then (1, up2 σ 0 15 (σ 0 14)) else ((-10) - (σ 0 14), up2 σ 0 15 (σ 0 14)))
set_option maxHeartbeats 4000000 in
theorem le_X5_run {x : Cx} {ad : Nat → Nat} {pl v : Int32} {σ : Sg} (h : Ok x cX5_run "SafeDeskModel" (some .int)) (hz : σ 0 20 ≤ 0) {out : Int32 × Sg} (hr : Rt x 0 0 (Det (some (.int out.1)) (wM (xG x) ad out.2))) (ho : f_X5_end σ = out) : J x 0 0 (wM (xG x) ad σ) 51 [(0, .ref (ad 0)), (1, .int pl), (2, .int v)] [] := by
  unfold f_X5_end at ho
  refine J_aload_n (pc := 51) (n := 0) (i := 0) h 0 rfl rfl dX5_run_51 ?_
  refine J_Mg20 (pc := 52) h m_352 (σ 0 20) rfl dX5_run_52 ?_
  refine J_if_le (pc := 55) h 186 (by decide) dX5_run_55 (fun c1 => ?_) (fun c1 => ?_)
  · skip
    refine J_aload_n (pc := 186) (n := 0) (i := 0) h 0 rfl rfl dX5_run_186 ?_
    refine J_aload_n (pc := 187) (n := 0) (i := 0) h 0 rfl rfl dX5_run_187 ?_
    refine J_Mg14 (pc := 188) h m_346 (σ 0 14) rfl dX5_run_188 ?_
    refine J_Mp15 (pc := 191) h m_347 dX5_run_191 ?_
    refine J_aload_n (pc := 194) (n := 0) (i := 0) h 0 rfl rfl dX5_run_194 ?_
    refine J_Mg14 (pc := 195) h m_346 (σ 0 14) (up2_row _ _ _ (by decide)) dX5_run_195 ?_
    refine J_if_ne (pc := 198) h 205 (by decide) dX5_run_198 (fun c2 => ?_) (fun c2 => ?_)
    · replace ho := (if_neg c2).symm.trans ho
      refine J_bipush (pc := 205) h (-10) rfl dX5_run_205 ?_
      refine J_aload_n (pc := 207) (n := 0) (i := 0) h 0 rfl rfl dX5_run_207 ?_
      refine J_Mg14 (pc := 208) h m_346 (σ 0 14) (up2_row _ _ _ (by decide)) dX5_run_208 ?_
      refine J_isub (pc := 211) h dX5_run_211 ?_
      exact J_iret (pc := 212) h hr (by subst ho; exact ⟨rfl, rfl⟩) dX5_run_212
    · replace ho := (if_pos c2).symm.trans ho
      refine J_iconst (pc := 201) h (1) rfl dX5_run_201 ?_
      refine J_goto (pc := 202) h 212 (by decide) dX5_run_202 ?_
      exact J_iret (pc := 212) h hr (by subst ho; exact ⟨rfl, rfl⟩) dX5_run_212
  · exact absurd hz c1
def f_X5_run (σe : Sg) (pl : Int32) (v : Int32) (σ : Sg) : Int32 × Sg := (if f_X5_in pl 0 5 = 0 then ((-1), σ) else (f_X5_end σe))
theorem hd_X5_run : yX5_run.cls ≠ "java/lang/invoke/MethodHandle" ∧ yX5_run.cls ≠ "java/lang/invoke/VarHandle" ∧ (parseMethodDescriptor yX5_run.desc).map (fun d => d.parameters.length) = some 2 := by decide +kernel
set_option maxHeartbeats 4000000 in
set_option maxRecDepth 20000 in
theorem c_X5_run (l : Launch) (g : Gy) (ad : Nat → Nat) (σ : Sg) (σe : Sg) (pl : Int32) (v : Int32) (hrch : ¬ f_X5_in pl 0 5 = 0 → ∃ m, Rch m (f_X5_beginPlan pl (up2 (up2 (up2 (up2 (up2 (up2 (up2 σ 0 12 v) 0 13 0) 0 14 0) 0 16 0) 0 17 0) 0 18 0) 0 20 0)) σe ∧ σe 0 20 ≤ 0) : Con l g yX5_run cX5_run 5 (some .int) (rmL 7) [.ref (ad 0), .int pl, .int v] (wM g ad σ) (Det (some (.int (f_X5_run σe pl v σ).1)) (wM g ad ((f_X5_run σe pl v σ).2))) := by
  refine Con.of (by decide) (Nat.le_of_ble_eq_true rfl) ?_
  intro x h e1 e2 e3 e4 e5 hr
  subst e1 e2
  have h : Ok x cX5_run "SafeDeskModel" (some .int) := h
  have hR : RmOk x 7 0 0 := RmOk.of e3 (Nat.le_refl _) (Nat.le_refl _)
  obtain ⟨out, ho⟩ : ∃ o, f_X5_run σe pl v σ = o := ⟨_, rfl⟩
  rw [ho] at hr
  unfold f_X5_run at ho
  show J x 0 0 _ 0 [(0, .ref (ad 0)), (1, .int pl), (2, .int v)] []
  refine J_iload_n (pc := 0) (n := 1) (i := 1) h 1 rfl rfl dX5_run_0 ?_
  refine J_iconst (pc := 1) h (0) rfl dX5_run_1 ?_
  refine J_iconst (pc := 2) h (5) rfl dX5_run_2 ?_
  refine J_cS (pc := 3) h hR (by decide) (c_X5_in _ _ _ pl 0 5 ) (by decide) m_415 m_416 m_3 m_417 hd_X5_in rfl rfl (Nat.le_of_ble_eq_true rfl) [.int (f_X5_in pl 0 5)] rfl dX5_run_3 ?_
  refine J_if_ne (pc := 6) h 11 (by decide) dX5_run_6 (fun c1 => ?_) (fun c1 => ?_)
  · replace ho := (if_neg c1).symm.trans ho
    refine J_aload_n (pc := 11) (n := 0) (i := 0) h 0 rfl rfl dX5_run_11 ?_
    refine J_iload_n (pc := 12) (n := 2) (i := 2) h 2 rfl rfl dX5_run_12 ?_
    refine J_Mp12 (pc := 13) h m_344 dX5_run_13 ?_
    refine J_aload_n (pc := 16) (n := 0) (i := 0) h 0 rfl rfl dX5_run_16 ?_
    refine J_iconst (pc := 17) h (0) rfl dX5_run_17 ?_
    refine J_Mp13 (pc := 18) h m_345 dX5_run_18 ?_
    refine J_aload_n (pc := 21) (n := 0) (i := 0) h 0 rfl rfl dX5_run_21 ?_
    refine J_iconst (pc := 22) h (0) rfl dX5_run_22 ?_
    refine J_Mp14 (pc := 23) h m_346 dX5_run_23 ?_
    refine J_aload_n (pc := 26) (n := 0) (i := 0) h 0 rfl rfl dX5_run_26 ?_
    refine J_iconst (pc := 27) h (0) rfl dX5_run_27 ?_
    refine J_Mp16 (pc := 28) h m_348 dX5_run_28 ?_
    refine J_aload_n (pc := 31) (n := 0) (i := 0) h 0 rfl rfl dX5_run_31 ?_
    refine J_iconst (pc := 32) h (0) rfl dX5_run_32 ?_
    refine J_Mp17 (pc := 33) h m_349 dX5_run_33 ?_
    refine J_aload_n (pc := 36) (n := 0) (i := 0) h 0 rfl rfl dX5_run_36 ?_
    refine J_iconst (pc := 37) h (0) rfl dX5_run_37 ?_
    refine J_Mp18 (pc := 38) h m_350 dX5_run_38 ?_
    refine J_aload_n (pc := 41) (n := 0) (i := 0) h 0 rfl rfl dX5_run_41 ?_
    refine J_iconst (pc := 42) h (0) rfl dX5_run_42 ?_
    refine J_Mp20 (pc := 43) h m_352 dX5_run_43 ?_
    refine J_aload_n (pc := 46) (n := 0) (i := 0) h 0 rfl rfl dX5_run_46 ?_
    refine J_iload_n (pc := 47) (n := 1) (i := 1) h 1 rfl rfl dX5_run_47 ?_
    refine J_cM (pc := 48) h hR (by decide) (c_X5_beginPlan _ _ _ (up2 (up2 (up2 (up2 (up2 (up2 (up2 σ 0 12 v) 0 13 0) 0 14 0) 0 16 0) 0 17 0) 0 18 0) 0 20 0) pl (in_plan (by assumption)) (by rw [up2_self]; exact vp_in_nI (n := 0) (by decide) (by decide))) (by decide) m_439 m_441 ms_13 m_442 ⟨rfl, hd_X5_beginPlan⟩ rfl rfl (Nat.le_of_ble_eq_true rfl) [] rfl dX5_run_48 ?_
    obtain ⟨m, hx, hz⟩ := hrch (by assumption)
    exact lp_X5_run (by decide) h hR e4 (le_X5_run h hz hr ho) m _ hx
  · replace ho := (if_pos c1).symm.trans ho
    refine J_iconst (pc := 9) h (-1) rfl dX5_run_9 ?_
    exact J_iret (pc := 10) h hr (by subst ho; exact ⟨rfl, rfl⟩) dX5_run_10
def f_X5_safe (a : Int32) (kd : Int32) (c : Int32) (σ : Sg) : Int32 × Sg := (if f_X5_in a 0 7 = 0 then ((-1), σ) else (if f_X5_in kd 0 2 = 0 then ((-1), σ) else (if f_X5_in c 0 1000000 = 0 then ((-1), σ) else (1, up2 (up2 (up2 (up2 σ 1 ((σ 0 0).toNatClampNeg) kd) 2 ((σ 0 0).toNatClampNeg) c) 7 a.toNatClampNeg (σ 0 0)) 0 0 ((σ 0 0) + 1)))))
theorem hd_X5_safe : yX5_safe.cls ≠ "java/lang/invoke/MethodHandle" ∧ yX5_safe.cls ≠ "java/lang/invoke/VarHandle" ∧ (parseMethodDescriptor yX5_safe.desc).map (fun d => d.parameters.length) = some 3 := by decide +kernel
set_option maxHeartbeats 4000000 in
set_option maxRecDepth 20000 in
theorem c_X5_safe (l : Launch) (g : Gy) (ad : Nat → Nat) (σ : Sg) (a : Int32) (kd : Int32) (c : Int32) (hs : vp_in (σ 0 0) 4200) : Con l g yX5_safe cX5_safe 4 (some .int) (rmL 1) [.ref (ad 0), .int a, .int kd, .int c] (wM g ad σ) (Det (some (.int (f_X5_safe a kd c σ).1)) (wM g ad ((f_X5_safe a kd c σ).2))) := by
  refine Con.of (by decide) (Nat.le_of_ble_eq_true rfl) ?_
  intro x h e1 e2 e3 e4 e5 hr
  subst e1 e2
  have h : Ok x cX5_safe "SafeDeskModel" (some .int) := h
  have hR : RmOk x 1 0 0 := RmOk.of e3 (Nat.le_refl _) (Nat.le_refl _)
  obtain ⟨out, ho⟩ : ∃ o, f_X5_safe a kd c σ = o := ⟨_, rfl⟩
  rw [ho] at hr
  unfold f_X5_safe at ho
  show J x 0 0 _ 0 [(0, .ref (ad 0)), (1, .int a), (2, .int kd), (3, .int c)] []
  refine J_iload_n (pc := 0) (n := 1) (i := 1) h 1 rfl rfl dX5_safe_0 ?_
  refine J_iconst (pc := 1) h (0) rfl dX5_safe_1 ?_
  refine J_bipush (pc := 2) h (7) rfl dX5_safe_2 ?_
  refine J_cS (pc := 4) h hR (by decide) (c_X5_in _ _ _ a 0 7 ) (by decide) m_415 m_416 m_3 m_417 hd_X5_in rfl rfl (Nat.le_of_ble_eq_true rfl) [.int (f_X5_in a 0 7)] rfl dX5_safe_4 ?_
  refine J_if_eq (pc := 7) h 29 (by decide) dX5_safe_7 (fun c1 => ?_) (fun c1 => ?_)
  · replace ho := (if_pos c1).symm.trans ho
    refine J_iconst (pc := 29) h (-1) rfl dX5_safe_29 ?_
    exact J_iret (pc := 30) h hr (by subst ho; exact ⟨rfl, rfl⟩) dX5_safe_30
  · replace ho := (if_neg c1).symm.trans ho
    refine J_iload_n (pc := 10) (n := 2) (i := 2) h 2 rfl rfl dX5_safe_10 ?_
    refine J_iconst (pc := 11) h (0) rfl dX5_safe_11 ?_
    refine J_iconst (pc := 12) h (2) rfl dX5_safe_12 ?_
    refine J_cS (pc := 13) h hR (by decide) (c_X5_in _ _ _ kd 0 2 ) (by decide) m_415 m_416 m_3 m_417 hd_X5_in rfl rfl (Nat.le_of_ble_eq_true rfl) [.int (f_X5_in kd 0 2)] rfl dX5_safe_13 ?_
    refine J_if_eq (pc := 16) h 29 (by decide) dX5_safe_16 (fun c2 => ?_) (fun c2 => ?_)
    · replace ho := (if_pos c2).symm.trans ho
      refine J_iconst (pc := 29) h (-1) rfl dX5_safe_29 ?_
      exact J_iret (pc := 30) h hr (by subst ho; exact ⟨rfl, rfl⟩) dX5_safe_30
    · replace ho := (if_neg c2).symm.trans ho
      refine J_iload_n (pc := 19) (n := 3) (i := 3) h 3 rfl rfl dX5_safe_19 ?_
      refine J_iconst (pc := 20) h (0) rfl dX5_safe_20 ?_
      refine J_ldc (pc := 21) h m_418 dX5_safe_21 ?_
      refine J_cS (pc := 23) h hR (by decide) (c_X5_in _ _ _ c 0 1000000 ) (by decide) m_415 m_416 m_3 m_417 hd_X5_in rfl rfl (Nat.le_of_ble_eq_true rfl) [.int (f_X5_in c 0 1000000)] rfl dX5_safe_23 ?_
      refine J_if_ne (pc := 26) h 31 (by decide) dX5_safe_26 (fun c3 => ?_) (fun c3 => ?_)
      · replace ho := (if_neg c3).symm.trans ho
        refine J_aload_n (pc := 31) (n := 0) (i := 0) h 0 rfl rfl dX5_safe_31 ?_
        refine J_Mr1 (pc := 32) h m_333 dX5_safe_32 ?_
        refine J_aload_n (pc := 35) (n := 0) (i := 0) h 0 rfl rfl dX5_safe_35 ?_
        refine J_Mg0 (pc := 36) h m_332 (σ 0 0) rfl dX5_safe_36 ?_
        refine J_iload_n (pc := 39) (n := 2) (i := 2) h 2 rfl rfl dX5_safe_39 ?_
        refine J_Ms (pc := 40) h 1 4200 ⟨by decide, by decide⟩ rfl hs dX5_safe_40 ?_
        refine J_aload_n (pc := 41) (n := 0) (i := 0) h 0 rfl rfl dX5_safe_41 ?_
        refine J_Mr2 (pc := 42) h m_334 dX5_safe_42 ?_
        refine J_aload_n (pc := 45) (n := 0) (i := 0) h 0 rfl rfl dX5_safe_45 ?_
        refine J_Mg0 (pc := 46) h m_332 (σ 0 0) (up2_off _ _ (by decide)) dX5_safe_46 ?_
        refine J_iload_n (pc := 49) (n := 3) (i := 3) h 3 rfl rfl dX5_safe_49 ?_
        refine J_Ms (pc := 50) h 2 4200 ⟨by decide, by decide⟩ rfl hs dX5_safe_50 ?_
        refine J_aload_n (pc := 51) (n := 0) (i := 0) h 0 rfl rfl dX5_safe_51 ?_
        refine J_Mr7 (pc := 52) h m_339 dX5_safe_52 ?_
        refine J_iload_n (pc := 55) (n := 1) (i := 1) h 1 rfl rfl dX5_safe_55 ?_
        refine J_aload_n (pc := 56) (n := 0) (i := 0) h 0 rfl rfl dX5_safe_56 ?_
        refine J_Mg0 (pc := 57) h m_332 (σ 0 0) ((up2_off _ _ (by decide)).trans (up2_off _ _ (by decide))) dX5_safe_57 ?_
        refine J_Ms (pc := 60) h 7 8 ⟨by decide, by decide⟩ rfl (in_room (by assumption)) dX5_safe_60 ?_
        refine J_aload_n (pc := 61) (n := 0) (i := 0) h 0 rfl rfl dX5_safe_61 ?_
        refine J_dup (pc := 62) h rfl dX5_safe_62 ?_
        refine J_Mg0 (pc := 63) h m_332 (σ 0 0) ((up2_off _ _ (by decide)).trans ((up2_off _ _ (by decide)).trans (up2_off _ _ (by decide)))) dX5_safe_63 ?_
        refine J_iconst (pc := 66) h (1) rfl dX5_safe_66 ?_
        refine J_iadd (pc := 67) h dX5_safe_67 ?_
        refine J_Mp0 (pc := 68) h m_332 dX5_safe_68 ?_
        refine J_iconst (pc := 71) h (1) rfl dX5_safe_71 ?_
        exact J_iret (pc := 72) h hr (by subst ho; exact ⟨rfl, rfl⟩) dX5_safe_72
      · replace ho := (if_pos c3).symm.trans ho
        refine J_iconst (pc := 29) h (-1) rfl dX5_safe_29 ?_
        exact J_iret (pc := 30) h hr (by subst ho; exact ⟨rfl, rfl⟩) dX5_safe_30
