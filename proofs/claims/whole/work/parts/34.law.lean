section LW
variable {x : Cx} {cc : ByteArray} {own : String} {ret : Option FieldType} {cells slots pc : Nat} {ws : va_W} {lv : List (Nat × Value)} {st : List Value} {b L : Nat} {xs : Nat → Int32}
theorem J_sld (h : Ok x cc own ret) (hX : va_X b L xs (xS x) (xS x).heap) (hbl : b < (xS x).heap.size) (hbA : ¬ xA x b) {i : Int32} (hin : vp_in i L) (d : decode cc pc = .ok (.iaload, 1)) (k : J x cells slots ws (pc + 1) lv (.int (xs i.toNatClampNeg) :: st)) : J x cells slots ws pc lv (.int i :: .ref b :: st) := fun H locs ls hP hD hS hl => va_sld h.1 h.2.1 hX hbl hbA hS hin d (k H locs ls hP hD hS hl)
theorem J_slen (h : Ok x cc own ret) (hX : va_X b L xs (xS x) (xS x).heap) (hbl : b < (xS x).heap.size) (hbA : ¬ xA x b) (d : decode cc pc = .ok (.arraylength, 1)) (k : J x cells slots ws (pc + 1) lv (.int (nI L) :: st)) : J x cells slots ws pc lv (.ref b :: st) := fun H locs ls hP hD hS hl => va_slen h.1 h.2.1 hX hbl hbA hS d (k H locs ls hP hD hS hl)
end LW
/-- the script, and where in it a call's ints stand -/
def LH (x : Cx) (b L : Nat) (xs : Nat → Int32) : Prop := va_X b L xs (xS x) (xS x).heap ∧ b < (xS x).heap.size ∧ ¬ xA x b
def LI (L : Nat) (ii : Int32) : Prop := vp_in ii L ∧ vp_in (ii + 1) L ∧ vp_in (ii + 2) L ∧ vp_in (ii + 3) L ∧ vp_in (ii + 4) L
def LK (x : Cx) (am : Nat → Nat) (b dd : Nat) (ii : Int32) (c s ns : Nat) : Prop := ∀ (ad' : Nat → Nat) (ns' : Nat) (σ' τ' : Sg), RA ns' σ' τ' → ns' ≤ ns + 1 → ad' 0 = dd → J x (c + 1) (s + 6) (wC (xG x) ad' (28 + ns') σ' ++ wM (xG x) am τ') 398 [(3, .int ii), (2, .ref (am 0)), (1, .ref dd), (0, .ref b)] []
theorem law_fit {x : Cx} {c s c' s' : Nat} (e3 : xR x = room_1) (hc : c + 1 ≤ 600000) (hs : s + 6 ≤ 7302250) (h1 : c' ≤ c + 1) (h2 : s' ≤ s + 6) : c' ≤ (xR x).cells ∧ s' ≤ (xR x).slots := by
  rw [e3]
  exact ⟨Nat.le_trans h1 hc, Nat.le_trans h2 hs⟩
theorem run_all {ns : Nat} {σ τ : Sg} (h : RA ns σ τ) (pl v : Int32) : ∃ σe : Sg, (¬ f_X5_in pl 0 5 = 0 → ∃ m, Rch m (f_X5_beginPlan pl (iniM v τ)) σe ∧ σe 0 20 ≤ 0) ∧ (f_X4_run pl v σ).1 = (f_X5_run σe pl v τ).1 ∧ RA ns (f_X4_run pl v σ).2 (f_X5_run σe pl v τ).2 := by
  by_cases hp : f_X4_isPlan pl = 0
  · refine ⟨τ, fun q => absurd (by rw [← isPlan_eq]; exact hp) q, ?_⟩
    have e1 : f_X4_run pl v σ = (-1, σ) := if_pos hp
    have e2 : f_X5_run τ pl v τ = (-1, τ) := if_pos (by rw [← isPlan_eq]; exact hp)
    rw [e1, e2]
    exact ⟨rfl, h⟩
  · obtain ⟨m, σe, h1, h2, h3, h4⟩ := run_rel (v := v) h hp
    have e2 : f_X5_run σe pl v τ = f_X5_end σe := if_neg (by rw [← isPlan_eq]; exact hp)
    refine ⟨σe, fun _ => ⟨m, h1, h2⟩, ?_⟩
    rw [e2]
    exact ⟨h3, h4⟩
theorem RA.tr {ns : Nat} {σ τ : Sg} (h : RA ns σ τ) : τ 0 18 ≤ 120 ∧ ¬ τ 0 18 < 0 := by
  have ht := h.2.2.2.2.2.2.2.2.2.2.2.2
  rw [h.2.2.2.2.2.1.1] at ht
  exact ⟨ht.2, ht.1⟩
theorem RA.sz {ns : Nat} {σ τ : Sg} (h : RA ns σ τ) (p : Nat) (hp : p < 6) : ¬ σ (4 + p) 3 < 0 := by
  have := (h.2.2.2.2.2.2.2.2.1 p hp).1.1
  rw [i_lt, ti0]
  omega
theorem RA.mz {ns : Nat} {σ τ : Sg} (h : RA ns σ τ) (p : Nat) (hp : p < 6) : 0 ≤ (τ 8 p).toInt ∧ (τ 8 p).toInt ≤ 12 := by
  rw [(h.2.2.2.2.2.2.2.1 p hp).1]
  exact (h.2.2.2.2.2.2.2.2.1 p hp).1
theorem wC_inj {A : Nat → Prop} {g : Gy} {ad : Nat → Nat} {n : Nat} {σ : Sg} {w : va_W} (h : va_D A (wC g ad n σ ++ w)) (i j : Nat) (hi : i < n) (hj : j < n) (e : ad i = ad j) : i = j :=
  (jn_Dl h).1 i j _ _ (wd_at hi rfl) (wd_at hj rfl) e

theorem hd_X4_safe : yX4_safe.cls ≠ "java/lang/invoke/MethodHandle" ∧ yX4_safe.cls ≠ "java/lang/invoke/VarHandle" ∧ (parseMethodDescriptor yX4_safe.desc).map (fun d => d.parameters.length) = some 3 := by decide +kernel

set_option maxHeartbeats 4000000 in
set_option maxRecDepth 20000 in
theorem lc_share {x : Cx} {ad am : Nat → Nat} {ns b L c s : Nat} {σ τ : Sg} {xs : Nat → Int32} {ii : Int32} (h : Ok x cL_law "SafeDeskLaw" (some .boolean)) (e3 : xR x = room_1) (hLH : LH x b L xs) (hLI : LI L ii) (hc : c + 1 ≤ 600000) (hs : s + 6 ≤ 7302250) (hns : ns < 512) (hRA : RA ns σ τ) (k : LK x am b (ad 0) ii c s ns) : J x c s (wC (xG x) ad (28 + ns) σ ++ wM (xG x) am τ) 131 [(3, .int ii), (2, .ref (am 0)), (1, .ref (ad 0)), (0, .ref b)] [] := by
  refine J_aload_n (pc := 131) (n := 1) (i := 1) h 2 rfl rfl dL_law_131 ?_
  refine J_aload_n (pc := 132) (n := 0) (i := 0) h 3 rfl rfl dL_law_132 ?_
  refine J_iload_n (pc := 133) (n := 3) (i := 3) h 0 rfl rfl dL_law_133 ?_
  refine J_iconst (pc := 134) h (1) rfl dL_law_134 ?_
  refine J_iadd (pc := 135) h dL_law_135 ?_
  refine J_sld (pc := 136) h hLH.1 hLH.2.1 hLH.2.2 hLI.2.1 dL_law_136 ?_
  refine J_aload_n (pc := 137) (n := 0) (i := 0) h 3 rfl rfl dL_law_137 ?_
  refine J_iload_n (pc := 138) (n := 3) (i := 3) h 0 rfl rfl dL_law_138 ?_
  refine J_iconst (pc := 139) h (2) rfl dL_law_139 ?_
  refine J_iadd (pc := 140) h dL_law_140 ?_
  refine J_sld (pc := 141) h hLH.1 hLH.2.1 hLH.2.2 hLI.2.2.1 dL_law_141 ?_
  refine J_callVL (pc := 142) (C := RX4) (ci := 4) h (c_X4_share _ _ ad (28 + ns) σ (xs (ii + 1).toNatClampNeg) (xs (ii + 2).toNatClampNeg) (by omega) hRA.ri) m_139 m_140 m_141 m_1 m_142 ⟨rfl, hd_X4_share⟩ (by rw [e3]; exact ⟨Nat.le_of_ble_eq_true rfl, Nat.le_of_ble_eq_true rfl⟩) (law_fit e3 hc hs (by show c + 0 ≤ c + 1; omega) (by show s + 0 ≤ s + 6; omega)) (q0 := 0) (wd_at (by omega) (cD_0 _ _ _)) rfl rfl rfl rfl (Nat.le_of_ble_eq_true rfl) dL_law_142 ?_
  rintro _ _ ⟨rfl, rfl⟩
  refine J_aload_n (pc := 145) (n := 2) (i := 2) h 1 rfl rfl dL_law_145 ?_
  refine J_aload_n (pc := 146) (n := 0) (i := 0) h 3 rfl rfl dL_law_146 ?_
  refine J_iload_n (pc := 147) (n := 3) (i := 3) h 0 rfl rfl dL_law_147 ?_
  refine J_iconst (pc := 148) h (1) rfl dL_law_148 ?_
  refine J_iadd (pc := 149) h dL_law_149 ?_
  refine J_sld (pc := 150) h hLH.1 hLH.2.1 hLH.2.2 hLI.2.1 dL_law_150 ?_
  refine J_aload_n (pc := 151) (n := 0) (i := 0) h 3 rfl rfl dL_law_151 ?_
  refine J_iload_n (pc := 152) (n := 3) (i := 3) h 0 rfl rfl dL_law_152 ?_
  refine J_iconst (pc := 153) h (2) rfl dL_law_153 ?_
  refine J_iadd (pc := 154) h dL_law_154 ?_
  refine J_sld (pc := 155) h hLH.1 hLH.2.1 hLH.2.2 hLI.2.2.1 dL_law_155 ?_
  refine J_callVR (pc := 156) (C := RX5) (ci := 5) h (c_X5_share _ _ am τ (xs (ii + 1).toNatClampNeg) (xs (ii + 2).toNatClampNeg)) m_419 m_420 m_421 m_3 m_422 ⟨rfl, hd_X5_share⟩ (by rw [e3]; exact ⟨Nat.le_of_ble_eq_true rfl, Nat.le_of_ble_eq_true rfl⟩) (law_fit e3 hc hs (by show c + 0 + 0 ≤ c + 1; omega) (by show s + 0 + 0 ≤ s + 6; omega)) (q0 := 0) (wd_at (by decide) (cM_0 _ _ _)) rfl rfl rfl (rest := [.int (f_X4_share (xs (ii + 1).toNatClampNeg) (xs (ii + 2).toNatClampNeg) σ).1]) rfl (Nat.le_of_ble_eq_true rfl) dL_law_156 ?_
  rintro _ _ ⟨rfl, rfl⟩
  show J x _ _ _ 159 _ [.int (f_X5_share (xs (ii + 1).toNatClampNeg) (xs (ii + 2).toNatClampNeg) τ).1, .int (f_X4_share (xs (ii + 1).toNatClampNeg) (xs (ii + 2).toNatClampNeg) σ).1]
  refine J_icmp_eq (pc := 159) h 398 (by decide) dL_law_159 (fun _ => ?_) (fun c0 => absurd (share_rel hRA (xs (ii + 1).toNatClampNeg) (xs (ii + 2).toNatClampNeg)).1 c0)
  refine J_widen (c2 := c + 1) (s2 := s + 6) (by show c + 0 + 0 ≤ c + 1; omega) (by show s + 0 + 0 ≤ s + 6; omega) ?_
  exact k ad ns _ _ (share_rel hRA (xs (ii + 1).toNatClampNeg) (xs (ii + 2).toNatClampNeg)).2 (by omega) rfl

set_option maxHeartbeats 4000000 in
set_option maxRecDepth 20000 in
theorem lc_same {x : Cx} {ad am : Nat → Nat} {ns b L c s : Nat} {σ τ : Sg} {xs : Nat → Int32} {ii : Int32} (h : Ok x cL_law "SafeDeskLaw" (some .boolean)) (e3 : xR x = room_1) (hLH : LH x b L xs) (hLI : LI L ii) (hc : c + 1 ≤ 600000) (hs : s + 6 ≤ 7302250) (hns : ns < 512) (hRA : RA ns σ τ) (k : LK x am b (ad 0) ii c s ns) : J x c s (wC (xG x) ad (28 + ns) σ ++ wM (xG x) am τ) 164 [(3, .int ii), (2, .ref (am 0)), (1, .ref (ad 0)), (0, .ref b)] [] := by
  refine J_dist (fun hD => ?_)
  refine J_aload_n (pc := 164) (n := 1) (i := 1) h 2 rfl rfl dL_law_164 ?_
  refine J_aload_n (pc := 165) (n := 0) (i := 0) h 3 rfl rfl dL_law_165 ?_
  refine J_iload_n (pc := 166) (n := 3) (i := 3) h 0 rfl rfl dL_law_166 ?_
  refine J_iconst (pc := 167) h (1) rfl dL_law_167 ?_
  refine J_iadd (pc := 168) h dL_law_168 ?_
  refine J_sld (pc := 169) h hLH.1 hLH.2.1 hLH.2.2 hLI.2.1 dL_law_169 ?_
  refine J_aload_n (pc := 170) (n := 0) (i := 0) h 3 rfl rfl dL_law_170 ?_
  refine J_iload_n (pc := 171) (n := 3) (i := 3) h 0 rfl rfl dL_law_171 ?_
  refine J_iconst (pc := 172) h (2) rfl dL_law_172 ?_
  refine J_iadd (pc := 173) h dL_law_173 ?_
  refine J_sld (pc := 174) h hLH.1 hLH.2.1 hLH.2.2 hLI.2.2.1 dL_law_174 ?_
  refine J_callVL (pc := 175) (C := RX4) (ci := 4) h (c_X4_same _ _ ad (28 + ns) σ (xs (ii + 1).toNatClampNeg) (xs (ii + 2).toNatClampNeg) (by omega)) m_143 m_144 m_145 m_1 m_146 ⟨rfl, hd_X4_same⟩ (by rw [e3]; exact ⟨Nat.le_of_ble_eq_true rfl, Nat.le_of_ble_eq_true rfl⟩) (law_fit e3 hc hs (by show c + 0 ≤ c + 1; omega) (by show s + 0 ≤ s + 6; omega)) (q0 := 0) (wd_at (by omega) (cD_0 _ _ _)) rfl rfl rfl rfl (Nat.le_of_ble_eq_true rfl) dL_law_175 ?_
  rintro _ _ ⟨rfl, rfl⟩
  refine J_aload_n (pc := 178) (n := 2) (i := 2) h 1 rfl rfl dL_law_178 ?_
  refine J_aload_n (pc := 179) (n := 0) (i := 0) h 3 rfl rfl dL_law_179 ?_
  refine J_iload_n (pc := 180) (n := 3) (i := 3) h 0 rfl rfl dL_law_180 ?_
  refine J_iconst (pc := 181) h (1) rfl dL_law_181 ?_
  refine J_iadd (pc := 182) h dL_law_182 ?_
  refine J_sld (pc := 183) h hLH.1 hLH.2.1 hLH.2.2 hLI.2.1 dL_law_183 ?_
  refine J_aload_n (pc := 184) (n := 0) (i := 0) h 3 rfl rfl dL_law_184 ?_
  refine J_iload_n (pc := 185) (n := 3) (i := 3) h 0 rfl rfl dL_law_185 ?_
  refine J_iconst (pc := 186) h (2) rfl dL_law_186 ?_
  refine J_iadd (pc := 187) h dL_law_187 ?_
  refine J_sld (pc := 188) h hLH.1 hLH.2.1 hLH.2.2 hLI.2.2.1 dL_law_188 ?_
  refine J_callVR (pc := 189) (C := RX5) (ci := 5) h (c_X5_same _ _ am τ (xs (ii + 1).toNatClampNeg) (xs (ii + 2).toNatClampNeg)) m_423 m_424 m_425 m_3 m_426 ⟨rfl, hd_X5_same⟩ (by rw [e3]; exact ⟨Nat.le_of_ble_eq_true rfl, Nat.le_of_ble_eq_true rfl⟩) (law_fit e3 hc hs (by show c + 0 + 0 ≤ c + 1; omega) (by show s + 0 + 0 ≤ s + 6; omega)) (q0 := 0) (wd_at (by decide) (cM_0 _ _ _)) rfl rfl rfl (rest := [.int (f_X4_same ad (xs (ii + 1).toNatClampNeg) (xs (ii + 2).toNatClampNeg) σ)]) rfl (Nat.le_of_ble_eq_true rfl) dL_law_189 ?_
  rintro _ _ ⟨rfl, rfl⟩
  show J x _ _ _ 192 _ [.int (f_X5_same (xs (ii + 1).toNatClampNeg) (xs (ii + 2).toNatClampNeg) τ), .int (f_X4_same ad (xs (ii + 1).toNatClampNeg) (xs (ii + 2).toNatClampNeg) σ)]
  refine J_icmp_eq (pc := 192) h 398 (by decide) dL_law_192 (fun _ => ?_) (fun c0 => absurd (same_rel hRA (wC_inj hD) (xs (ii + 1).toNatClampNeg) (xs (ii + 2).toNatClampNeg)) c0)
  refine J_widen (c2 := c + 1) (s2 := s + 6) (by show c + 0 + 0 ≤ c + 1; omega) (by show s + 0 + 0 ≤ s + 6; omega) ?_
  exact k ad ns _ _ hRA (by omega) rfl

set_option maxHeartbeats 4000000 in
set_option maxRecDepth 20000 in
theorem lc_step {x : Cx} {ad am : Nat → Nat} {ns b L c s : Nat} {σ τ : Sg} {xs : Nat → Int32} {ii : Int32} (h : Ok x cL_law "SafeDeskLaw" (some .boolean)) (e3 : xR x = room_1) (hLH : LH x b L xs) (hLI : LI L ii) (hc : c + 1 ≤ 600000) (hs : s + 6 ≤ 7302250) (hns : ns < 512) (hRA : RA ns σ τ) (k : LK x am b (ad 0) ii c s ns) : J x c s (wC (xG x) ad (28 + ns) σ ++ wM (xG x) am τ) 197 [(3, .int ii), (2, .ref (am 0)), (1, .ref (ad 0)), (0, .ref b)] [] := by
  refine J_aload_n (pc := 197) (n := 1) (i := 1) h 2 rfl rfl dL_law_197 ?_
  refine J_aload_n (pc := 198) (n := 0) (i := 0) h 3 rfl rfl dL_law_198 ?_
  refine J_iload_n (pc := 199) (n := 3) (i := 3) h 0 rfl rfl dL_law_199 ?_
  refine J_iconst (pc := 200) h (1) rfl dL_law_200 ?_
  refine J_iadd (pc := 201) h dL_law_201 ?_
  refine J_sld (pc := 202) h hLH.1 hLH.2.1 hLH.2.2 hLI.2.1 dL_law_202 ?_
  refine J_aload_n (pc := 203) (n := 0) (i := 0) h 3 rfl rfl dL_law_203 ?_
  refine J_iload_n (pc := 204) (n := 3) (i := 3) h 0 rfl rfl dL_law_204 ?_
  refine J_iconst (pc := 205) h (2) rfl dL_law_205 ?_
  refine J_iadd (pc := 206) h dL_law_206 ?_
  refine J_sld (pc := 207) h hLH.1 hLH.2.1 hLH.2.2 hLI.2.2.1 dL_law_207 ?_
  refine J_aload_n (pc := 208) (n := 0) (i := 0) h 3 rfl rfl dL_law_208 ?_
  refine J_iload_n (pc := 209) (n := 3) (i := 3) h 0 rfl rfl dL_law_209 ?_
  refine J_iconst (pc := 210) h (3) rfl dL_law_210 ?_
  refine J_iadd (pc := 211) h dL_law_211 ?_
  refine J_sld (pc := 212) h hLH.1 hLH.2.1 hLH.2.2 hLI.2.2.2.1 dL_law_212 ?_
  refine J_aload_n (pc := 213) (n := 0) (i := 0) h 3 rfl rfl dL_law_213 ?_
  refine J_iload_n (pc := 214) (n := 3) (i := 3) h 0 rfl rfl dL_law_214 ?_
  refine J_iconst (pc := 215) h (4) rfl dL_law_215 ?_
  refine J_iadd (pc := 216) h dL_law_216 ?_
  refine J_sld (pc := 217) h hLH.1 hLH.2.1 hLH.2.2 hLI.2.2.2.2 dL_law_217 ?_
  refine J_callVL (pc := 218) (C := RX4) (ci := 4) h (c_X4_step _ _ ad (28 + ns) σ (xs (ii + 1).toNatClampNeg) (xs (ii + 2).toNatClampNeg) (xs (ii + 3).toNatClampNeg) (xs (ii + 4).toNatClampNeg) (by omega) hRA.sz) m_147 m_148 m_149 m_1 m_150 ⟨rfl, hd_X4_step⟩ (by rw [e3]; exact ⟨Nat.le_of_ble_eq_true rfl, Nat.le_of_ble_eq_true rfl⟩) (law_fit e3 hc hs (by show c + 0 ≤ c + 1; omega) (by show s + 0 ≤ s + 6; omega)) (q0 := 0) (wd_at (by omega) (cD_0 _ _ _)) rfl rfl rfl rfl (Nat.le_of_ble_eq_true rfl) dL_law_218 ?_
  rintro _ _ ⟨rfl, rfl⟩
  refine J_aload_n (pc := 221) (n := 2) (i := 2) h 1 rfl rfl dL_law_221 ?_
  refine J_aload_n (pc := 222) (n := 0) (i := 0) h 3 rfl rfl dL_law_222 ?_
  refine J_iload_n (pc := 223) (n := 3) (i := 3) h 0 rfl rfl dL_law_223 ?_
  refine J_iconst (pc := 224) h (1) rfl dL_law_224 ?_
  refine J_iadd (pc := 225) h dL_law_225 ?_
  refine J_sld (pc := 226) h hLH.1 hLH.2.1 hLH.2.2 hLI.2.1 dL_law_226 ?_
  refine J_aload_n (pc := 227) (n := 0) (i := 0) h 3 rfl rfl dL_law_227 ?_
  refine J_iload_n (pc := 228) (n := 3) (i := 3) h 0 rfl rfl dL_law_228 ?_
  refine J_iconst (pc := 229) h (2) rfl dL_law_229 ?_
  refine J_iadd (pc := 230) h dL_law_230 ?_
  refine J_sld (pc := 231) h hLH.1 hLH.2.1 hLH.2.2 hLI.2.2.1 dL_law_231 ?_
  refine J_aload_n (pc := 232) (n := 0) (i := 0) h 3 rfl rfl dL_law_232 ?_
  refine J_iload_n (pc := 233) (n := 3) (i := 3) h 0 rfl rfl dL_law_233 ?_
  refine J_iconst (pc := 234) h (3) rfl dL_law_234 ?_
  refine J_iadd (pc := 235) h dL_law_235 ?_
  refine J_sld (pc := 236) h hLH.1 hLH.2.1 hLH.2.2 hLI.2.2.2.1 dL_law_236 ?_
  refine J_aload_n (pc := 237) (n := 0) (i := 0) h 3 rfl rfl dL_law_237 ?_
  refine J_iload_n (pc := 238) (n := 3) (i := 3) h 0 rfl rfl dL_law_238 ?_
  refine J_iconst (pc := 239) h (4) rfl dL_law_239 ?_
  refine J_iadd (pc := 240) h dL_law_240 ?_
  refine J_sld (pc := 241) h hLH.1 hLH.2.1 hLH.2.2 hLI.2.2.2.2 dL_law_241 ?_
  refine J_callVR (pc := 242) (C := RX5) (ci := 5) h (c_X5_step _ _ am τ (xs (ii + 1).toNatClampNeg) (xs (ii + 2).toNatClampNeg) (xs (ii + 3).toNatClampNeg) (xs (ii + 4).toNatClampNeg) hRA.mz) m_427 m_428 m_429 m_3 m_430 ⟨rfl, hd_X5_step⟩ (by rw [e3]; exact ⟨Nat.le_of_ble_eq_true rfl, Nat.le_of_ble_eq_true rfl⟩) (law_fit e3 hc hs (by show c + 0 + 0 ≤ c + 1; omega) (by show s + 0 + 0 ≤ s + 6; omega)) (q0 := 0) (wd_at (by decide) (cM_0 _ _ _)) rfl rfl rfl (rest := [.int (f_X4_step (xs (ii + 1).toNatClampNeg) (xs (ii + 2).toNatClampNeg) (xs (ii + 3).toNatClampNeg) (xs (ii + 4).toNatClampNeg) σ).1]) rfl (Nat.le_of_ble_eq_true rfl) dL_law_242 ?_
  rintro _ _ ⟨rfl, rfl⟩
  show J x _ _ _ 245 _ [.int (f_X5_step (xs (ii + 1).toNatClampNeg) (xs (ii + 2).toNatClampNeg) (xs (ii + 3).toNatClampNeg) (xs (ii + 4).toNatClampNeg) τ).1, .int (f_X4_step (xs (ii + 1).toNatClampNeg) (xs (ii + 2).toNatClampNeg) (xs (ii + 3).toNatClampNeg) (xs (ii + 4).toNatClampNeg) σ).1]
  refine J_icmp_eq (pc := 245) h 398 (by decide) dL_law_245 (fun _ => ?_) (fun c0 => absurd (step_rel hRA (xs (ii + 1).toNatClampNeg) (xs (ii + 2).toNatClampNeg) (xs (ii + 3).toNatClampNeg) (xs (ii + 4).toNatClampNeg)).1 c0)
  refine J_widen (c2 := c + 1) (s2 := s + 6) (by show c + 0 + 0 ≤ c + 1; omega) (by show s + 0 + 0 ≤ s + 6; omega) ?_
  exact k ad ns _ _ (step_rel hRA (xs (ii + 1).toNatClampNeg) (xs (ii + 2).toNatClampNeg) (xs (ii + 3).toNatClampNeg) (xs (ii + 4).toNatClampNeg)).2 (by omega) rfl

set_option maxHeartbeats 4000000 in
set_option maxRecDepth 20000 in
theorem lc_clear {x : Cx} {ad am : Nat → Nat} {ns b L c s : Nat} {σ τ : Sg} {xs : Nat → Int32} {ii : Int32} (h : Ok x cL_law "SafeDeskLaw" (some .boolean)) (e3 : xR x = room_1) (hLH : LH x b L xs) (hLI : LI L ii) (hc : c + 1 ≤ 600000) (hs : s + 6 ≤ 7302250) (hns : ns < 512) (hRA : RA ns σ τ) (k : LK x am b (ad 0) ii c s ns) : J x c s (wC (xG x) ad (28 + ns) σ ++ wM (xG x) am τ) 250 [(3, .int ii), (2, .ref (am 0)), (1, .ref (ad 0)), (0, .ref b)] [] := by
  refine J_aload_n (pc := 250) (n := 1) (i := 1) h 2 rfl rfl dL_law_250 ?_
  refine J_aload_n (pc := 251) (n := 0) (i := 0) h 3 rfl rfl dL_law_251 ?_
  refine J_iload_n (pc := 252) (n := 3) (i := 3) h 0 rfl rfl dL_law_252 ?_
  refine J_iconst (pc := 253) h (1) rfl dL_law_253 ?_
  refine J_iadd (pc := 254) h dL_law_254 ?_
  refine J_sld (pc := 255) h hLH.1 hLH.2.1 hLH.2.2 hLI.2.1 dL_law_255 ?_
  refine J_callVL (pc := 256) (C := RX4) (ci := 4) h (c_X4_clear _ _ ad (28 + ns) σ (xs (ii + 1).toNatClampNeg) (by omega)) m_170 m_171 m_172 m_1 m_173 ⟨rfl, hd_X4_clear⟩ (by rw [e3]; exact ⟨Nat.le_of_ble_eq_true rfl, Nat.le_of_ble_eq_true rfl⟩) (law_fit e3 hc hs (by show c + 0 ≤ c + 1; omega) (by show s + 0 ≤ s + 6; omega)) (q0 := 0) (wd_at (by omega) (cD_0 _ _ _)) rfl rfl rfl rfl (Nat.le_of_ble_eq_true rfl) dL_law_256 ?_
  rintro _ _ ⟨rfl, rfl⟩
  refine J_aload_n (pc := 259) (n := 2) (i := 2) h 1 rfl rfl dL_law_259 ?_
  refine J_aload_n (pc := 260) (n := 0) (i := 0) h 3 rfl rfl dL_law_260 ?_
  refine J_iload_n (pc := 261) (n := 3) (i := 3) h 0 rfl rfl dL_law_261 ?_
  refine J_iconst (pc := 262) h (1) rfl dL_law_262 ?_
  refine J_iadd (pc := 263) h dL_law_263 ?_
  refine J_sld (pc := 264) h hLH.1 hLH.2.1 hLH.2.2 hLI.2.1 dL_law_264 ?_
  refine J_callVR (pc := 265) (C := RX5) (ci := 5) h (c_X5_clear _ _ am τ (xs (ii + 1).toNatClampNeg)) m_431 m_432 m_433 m_3 m_434 ⟨rfl, hd_X5_clear⟩ (by rw [e3]; exact ⟨Nat.le_of_ble_eq_true rfl, Nat.le_of_ble_eq_true rfl⟩) (law_fit e3 hc hs (by show c + 0 + 0 ≤ c + 1; omega) (by show s + 0 + 0 ≤ s + 6; omega)) (q0 := 0) (wd_at (by decide) (cM_0 _ _ _)) rfl rfl rfl (rest := [.int (f_X4_clear (xs (ii + 1).toNatClampNeg) σ).1]) rfl (Nat.le_of_ble_eq_true rfl) dL_law_265 ?_
  rintro _ _ ⟨rfl, rfl⟩
  show J x _ _ _ 268 _ [.int (f_X5_clear (xs (ii + 1).toNatClampNeg) τ).1, .int (f_X4_clear (xs (ii + 1).toNatClampNeg) σ).1]
  refine J_icmp_eq (pc := 268) h 398 (by decide) dL_law_268 (fun _ => ?_) (fun c0 => absurd (clear_rel hRA (xs (ii + 1).toNatClampNeg)).1 c0)
  refine J_widen (c2 := c + 1) (s2 := s + 6) (by show c + 0 + 0 ≤ c + 1; omega) (by show s + 0 + 0 ≤ s + 6; omega) ?_
  exact k ad ns _ _ (clear_rel hRA (xs (ii + 1).toNatClampNeg)).2 (by omega) rfl

set_option maxHeartbeats 4000000 in
set_option maxRecDepth 20000 in
theorem lc_run {x : Cx} {ad am : Nat → Nat} {ns b L c s : Nat} {σ τ : Sg} {xs : Nat → Int32} {ii : Int32} (h : Ok x cL_law "SafeDeskLaw" (some .boolean)) (e3 : xR x = room_1) (hLH : LH x b L xs) (hLI : LI L ii) (hc : c + 1 ≤ 600000) (hs : s + 6 ≤ 7302250) (hns : ns < 512) (hRA : RA ns σ τ) (k : LK x am b (ad 0) ii c s ns) : J x c s (wC (xG x) ad (28 + ns) σ ++ wM (xG x) am τ) 273 [(3, .int ii), (2, .ref (am 0)), (1, .ref (ad 0)), (0, .ref b)] [] := by
  obtain ⟨σe, hch, heq, hRA2⟩ := run_all hRA (xs (ii + 1).toNatClampNeg) (xs (ii + 2).toNatClampNeg)
  refine J_aload_n (pc := 273) (n := 1) (i := 1) h 2 rfl rfl dL_law_273 ?_
  refine J_aload_n (pc := 274) (n := 0) (i := 0) h 3 rfl rfl dL_law_274 ?_
  refine J_iload_n (pc := 275) (n := 3) (i := 3) h 0 rfl rfl dL_law_275 ?_
  refine J_iconst (pc := 276) h (1) rfl dL_law_276 ?_
  refine J_iadd (pc := 277) h dL_law_277 ?_
  refine J_sld (pc := 278) h hLH.1 hLH.2.1 hLH.2.2 hLI.2.1 dL_law_278 ?_
  refine J_aload_n (pc := 279) (n := 0) (i := 0) h 3 rfl rfl dL_law_279 ?_
  refine J_iload_n (pc := 280) (n := 3) (i := 3) h 0 rfl rfl dL_law_280 ?_
  refine J_iconst (pc := 281) h (2) rfl dL_law_281 ?_
  refine J_iadd (pc := 282) h dL_law_282 ?_
  refine J_sld (pc := 283) h hLH.1 hLH.2.1 hLH.2.2 hLI.2.2.1 dL_law_283 ?_
  refine J_callVL (pc := 284) (C := RX4) (ci := 4) h (c_X4_run _ _ ad (28 + ns) σ (xs (ii + 1).toNatClampNeg) (xs (ii + 2).toNatClampNeg) (by omega) hRA.ri hRA.2.2.2.2.2.2.2.2.1 hRA.2.2.2.2.2.2.1) m_174 m_175 m_176 m_1 m_177 ⟨rfl, hd_X4_run⟩ (by rw [e3]; exact ⟨Nat.le_of_ble_eq_true rfl, Nat.le_of_ble_eq_true rfl⟩) (law_fit e3 hc hs (by show c + 0 ≤ c + 1; omega) (by show s + 0 ≤ s + 6; omega)) (q0 := 0) (wd_at (by omega) (cD_0 _ _ _)) rfl rfl rfl rfl (Nat.le_of_ble_eq_true rfl) dL_law_284 ?_
  rintro _ _ ⟨rfl, rfl⟩
  refine J_aload_n (pc := 287) (n := 2) (i := 2) h 1 rfl rfl dL_law_287 ?_
  refine J_aload_n (pc := 288) (n := 0) (i := 0) h 3 rfl rfl dL_law_288 ?_
  refine J_iload_n (pc := 289) (n := 3) (i := 3) h 0 rfl rfl dL_law_289 ?_
  refine J_iconst (pc := 290) h (1) rfl dL_law_290 ?_
  refine J_iadd (pc := 291) h dL_law_291 ?_
  refine J_sld (pc := 292) h hLH.1 hLH.2.1 hLH.2.2 hLI.2.1 dL_law_292 ?_
  refine J_aload_n (pc := 293) (n := 0) (i := 0) h 3 rfl rfl dL_law_293 ?_
  refine J_iload_n (pc := 294) (n := 3) (i := 3) h 0 rfl rfl dL_law_294 ?_
  refine J_iconst (pc := 295) h (2) rfl dL_law_295 ?_
  refine J_iadd (pc := 296) h dL_law_296 ?_
  refine J_sld (pc := 297) h hLH.1 hLH.2.1 hLH.2.2 hLI.2.2.1 dL_law_297 ?_
  refine J_callVR (pc := 298) (C := RX5) (ci := 5) h (c_X5_run _ _ am τ σe (xs (ii + 1).toNatClampNeg) (xs (ii + 2).toNatClampNeg) hch) m_435 m_436 m_437 m_3 m_438 ⟨rfl, hd_X5_run⟩ (by rw [e3]; exact ⟨Nat.le_of_ble_eq_true rfl, Nat.le_of_ble_eq_true rfl⟩) (law_fit e3 hc hs (by show c + 0 + 0 ≤ c + 1; omega) (by show s + 0 + 0 ≤ s + 6; omega)) (q0 := 0) (wd_at (by decide) (cM_0 _ _ _)) rfl rfl rfl (rest := [.int (f_X4_run (xs (ii + 1).toNatClampNeg) (xs (ii + 2).toNatClampNeg) σ).1]) rfl (Nat.le_of_ble_eq_true rfl) dL_law_298 ?_
  rintro _ _ ⟨rfl, rfl⟩
  show J x _ _ _ 301 _ [.int (f_X5_run σe (xs (ii + 1).toNatClampNeg) (xs (ii + 2).toNatClampNeg) τ).1, .int (f_X4_run (xs (ii + 1).toNatClampNeg) (xs (ii + 2).toNatClampNeg) σ).1]
  refine J_icmp_eq (pc := 301) h 398 (by decide) dL_law_301 (fun _ => ?_) (fun c0 => absurd heq c0)
  refine J_widen (c2 := c + 1) (s2 := s + 6) (by show c + 0 + 0 ≤ c + 1; omega) (by show s + 0 + 0 ≤ s + 6; omega) ?_
  exact k ad ns _ _ hRA2 (by omega) rfl

set_option maxHeartbeats 4000000 in
set_option maxRecDepth 20000 in
theorem lc_value {x : Cx} {ad am : Nat → Nat} {ns b L c s : Nat} {σ τ : Sg} {xs : Nat → Int32} {ii : Int32} (h : Ok x cL_law "SafeDeskLaw" (some .boolean)) (e3 : xR x = room_1) (hLH : LH x b L xs) (hLI : LI L ii) (hc : c + 1 ≤ 600000) (hs : s + 6 ≤ 7302250) (hns : ns < 512) (hRA : RA ns σ τ) (k : LK x am b (ad 0) ii c s ns) : J x c s (wC (xG x) ad (28 + ns) σ ++ wM (xG x) am τ) 306 [(3, .int ii), (2, .ref (am 0)), (1, .ref (ad 0)), (0, .ref b)] [] := by
  refine J_aload_n (pc := 306) (n := 1) (i := 1) h 2 rfl rfl dL_law_306 ?_
  refine J_callVL (pc := 307) (C := RX4) (ci := 4) h (c_X4_value _ _ ad (28 + ns) σ (by omega)) m_306 m_307 m_308 m_1 m_309 ⟨rfl, hd_X4_value⟩ (by rw [e3]; exact ⟨Nat.le_of_ble_eq_true rfl, Nat.le_of_ble_eq_true rfl⟩) (law_fit e3 hc hs (by show c + 0 ≤ c + 1; omega) (by show s + 0 ≤ s + 6; omega)) (q0 := 0) (wd_at (by omega) (cD_0 _ _ _)) rfl rfl rfl rfl (Nat.le_of_ble_eq_true rfl) dL_law_307 ?_
  rintro _ _ ⟨rfl, rfl⟩
  refine J_aload_n (pc := 310) (n := 2) (i := 2) h 1 rfl rfl dL_law_310 ?_
  refine J_callVR (pc := 311) (C := RX5) (ci := 5) h (c_X5_value _ _ am τ) m_504 m_505 m_506 m_3 m_507 ⟨rfl, hd_X5_value⟩ (by rw [e3]; exact ⟨Nat.le_of_ble_eq_true rfl, Nat.le_of_ble_eq_true rfl⟩) (law_fit e3 hc hs (by show c + 0 + 0 ≤ c + 1; omega) (by show s + 0 + 0 ≤ s + 6; omega)) (q0 := 0) (wd_at (by decide) (cM_0 _ _ _)) rfl rfl rfl (rest := [.int (f_X4_value σ)]) rfl (Nat.le_of_ble_eq_true rfl) dL_law_311 ?_
  rintro _ _ ⟨rfl, rfl⟩
  show J x _ _ _ 314 _ [.int (f_X5_value τ), .int (f_X4_value σ)]
  refine J_icmp_eq (pc := 314) h 398 (by decide) dL_law_314 (fun _ => ?_) (fun c0 => absurd (value_rel hRA) c0)
  refine J_widen (c2 := c + 1) (s2 := s + 6) (by show c + 0 + 0 ≤ c + 1; omega) (by show s + 0 + 0 ≤ s + 6; omega) ?_
  exact k ad ns _ _ hRA (by omega) rfl

set_option maxHeartbeats 4000000 in
set_option maxRecDepth 20000 in
theorem lc_trace {x : Cx} {ad am : Nat → Nat} {ns b L c s : Nat} {σ τ : Sg} {xs : Nat → Int32} {ii : Int32} (h : Ok x cL_law "SafeDeskLaw" (some .boolean)) (e3 : xR x = room_1) (hLH : LH x b L xs) (hLI : LI L ii) (hc : c + 1 ≤ 600000) (hs : s + 6 ≤ 7302250) (hns : ns < 512) (hRA : RA ns σ τ) (k : LK x am b (ad 0) ii c s ns) : J x c s (wC (xG x) ad (28 + ns) σ ++ wM (xG x) am τ) 319 [(3, .int ii), (2, .ref (am 0)), (1, .ref (ad 0)), (0, .ref b)] [] := by
  refine J_aload_n (pc := 319) (n := 1) (i := 1) h 2 rfl rfl dL_law_319 ?_
  refine J_aload_n (pc := 320) (n := 0) (i := 0) h 3 rfl rfl dL_law_320 ?_
  refine J_iload_n (pc := 321) (n := 3) (i := 3) h 0 rfl rfl dL_law_321 ?_
  refine J_iconst (pc := 322) h (1) rfl dL_law_322 ?_
  refine J_iadd (pc := 323) h dL_law_323 ?_
  refine J_sld (pc := 324) h hLH.1 hLH.2.1 hLH.2.2 hLI.2.1 dL_law_324 ?_
  refine J_callVL (pc := 325) (C := RX4) (ci := 4) h (c_X4_trace _ _ ad (28 + ns) σ (xs (ii + 1).toNatClampNeg) (by omega) hRA.2.2.2.2.2.2.2.2.2.2.2.2.2) m_310 m_311 m_312 m_1 m_313 ⟨rfl, hd_X4_trace⟩ (by rw [e3]; exact ⟨Nat.le_of_ble_eq_true rfl, Nat.le_of_ble_eq_true rfl⟩) (law_fit e3 hc hs (by show c + 0 ≤ c + 1; omega) (by show s + 0 ≤ s + 6; omega)) (q0 := 0) (wd_at (by omega) (cD_0 _ _ _)) rfl rfl rfl rfl (Nat.le_of_ble_eq_true rfl) dL_law_325 ?_
  rintro _ _ ⟨rfl, rfl⟩
  refine J_aload_n (pc := 328) (n := 2) (i := 2) h 1 rfl rfl dL_law_328 ?_
  refine J_aload_n (pc := 329) (n := 0) (i := 0) h 3 rfl rfl dL_law_329 ?_
  refine J_iload_n (pc := 330) (n := 3) (i := 3) h 0 rfl rfl dL_law_330 ?_
  refine J_iconst (pc := 331) h (1) rfl dL_law_331 ?_
  refine J_iadd (pc := 332) h dL_law_332 ?_
  refine J_sld (pc := 333) h hLH.1 hLH.2.1 hLH.2.2 hLI.2.1 dL_law_333 ?_
  refine J_callVR (pc := 334) (C := RX5) (ci := 5) h (c_X5_trace _ _ am τ (xs (ii + 1).toNatClampNeg) hRA.tr) m_508 m_509 m_510 m_3 m_511 ⟨rfl, hd_X5_trace⟩ (by rw [e3]; exact ⟨Nat.le_of_ble_eq_true rfl, Nat.le_of_ble_eq_true rfl⟩) (law_fit e3 hc hs (by show c + 0 + 0 ≤ c + 1; omega) (by show s + 0 + 0 ≤ s + 6; omega)) (q0 := 0) (wd_at (by decide) (cM_0 _ _ _)) rfl rfl rfl (rest := [.int (f_X4_trace (xs (ii + 1).toNatClampNeg) σ)]) rfl (Nat.le_of_ble_eq_true rfl) dL_law_334 ?_
  rintro _ _ ⟨rfl, rfl⟩
  show J x _ _ _ 337 _ [.int (f_X5_trace (xs (ii + 1).toNatClampNeg) τ), .int (f_X4_trace (xs (ii + 1).toNatClampNeg) σ)]
  refine J_icmp_eq (pc := 337) h 398 (by decide) dL_law_337 (fun _ => ?_) (fun c0 => absurd (trace_rel hRA (xs (ii + 1).toNatClampNeg)) c0)
  refine J_widen (c2 := c + 1) (s2 := s + 6) (by show c + 0 + 0 ≤ c + 1; omega) (by show s + 0 + 0 ≤ s + 6; omega) ?_
  exact k ad ns _ _ hRA (by omega) rfl

set_option maxHeartbeats 4000000 in
set_option maxRecDepth 20000 in
theorem lc_told {x : Cx} {ad am : Nat → Nat} {ns b L c s : Nat} {σ τ : Sg} {xs : Nat → Int32} {ii : Int32} (h : Ok x cL_law "SafeDeskLaw" (some .boolean)) (e3 : xR x = room_1) (hLH : LH x b L xs) (hLI : LI L ii) (hc : c + 1 ≤ 600000) (hs : s + 6 ≤ 7302250) (hns : ns < 512) (hRA : RA ns σ τ) (k : LK x am b (ad 0) ii c s ns) : J x c s (wC (xG x) ad (28 + ns) σ ++ wM (xG x) am τ) 342 [(3, .int ii), (2, .ref (am 0)), (1, .ref (ad 0)), (0, .ref b)] [] := by
  refine J_aload_n (pc := 342) (n := 1) (i := 1) h 2 rfl rfl dL_law_342 ?_
  refine J_aload_n (pc := 343) (n := 0) (i := 0) h 3 rfl rfl dL_law_343 ?_
  refine J_iload_n (pc := 344) (n := 3) (i := 3) h 0 rfl rfl dL_law_344 ?_
  refine J_iconst (pc := 345) h (1) rfl dL_law_345 ?_
  refine J_iadd (pc := 346) h dL_law_346 ?_
  refine J_sld (pc := 347) h hLH.1 hLH.2.1 hLH.2.2 hLI.2.1 dL_law_347 ?_
  refine J_aload_n (pc := 348) (n := 0) (i := 0) h 3 rfl rfl dL_law_348 ?_
  refine J_iload_n (pc := 349) (n := 3) (i := 3) h 0 rfl rfl dL_law_349 ?_
  refine J_iconst (pc := 350) h (2) rfl dL_law_350 ?_
  refine J_iadd (pc := 351) h dL_law_351 ?_
  refine J_sld (pc := 352) h hLH.1 hLH.2.1 hLH.2.2 hLI.2.2.1 dL_law_352 ?_
  refine J_callVL (pc := 353) (C := RX4) (ci := 4) h (c_X4_told _ _ ad (28 + ns) σ (xs (ii + 1).toNatClampNeg) (xs (ii + 2).toNatClampNeg) (by omega) hRA.ri) m_314 m_315 m_316 m_1 m_317 ⟨rfl, hd_X4_told⟩ (by rw [e3]; exact ⟨Nat.le_of_ble_eq_true rfl, Nat.le_of_ble_eq_true rfl⟩) (law_fit e3 hc hs (by show c + 0 ≤ c + 1; omega) (by show s + 0 ≤ s + 6; omega)) (q0 := 0) (wd_at (by omega) (cD_0 _ _ _)) rfl rfl rfl rfl (Nat.le_of_ble_eq_true rfl) dL_law_353 ?_
  rintro _ _ ⟨rfl, rfl⟩
  refine J_aload_n (pc := 356) (n := 2) (i := 2) h 1 rfl rfl dL_law_356 ?_
  refine J_aload_n (pc := 357) (n := 0) (i := 0) h 3 rfl rfl dL_law_357 ?_
  refine J_iload_n (pc := 358) (n := 3) (i := 3) h 0 rfl rfl dL_law_358 ?_
  refine J_iconst (pc := 359) h (1) rfl dL_law_359 ?_
  refine J_iadd (pc := 360) h dL_law_360 ?_
  refine J_sld (pc := 361) h hLH.1 hLH.2.1 hLH.2.2 hLI.2.1 dL_law_361 ?_
  refine J_aload_n (pc := 362) (n := 0) (i := 0) h 3 rfl rfl dL_law_362 ?_
  refine J_iload_n (pc := 363) (n := 3) (i := 3) h 0 rfl rfl dL_law_363 ?_
  refine J_iconst (pc := 364) h (2) rfl dL_law_364 ?_
  refine J_iadd (pc := 365) h dL_law_365 ?_
  refine J_sld (pc := 366) h hLH.1 hLH.2.1 hLH.2.2 hLI.2.2.1 dL_law_366 ?_
  refine J_callVR (pc := 367) (C := RX5) (ci := 5) h (c_X5_told _ _ am τ (xs (ii + 1).toNatClampNeg) (xs (ii + 2).toNatClampNeg) hRA.r7) m_512 m_513 m_514 m_3 m_515 ⟨rfl, hd_X5_told⟩ (by rw [e3]; exact ⟨Nat.le_of_ble_eq_true rfl, Nat.le_of_ble_eq_true rfl⟩) (law_fit e3 hc hs (by show c + 0 + 0 ≤ c + 1; omega) (by show s + 0 + 0 ≤ s + 6; omega)) (q0 := 0) (wd_at (by decide) (cM_0 _ _ _)) rfl rfl rfl (rest := [.int (f_X4_told (xs (ii + 1).toNatClampNeg) (xs (ii + 2).toNatClampNeg) σ)]) rfl (Nat.le_of_ble_eq_true rfl) dL_law_367 ?_
  rintro _ _ ⟨rfl, rfl⟩
  show J x _ _ _ 370 _ [.int (f_X5_told (xs (ii + 1).toNatClampNeg) (xs (ii + 2).toNatClampNeg) τ), .int (f_X4_told (xs (ii + 1).toNatClampNeg) (xs (ii + 2).toNatClampNeg) σ)]
  refine J_icmp_eq (pc := 370) h 398 (by decide) dL_law_370 (fun _ => ?_) (fun c0 => absurd (told_rel hRA (xs (ii + 1).toNatClampNeg) (xs (ii + 2).toNatClampNeg)) c0)
  refine J_widen (c2 := c + 1) (s2 := s + 6) (by show c + 0 + 0 ≤ c + 1; omega) (by show s + 0 + 0 ≤ s + 6; omega) ?_
  exact k ad ns _ _ hRA (by omega) rfl

set_option maxHeartbeats 4000000 in
set_option maxRecDepth 20000 in
theorem lc_count {x : Cx} {ad am : Nat → Nat} {ns b L c s : Nat} {σ τ : Sg} {xs : Nat → Int32} {ii : Int32} (h : Ok x cL_law "SafeDeskLaw" (some .boolean)) (e3 : xR x = room_1) (hLH : LH x b L xs) (hLI : LI L ii) (hc : c + 1 ≤ 600000) (hs : s + 6 ≤ 7302250) (hns : ns < 512) (hRA : RA ns σ τ) (k : LK x am b (ad 0) ii c s ns) : J x c s (wC (xG x) ad (28 + ns) σ ++ wM (xG x) am τ) 375 [(3, .int ii), (2, .ref (am 0)), (1, .ref (ad 0)), (0, .ref b)] [] := by
  refine J_aload_n (pc := 375) (n := 1) (i := 1) h 2 rfl rfl dL_law_375 ?_
  refine J_aload_n (pc := 376) (n := 0) (i := 0) h 3 rfl rfl dL_law_376 ?_
  refine J_iload_n (pc := 377) (n := 3) (i := 3) h 0 rfl rfl dL_law_377 ?_
  refine J_iconst (pc := 378) h (1) rfl dL_law_378 ?_
  refine J_iadd (pc := 379) h dL_law_379 ?_
  refine J_sld (pc := 380) h hLH.1 hLH.2.1 hLH.2.2 hLI.2.1 dL_law_380 ?_
  refine J_callVL (pc := 381) (C := RX4) (ci := 4) h (c_X4_count _ _ ad (28 + ns) σ (xs (ii + 1).toNatClampNeg) (by omega)) m_318 m_319 m_320 m_1 m_321 ⟨rfl, hd_X4_count⟩ (by rw [e3]; exact ⟨Nat.le_of_ble_eq_true rfl, Nat.le_of_ble_eq_true rfl⟩) (law_fit e3 hc hs (by show c + 0 ≤ c + 1; omega) (by show s + 0 ≤ s + 6; omega)) (q0 := 0) (wd_at (by omega) (cD_0 _ _ _)) rfl rfl rfl rfl (Nat.le_of_ble_eq_true rfl) dL_law_381 ?_
  rintro _ _ ⟨rfl, rfl⟩
  refine J_aload_n (pc := 384) (n := 2) (i := 2) h 1 rfl rfl dL_law_384 ?_
  refine J_aload_n (pc := 385) (n := 0) (i := 0) h 3 rfl rfl dL_law_385 ?_
  refine J_iload_n (pc := 386) (n := 3) (i := 3) h 0 rfl rfl dL_law_386 ?_
  refine J_iconst (pc := 387) h (1) rfl dL_law_387 ?_
  refine J_iadd (pc := 388) h dL_law_388 ?_
  refine J_sld (pc := 389) h hLH.1 hLH.2.1 hLH.2.2 hLI.2.1 dL_law_389 ?_
  refine J_callVR (pc := 390) (C := RX5) (ci := 5) h (c_X5_count _ _ am τ (xs (ii + 1).toNatClampNeg)) m_516 m_517 m_518 m_3 m_519 ⟨rfl, hd_X5_count⟩ (by rw [e3]; exact ⟨Nat.le_of_ble_eq_true rfl, Nat.le_of_ble_eq_true rfl⟩) (law_fit e3 hc hs (by show c + 0 + 0 ≤ c + 1; omega) (by show s + 0 + 0 ≤ s + 6; omega)) (q0 := 0) (wd_at (by decide) (cM_0 _ _ _)) rfl rfl rfl (rest := [.int (f_X4_count (xs (ii + 1).toNatClampNeg) σ)]) rfl (Nat.le_of_ble_eq_true rfl) dL_law_390 ?_
  rintro _ _ ⟨rfl, rfl⟩
  show J x _ _ _ 393 _ [.int (f_X5_count (xs (ii + 1).toNatClampNeg) τ), .int (f_X4_count (xs (ii + 1).toNatClampNeg) σ)]
  refine J_icmp_eq (pc := 393) h 398 (by decide) dL_law_393 (fun _ => ?_) (fun c0 => absurd (count_rel hRA (xs (ii + 1).toNatClampNeg)) c0)
  refine J_widen (c2 := c + 1) (s2 := s + 6) (by show c + 0 + 0 ≤ c + 1; omega) (by show s + 0 + 0 ≤ s + 6; omega) ?_
  exact k ad ns _ _ hRA (by omega) rfl

set_option maxHeartbeats 4000000 in
set_option maxRecDepth 20000 in
theorem lc_safe {x : Cx} {ad am : Nat → Nat} {ns b L c s : Nat} {σ τ : Sg} {xs : Nat → Int32} {ii : Int32} (h : Ok x cL_law "SafeDeskLaw" (some .boolean)) (e3 : xR x = room_1) (hLH : LH x b L xs) (hLI : LI L ii) (hc : c + 1 ≤ 600000) (hs : s + 6 ≤ 7302250) (hns : ns < 512) (hRA : RA ns σ τ) (k : LK x am b (ad 0) ii c s ns) : J x c s (wC (xG x) ad (28 + ns) σ ++ wM (xG x) am τ) 88 [(3, .int ii), (2, .ref (am 0)), (1, .ref (ad 0)), (0, .ref b)] [] := by
  have hvs : vp_in (τ 0 0) 4200 := by rw [hRA.2.1]; exact vp_in_nI (by omega) (by decide)
  refine J_aload_n (pc := 88) (n := 1) (i := 1) h 2 rfl rfl dL_law_88 ?_
  refine J_aload_n (pc := 89) (n := 0) (i := 0) h 3 rfl rfl dL_law_89 ?_
  refine J_iload_n (pc := 90) (n := 3) (i := 3) h 0 rfl rfl dL_law_90 ?_
  refine J_iconst (pc := 91) h (1) rfl dL_law_91 ?_
  refine J_iadd (pc := 92) h dL_law_92 ?_
  refine J_sld (pc := 93) h hLH.1 hLH.2.1 hLH.2.2 hLI.2.1 dL_law_93 ?_
  refine J_aload_n (pc := 94) (n := 0) (i := 0) h 3 rfl rfl dL_law_94 ?_
  refine J_iload_n (pc := 95) (n := 3) (i := 3) h 0 rfl rfl dL_law_95 ?_
  refine J_iconst (pc := 96) h (2) rfl dL_law_96 ?_
  refine J_iadd (pc := 97) h dL_law_97 ?_
  refine J_sld (pc := 98) h hLH.1 hLH.2.1 hLH.2.2 hLI.2.2.1 dL_law_98 ?_
  refine J_aload_n (pc := 99) (n := 0) (i := 0) h 3 rfl rfl dL_law_99 ?_
  refine J_iload_n (pc := 100) (n := 3) (i := 3) h 0 rfl rfl dL_law_100 ?_
  refine J_iconst (pc := 101) h (3) rfl dL_law_101 ?_
  refine J_iadd (pc := 102) h dL_law_102 ?_
  refine J_sld (pc := 103) h hLH.1 hLH.2.1 hLH.2.2 hLI.2.2.2.1 dL_law_103 ?_
  refine J_callVL (pc := 104) (C := RX4) (ci := 4) h (c_X4_safe _ _ ad ns σ (xs (ii + 1).toNatClampNeg) (xs (ii + 2).toNatClampNeg) (xs (ii + 3).toNatClampNeg) (by omega) hRA.ri (fun f hf => hRA.2.2.2.2.2.2.2.2.2.2.2.1 _ f (Nat.le_refl _) hf)) m_71 m_72 m_73 m_1 m_74 ⟨rfl, hd_X4_safe⟩ (by rw [e3]; exact ⟨Nat.le_of_ble_eq_true rfl, Nat.le_of_ble_eq_true rfl⟩) (law_fit e3 hc hs (by show c + 1 ≤ c + 1; omega) (by show s + 6 ≤ s + 6; omega)) (q0 := 0) (wd_at (by omega) (cD_0 _ _ _)) rfl rfl rfl rfl (Nat.le_of_ble_eq_true rfl) dL_law_104 ?_
  rintro _ _ (⟨ho, rfl, rfl⟩ | ⟨ho, rfl, q, rfl⟩)
  · have hm := safe_no τ ho
    refine J_aload_n (pc := 107) (n := 2) (i := 2) h 1 rfl rfl dL_law_107 ?_
    refine J_aload_n (pc := 108) (n := 0) (i := 0) h 3 rfl rfl dL_law_108 ?_
    refine J_iload_n (pc := 109) (n := 3) (i := 3) h 0 rfl rfl dL_law_109 ?_
    refine J_iconst (pc := 110) h (1) rfl dL_law_110 ?_
    refine J_iadd (pc := 111) h dL_law_111 ?_
    refine J_sld (pc := 112) h hLH.1 hLH.2.1 hLH.2.2 hLI.2.1 dL_law_112 ?_
    refine J_aload_n (pc := 113) (n := 0) (i := 0) h 3 rfl rfl dL_law_113 ?_
    refine J_iload_n (pc := 114) (n := 3) (i := 3) h 0 rfl rfl dL_law_114 ?_
    refine J_iconst (pc := 115) h (2) rfl dL_law_115 ?_
    refine J_iadd (pc := 116) h dL_law_116 ?_
    refine J_sld (pc := 117) h hLH.1 hLH.2.1 hLH.2.2 hLI.2.2.1 dL_law_117 ?_
    refine J_aload_n (pc := 118) (n := 0) (i := 0) h 3 rfl rfl dL_law_118 ?_
    refine J_iload_n (pc := 119) (n := 3) (i := 3) h 0 rfl rfl dL_law_119 ?_
    refine J_iconst (pc := 120) h (3) rfl dL_law_120 ?_
    refine J_iadd (pc := 121) h dL_law_121 ?_
    refine J_sld (pc := 122) h hLH.1 hLH.2.1 hLH.2.2 hLI.2.2.2.1 dL_law_122 ?_
    refine J_callVR (pc := 123) (C := RX5) (ci := 5) h (c_X5_safe _ _ am τ (xs (ii + 1).toNatClampNeg) (xs (ii + 2).toNatClampNeg) (xs (ii + 3).toNatClampNeg) hvs) m_411 m_412 m_413 m_3 m_414 ⟨rfl, hd_X5_safe⟩ (by rw [e3]; exact ⟨Nat.le_of_ble_eq_true rfl, Nat.le_of_ble_eq_true rfl⟩) (law_fit e3 hc hs (by show c + 1 + 0 ≤ c + 1; omega) (by show s + 6 + 0 ≤ s + 6; omega)) (q0 := 0) (wd_at (by decide) (cM_0 _ _ _)) rfl rfl rfl (rest := [.int (-1)]) rfl (Nat.le_of_ble_eq_true rfl) dL_law_123 ?_
    rintro _ _ ⟨rfl, rfl⟩
    rw [hm]
    show J x _ _ _ 126 _ [.int (-1), .int (-1)]
    refine J_icmp_eq (pc := 126) h 398 (by decide) dL_law_126 (fun _ => ?_) (fun c0 => absurd rfl c0)
    refine J_widen (c2 := c + 1) (s2 := s + 6) (by show c + 1 + 0 ≤ c + 1; omega) (by show s + 6 + 0 ≤ s + 6; omega) ?_
    exact k ad ns _ _ hRA (by omega) rfl
  · obtain ⟨hm, hRA2⟩ := safe_rel hRA hns (xs (ii + 1).toNatClampNeg) (xs (ii + 2).toNatClampNeg) (xs (ii + 3).toNatClampNeg) ho
    refine J_aload_n (pc := 107) (n := 2) (i := 2) h 1 rfl rfl dL_law_107 ?_
    refine J_aload_n (pc := 108) (n := 0) (i := 0) h 3 rfl rfl dL_law_108 ?_
    refine J_iload_n (pc := 109) (n := 3) (i := 3) h 0 rfl rfl dL_law_109 ?_
    refine J_iconst (pc := 110) h (1) rfl dL_law_110 ?_
    refine J_iadd (pc := 111) h dL_law_111 ?_
    refine J_sld (pc := 112) h hLH.1 hLH.2.1 hLH.2.2 hLI.2.1 dL_law_112 ?_
    refine J_aload_n (pc := 113) (n := 0) (i := 0) h 3 rfl rfl dL_law_113 ?_
    refine J_iload_n (pc := 114) (n := 3) (i := 3) h 0 rfl rfl dL_law_114 ?_
    refine J_iconst (pc := 115) h (2) rfl dL_law_115 ?_
    refine J_iadd (pc := 116) h dL_law_116 ?_
    refine J_sld (pc := 117) h hLH.1 hLH.2.1 hLH.2.2 hLI.2.2.1 dL_law_117 ?_
    refine J_aload_n (pc := 118) (n := 0) (i := 0) h 3 rfl rfl dL_law_118 ?_
    refine J_iload_n (pc := 119) (n := 3) (i := 3) h 0 rfl rfl dL_law_119 ?_
    refine J_iconst (pc := 120) h (3) rfl dL_law_120 ?_
    refine J_iadd (pc := 121) h dL_law_121 ?_
    refine J_sld (pc := 122) h hLH.1 hLH.2.1 hLH.2.2 hLI.2.2.2.1 dL_law_122 ?_
    refine J_callVR (pc := 123) (C := RX5) (ci := 5) h (c_X5_safe _ _ am τ (xs (ii + 1).toNatClampNeg) (xs (ii + 2).toNatClampNeg) (xs (ii + 3).toNatClampNeg) hvs) m_411 m_412 m_413 m_3 m_414 ⟨rfl, hd_X5_safe⟩ (by rw [e3]; exact ⟨Nat.le_of_ble_eq_true rfl, Nat.le_of_ble_eq_true rfl⟩) (law_fit e3 hc hs (by show c + 1 + 0 ≤ c + 1; omega) (by show s + 6 + 0 ≤ s + 6; omega)) (q0 := 0) (wd_at (by decide) (cM_0 _ _ _)) rfl rfl rfl (rest := [.int 1]) rfl (Nat.le_of_ble_eq_true rfl) dL_law_123 ?_
    rintro _ _ ⟨rfl, rfl⟩
    rw [hm]
    show J x _ _ _ 126 _ [.int 1, .int 1]
    refine J_icmp_eq (pc := 126) h 398 (by decide) dL_law_126 (fun _ => ?_) (fun c0 => absurd rfl c0)
    refine J_widen (c2 := c + 1) (s2 := s + 6) (by show c + 1 + 0 ≤ c + 1; omega) (by show s + 6 + 0 ≤ s + 6; omega) ?_
    refine k (va_up ad (28 + ns) q) (ns + 1) _ _ hRA2 (by omega) ?_
    unfold va_up
    rw [if_neg (by omega)]

set_option maxHeartbeats 4000000 in
set_option maxRecDepth 20000 in
theorem law_loop {x : Cx} {am : Nat → Nat} {b L dd : Nat} {xs : Nat → Int32} (h : Ok x cL_law "SafeDeskLaw" (some .boolean)) (e3 : xR x = room_1) (e4 : xN x = 4) (hLH : LH x b L xs) (hL : L ≤ 2560) (hend : ∀ (c s : Nat) (ws : va_W) (lv : List (Nat × Value)), c ≤ 600000 → s ≤ 7302250 → J x c s ws 405 lv [.int 1]) : ∀ (m t : Nat) (ad : Nat → Nat) (ns : Nat) (σ τ : Sg), L < 5 * (t + m) → 5 * t ≤ L → ns ≤ t → RA ns σ τ → ad 0 = dd → J x (46 + t) (26359 + 6 * t) (wC (xG x) ad (28 + ns) σ ++ wM (xG x) am τ) 18 [(3, .int (nI (5 * t))), (2, .ref (am 0)), (1, .ref dd), (0, .ref b)] [] := by
  intro m
  induction m with
  | zero => intro t ad ns σ τ h1 h2; omega
  | succ m ih =>
    intro t ad ns σ τ h1 h2 hn hRA hd
    refine J_iload_n (pc := 18) (n := 3) (i := 3) h 0 rfl rfl dL_law_18 ?_
    refine J_aload_n (pc := 19) (n := 0) (i := 0) h 3 rfl rfl dL_law_19 ?_
    refine J_slen (pc := 20) h hLH.1 hLH.2.1 hLH.2.2 dL_law_20 ?_
    refine J_iconst (pc := 21) h (nI 5) rfl dL_law_21 ?_
    refine J_isub (pc := 22) h dL_law_22 ?_
    refine J_icmp_gt (pc := 23) h 404 (by decide) dL_law_23 (fun c => ?_) (fun c => ?_)
    · refine J_iconst (pc := 404) h (1) rfl dL_law_404 ?_
      exact hend _ _ _ _ (by omega) (by omega)
    · have h5 : 5 * t + 5 ≤ L := by
        rw [i_lt, pk_sub_toInt (by omega) (by decide), nI_toInt (by omega)] at c
        omega
      have hLI : LI L (nI (5 * t)) := by
        have e : ∀ j : Nat, j ≤ 4 → vp_in (nI (5 * t) + nI j) L := fun j hj => by rw [nI_add]; exact vp_in_nI (by omega) (by omega)
        exact ⟨vp_in_nI (by omega) (by omega), e 1 (by decide), e 2 (by decide), e 3 (by decide), e 4 (by decide)⟩
      have hns : ns < 512 := by omega
      have hc : 46 + t + 1 ≤ 600000 := by omega
      have hs : 26359 + 6 * t + 6 ≤ 7302250 := by omega
      have hk : LK x am b (ad 0) (nI (5 * t)) (46 + t) (26359 + 6 * t) ns := by
        intro ad' ns' σ' τ' hRA' hn' hd'
        rw [hd]
        refine J_iinc (pc := 398) h 0 (nI (5 * (t + 1))) [(3, .int (nI (5 * (t + 1)))), (2, .ref (am 0)), (1, .ref dd), (0, .ref b)] rfl (show nI (5 * t) + Int32.ofInt 5 = nI (5 * (t + 1)) from nI_add (5 * t) 5) (by rw [e4]; decide) rfl dL_law_398 ?_
        refine J_goto (pc := 401) h 18 (by decide) dL_law_401 ?_
        exact ih (t + 1) ad' ns' σ' τ' (by omega) (by omega) (by omega) hRA' (hd'.trans hd)
      refine J_aload_n (pc := 26) (n := 0) (i := 0) h 3 rfl rfl dL_law_26 ?_
      refine J_iload_n (pc := 27) (n := 3) (i := 3) h 0 rfl rfl dL_law_27 ?_
      refine J_sld (pc := 28) h hLH.1 hLH.2.1 hLH.2.2 hLI.1 dL_law_28 ?_
      refine J_bipush (pc := 29) h (15) rfl dL_law_29 ?_
      refine J_iand (pc := 31) h dL_law_31 ?_
      generalize (xs (nI (5 * t)).toNatClampNeg &&& 15) = A
      rw [← hd]
      by_cases a0 : A = 0
      · refine J_tabIn (pc := 32) h 0 88 a0 (by decide) (by decide) rfl (by decide) dL_law_32 ?_
        exact lc_safe h e3 hLH hLI hc hs hns hRA hk
      by_cases a1 : A = 1
      · refine J_tabIn (pc := 32) h 1 131 a1 (by decide) (by decide) rfl (by decide) dL_law_32 ?_
        exact lc_share h e3 hLH hLI hc hs hns hRA hk
      by_cases a2 : A = 2
      · refine J_tabIn (pc := 32) h 2 164 a2 (by decide) (by decide) rfl (by decide) dL_law_32 ?_
        exact lc_same h e3 hLH hLI hc hs hns hRA hk
      by_cases a3 : A = 3
      · refine J_tabIn (pc := 32) h 3 197 a3 (by decide) (by decide) rfl (by decide) dL_law_32 ?_
        exact lc_step h e3 hLH hLI hc hs hns hRA hk
      by_cases a4 : A = 4
      · refine J_tabIn (pc := 32) h 4 250 a4 (by decide) (by decide) rfl (by decide) dL_law_32 ?_
        exact lc_clear h e3 hLH hLI hc hs hns hRA hk
      by_cases a5 : A = 5
      · refine J_tabIn (pc := 32) h 5 273 a5 (by decide) (by decide) rfl (by decide) dL_law_32 ?_
        exact lc_run h e3 hLH hLI hc hs hns hRA hk
      by_cases a6 : A = 6
      · refine J_tabIn (pc := 32) h 6 306 a6 (by decide) (by decide) rfl (by decide) dL_law_32 ?_
        exact lc_value h e3 hLH hLI hc hs hns hRA hk
      by_cases a7 : A = 7
      · refine J_tabIn (pc := 32) h 7 319 a7 (by decide) (by decide) rfl (by decide) dL_law_32 ?_
        exact lc_trace h e3 hLH hLI hc hs hns hRA hk
      by_cases a8 : A = 8
      · refine J_tabIn (pc := 32) h 8 342 a8 (by decide) (by decide) rfl (by decide) dL_law_32 ?_
        exact lc_told h e3 hLH hLI hc hs hns hRA hk
      by_cases a9 : A = 9
      · refine J_tabIn (pc := 32) h 9 375 a9 (by decide) (by decide) rfl (by decide) dL_law_32 ?_
        exact lc_count h e3 hLH hLI hc hs hns hRA hk
      refine J_tabOut (pc := 32) h 398 ?_ (by decide) dL_law_32 ?_
      · have e : ∀ z : Int32, A = z ↔ A.toInt = z.toInt := fun z => Int32.toInt_inj.symm
        rw [e] at a0 a1 a2 a3 a4 a5 a6 a7 a8 a9
        rw [ti0] at a0
        rw [show (1 : Int32).toInt = 1 from rfl] at a1
        rw [show (2 : Int32).toInt = 2 from rfl] at a2
        rw [show (3 : Int32).toInt = 3 from rfl] at a3
        rw [show (4 : Int32).toInt = 4 from rfl] at a4
        rw [show (5 : Int32).toInt = 5 from rfl] at a5
        rw [show (6 : Int32).toInt = 6 from rfl] at a6
        rw [show (7 : Int32).toInt = 7 from rfl] at a7
        rw [show (8 : Int32).toInt = 8 from rfl] at a8
        rw [show (9 : Int32).toInt = 9 from rfl] at a9
        omega
      · refine J_widen (c2 := 46 + t + 1) (s2 := 26359 + 6 * t + 6) (by omega) (by omega) ?_
        exact hk ad ns σ τ hRA (by omega) rfl
theorem fs9_4 : ∀ j, j < 9 → defaultValue (tyX4 j) = vp_V [.null, .null, .null, .int 0, .int 0, .int 0, .int 0, .int 0, .int 0] j := by decide +kernel
theorem fs26_5 : ∀ j, j < 26 → defaultValue (tyX5 j) = vp_V [.int 0, .null, .null, .null, .null, .null, .null, .null, .null, .null, .null, .null, .int 0, .int 0, .int 0, .int 0, .int 0, .int 0, .int 0, .null, .int 0, .null, .null, .null, .null, .null] j := by decide +kernel
theorem law_fit0 {x : Cx} {c' s' : Nat} (e3 : xR x = room_1) (h1 : c' ≤ 600000) (h2 : s' ≤ 7302250) : c' ≤ (xR x).cells ∧ s' ≤ (xR x).slots := by
  rw [e3]
  exact ⟨h1, h2⟩
set_option maxHeartbeats 4000000 in
set_option maxRecDepth 20000 in
theorem law_all {x : Cx} {b L : Nat} {xs : Nat → Int32} (h : Ok x cL_law "SafeDeskLaw" (some .boolean)) (e3 : xR x = room_1) (e4 : xN x = 4) (hLH : LH x b L xs) (hL : L ≤ 2560) (hend : ∀ (c s : Nat) (ws : va_W) (lv : List (Nat × Value)), c ≤ 600000 → s ≤ 7302250 → J x c s ws 405 lv [.int 1]) : J x 0 0 [] 0 [(0, .ref b)] [] := by
  refine J_new (pc := 0) (ci := 4) h [.null, .null, .null, .int 0, .int 0, .int 0, .int 0, .int 0, .int 0] iX4 tyX4_ok m_8 m_9 m_1 rfl fs9_4 (law_fit0 e3 (Nat.le_of_ble_eq_true rfl) (Nat.le_of_ble_eq_true rfl)) dL_law_0 (fun d0 => ?_)
  refine J_eqw (ws2 := [(d0, .inr (4, [.null, .null, .null, .int 0, .int 0, .int 0, .int 0, .int 0, .int 0]))]) rfl ?_
  refine J_dup (pc := 3) h rfl dL_law_3 ?_
  refine J_callI (pc := 4) h (c_X4_init _ _ d0) m_10 m_11 m_1 m_12 rfl hd_X4_init (by rw [e3]; exact ⟨Nat.le_of_ble_eq_true rfl, Nat.le_of_ble_eq_true rfl⟩) (law_fit0 e3 (Nat.le_of_ble_eq_true rfl) (Nat.le_of_ble_eq_true rfl)) rfl (rest := [.ref d0]) rfl (Nat.le_of_ble_eq_true rfl) dL_law_4 ?_
  rintro _ _ ⟨ad, rfl, had, rfl⟩
  refine J_astore_n (pc := 7) (n := 1) (i := 1) h [(1, .ref d0), (0, .ref b)] rfl (by rw [e4]; decide) rfl dL_law_7 ?_
  refine J_new (pc := 8) (ci := 5) h [.int 0, .null, .null, .null, .null, .null, .null, .null, .null, .null, .null, .null, .int 0, .int 0, .int 0, .int 0, .int 0, .int 0, .int 0, .null, .int 0, .null, .null, .null, .null, .null] iX5 tyX5_ok m_326 m_327 m_3 rfl fs26_5 (law_fit0 e3 (Nat.le_of_ble_eq_true rfl) (Nat.le_of_ble_eq_true rfl)) dL_law_8 (fun m0 => ?_)
  refine J_dup (pc := 11) h rfl dL_law_11 ?_
  refine J_callIR (pc := 12) h (c_X5_init _ _ m0) m_328 m_329 m_3 m_330 rfl hd_X5_init (by rw [e3]; exact ⟨Nat.le_of_ble_eq_true rfl, Nat.le_of_ble_eq_true rfl⟩) (law_fit0 e3 (Nat.le_of_ble_eq_true rfl) (Nat.le_of_ble_eq_true rfl)) rfl (rest := [.ref m0]) rfl (Nat.le_of_ble_eq_true rfl) dL_law_12 ?_
  rintro _ _ ⟨am, rfl, ham, rfl⟩
  refine J_astore_n (pc := 15) (n := 2) (i := 2) h [(2, .ref m0), (1, .ref d0), (0, .ref b)] rfl (by rw [e4]; decide) rfl dL_law_15 ?_
  refine J_iconst (pc := 16) h (nI (5 * 0)) rfl dL_law_16 ?_
  refine J_istore_n (pc := 17) (n := 3) (i := 3) h [(3, .int (nI (5 * 0))), (2, .ref m0), (1, .ref d0), (0, .ref b)] rfl (by rw [e4]; decide) rfl dL_law_17 ?_
  rw [← ham]
  refine J_widen (c2 := 46 + 0) (s2 := 26359 + 6 * 0) (Nat.le_of_ble_eq_true rfl) (Nat.le_of_ble_eq_true rfl) ?_
  exact law_loop h e3 e4 hLH hL hend 513 0 ad 0 σi τi (by omega) (by omega) (Nat.le_refl _) RA_ini had
