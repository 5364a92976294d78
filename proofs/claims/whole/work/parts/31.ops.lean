theorem le_lt1 {a b c : Int32} (h : c.toInt = b.toInt + 1) : (c ≤ a) = (b < a) := by
  rw [i_le, i_lt, h]
  exact propext ⟨fun q => by omega, fun q => by omega⟩
theorem isRoom_eq (a : Int32) : f_X4_isRoom a = f_X5_in a 0 7 := by
  unfold f_X4_isRoom f_X5_in
  simp only [le_lt1 (a := a) (b := 7) (c := 8) rfl]
theorem isPlan_eq (a : Int32) : f_X4_isPlan a = f_X5_in a 0 5 := by
  unfold f_X4_isPlan f_X5_in
  simp only [le_lt1 (a := a) (b := 5) (c := 6) rfl]
/-- a room set alike in both -/
theorem RA.room {ns : Nat} {σ τ : Sg} (h : RA ns σ τ) {r : Nat} {w : Int32} (hw : w = -1 ∨ vp_in w ns) : RA ns (up2 σ 1 r w) (up2 τ 7 r w) := by
  obtain ⟨h1, h2, h3, h4, h5, h6, h7, h8, h9, h10, h11, h12, h13⟩ := h
  refine ⟨h1, ?_, fun i f hf => ?_, fun q => ?_, fun i => ?_, ?_, ?_, ?_, ?_, fun q hq => ?_, ?_, fun k f hk hf => ?_, ?_⟩
  · rw [row_off (by decide)]; exact h2
  · rw [row_off (by omega), row_off (by omega)]; exact h3 i f hf
  · rw [up2_eq, up2_eq, h4 q]; simp
  · rw [row_off (by decide), row_off (by decide)]; exact h5 i
  · rw [row_off (by decide), row_off (by decide)]; exact h6
  · rw [row_off (by decide)]; exact h7
  · intro p hp
    rw [row_off (by omega), row_off (by omega), row_off (by omega), row_off (by omega), row_off (by omega), row_off (by omega), row_off (by omega), row_off (by omega)]
    exact h8 p hp
  · intro p hp
    rw [row_off (by omega), row_off (by omega), row_off (by omega), row_off (by omega)]
    exact h9 p hp
  · by_cases c : q = r
    · subst c; rw [up2_self]; exact hw
    · rw [up2_row _ _ _ c]; exact h10 q hq
  · rw [row_off (by decide)]; exact h11
  · rw [row_off (by omega)]; exact h12 k f hk hf
  · rw [row_off (by decide)]; exact h13
theorem RA.rooms {ns : Nat} {σ τ : Sg} (h : RA ns σ τ) {r : Nat} (hr : r < 8) : σ 1 r = τ 7 r ∧ (τ 7 r = -1 ∨ vp_in (τ 7 r) ns) := ⟨h.2.2.2.1 r, h.2.2.2.2.2.2.2.2.2.1 r hr⟩
theorem share_rel {ns : Nat} {σ τ : Sg} (h : RA ns σ τ) (a b : Int32) : (f_X4_share a b σ).1 = (f_X5_share a b τ).1 ∧ RA ns (f_X4_share a b σ).2 (f_X5_share a b τ).2 := by
  unfold f_X4_share f_X5_share
  rw [isRoom_eq, isRoom_eq, h.2.2.2.1]
  split
  · exact ⟨rfl, h⟩
  · rename_i c1
    split
    · exact ⟨rfl, h⟩
    · have hw := (h.rooms (vp_lt (in_room c1))).2
      split
      · exact ⟨rfl, h.room hw⟩
      · exact ⟨rfl, h.room hw⟩
theorem same_rel {ns : Nat} {σ τ : Sg} {ad : Nat → Nat} (h : RA ns σ τ) (hj : ∀ i j, i < 28 + ns → j < 28 + ns → ad i = ad j → i = j) (a b : Int32) : f_X4_same ad a b σ = f_X5_same a b τ := by
  unfold f_X4_same f_X5_same
  rw [isRoom_eq, isRoom_eq, h.2.2.2.1, h.2.2.2.1]
  by_cases c1 : f_X5_in a 0 7 = 0
  · rw [if_pos c1, if_pos c1]
  rw [if_neg c1, if_neg c1]
  by_cases c2 : f_X5_in b 0 7 = 0
  · rw [if_pos c2, if_pos c2]
  rw [if_neg c2, if_neg c2]
  have h1 := (h.rooms (vp_lt (in_room c1))).2
  have h2 := (h.rooms (vp_lt (in_room c2))).2
  generalize τ 7 a.toNatClampNeg = u at h1 ⊢
  generalize τ 7 b.toNatClampNeg = v at h2 ⊢
  by_cases c : u = v
  · rw [if_pos c, if_pos (by rw [c])]
  · rw [if_neg c, if_neg ?_]
    intro q
    apply c
    unfold rfa at q
    by_cases d1 : u = -1
    · by_cases d2 : v = -1
      · rw [d1, d2]
      · rw [if_pos d1, if_neg d2] at q; cases q
    · by_cases d2 : v = -1
      · rw [if_neg d1, if_pos d2] at q; cases q
      · rw [if_neg d1, if_neg d2] at q
        have e := hj _ _ (by have := vp_lt (h1.resolve_left d1); omega) (by have := vp_lt (h2.resolve_left d2); omega) (Option.some.inj q)
        rw [nI_nat (h1.resolve_left d1), nI_nat (h2.resolve_left d2)]
        congr 1
        omega
/-- the plans changed alike in both -/
theorem RA.plans {ns : Nat} {σ τ σ' τ' : Sg} (h : RA ns σ τ) (e1 : ∀ k, k < 4 ∨ 28 ≤ k → σ' k = σ k) (e2 : ∀ k, k < 8 ∨ 12 ≤ k → τ' k = τ k) (q8 : PM σ' τ') (q9 : PI σ') : RA ns σ' τ' := by
  obtain ⟨h1, h2, h3, h4, h5, h6, h7, h8, h9, h10, h11, h12, h13⟩ := h
  refine ⟨h1, ?_, fun i f hf => ?_, fun q => ?_, fun i => ?_, ?_, ?_, q8, q9, fun q hq => ?_, ?_, fun k f hk hf => ?_, ?_⟩
  · rw [e2 _ (by omega)]; exact h2
  · rw [e1 _ (by omega), e2 _ (by omega)]; exact h3 i f hf
  · rw [e1 _ (by omega), e2 _ (by omega)]; exact h4 q
  · rw [e1 _ (by omega), e2 _ (by omega)]; exact h5 i
  · rw [e1 _ (by omega), e2 _ (by omega)]; exact h6
  · rw [e1 _ (by omega)]; exact h7
  · rw [e2 _ (by omega)]; exact h10 q hq
  · rw [e2 _ (by omega)]; exact h11
  · rw [e1 _ (by omega)]; exact h12 k f hk hf
  · rw [e1 _ (by omega)]; exact h13
theorem clear_rel {ns : Nat} {σ τ : Sg} (h : RA ns σ τ) (pl : Int32) : (f_X4_clear pl σ).1 = (f_X5_clear pl τ).1 ∧ RA ns (f_X4_clear pl σ).2 (f_X5_clear pl τ).2 := by
  unfold f_X4_clear f_X5_clear
  rw [isPlan_eq]
  split
  · exact ⟨rfl, h⟩
  · rename_i c
    have hp := vp_lt (in_plan c)
    generalize pl.toNatClampNeg = P at hp
    have h8 := h.2.2.2.2.2.2.2.1
    have h9 := h.2.2.2.2.2.2.2.2.1
    refine ⟨(h8 P hp).1.symm, h.plans (fun k hk => row_off (by omega)) (fun k hk => row_off (by omega)) (fun p hp' => ?_) (fun p hp' => ?_)⟩
    · dsimp only
      rw [row_off (k' := 9) (by decide), row_off (k' := 10) (by decide), row_off (k' := 11) (by decide), row_off (k' := 10 + 3 * p + 0) (by omega), row_off (k' := 10 + 3 * p + 1) (by omega), row_off (k' := 10 + 3 * p + 2) (by omega)]
      refine ⟨?_, (h8 p hp').2⟩
      by_cases c : p = P
      · subst c; rw [up2_self, up2_self]
      · rw [up2_row _ _ _ c, up2_off _ _ (by omega)]; exact (h8 p hp').1
    · dsimp only
      rw [row_off (k' := 10 + 3 * p + 0) (by omega), row_off (k' := 10 + 3 * p + 1) (by omega), row_off (k' := 10 + 3 * p + 2) (by omega)]
      by_cases c : p = P
      · subst c; rw [up2_self, ti0]; exact ⟨⟨by decide, by decide⟩, fun i hi => absurd hi (by omega)⟩
      · rw [up2_off _ _ (by omega)]; exact h9 p hp'
theorem value_rel {ns : Nat} {σ τ : Sg} (h : RA ns σ τ) : f_X4_value σ = f_X5_value τ := h.2.2.2.2.2.1.2.1
theorem trace_rel {ns : Nat} {σ τ : Sg} (h : RA ns σ τ) (a : Int32) : f_X4_trace a σ = f_X5_trace a τ := by
  have ht := h.2.2.2.2.2.2.2.2.2.2.2.2
  have e := h.2.2.2.2.2.1.1
  unfold f_X4_trace f_X5_trace f_X5_in
  rw [h.2.2.2.2.1]
  rw [e] at ht ⊢
  by_cases c : a = -1
  · rw [if_pos c, if_pos c]
  rw [if_neg c, if_neg c]
  by_cases c1 : a < 0
  · rw [if_pos c1, if_pos c1, if_pos rfl]
  rw [if_neg c1, if_neg c1]
  have hs : ((τ 0 18) - 1).toInt = (τ 0 18).toInt - 1 := by
    have h1 := ht.1
    have h2 := ht.2
    rw [i_lt, ti0] at h1
    rw [i_le, show (120 : Int32).toInt = 120 from rfl] at h2
    rw [Int32.toInt_sub, show (1 : Int32).toInt = 1 from rfl]
    exact bm32 (by omega) (by omega)
  by_cases c2 : τ 0 18 ≤ a
  · rw [if_pos c2, if_pos (show (τ 0 18) - 1 < a by rw [i_lt, hs]; rw [i_le] at c2; omega), if_pos rfl]
  · rw [if_neg c2, if_neg (show ¬ (τ 0 18) - 1 < a by rw [i_lt, hs]; rw [i_le] at c2; omega), if_neg (by decide)]
theorem in_not {b : Int32} (h0 : ¬ b = 0) (h1 : ¬ b = 1) (h2 : ¬ b = 2) (h3 : ¬ b = 3) (h4 : ¬ b = 4) (h5 : ¬ b = 5) : f_X5_in b 0 5 = 0 := by
  unfold f_X5_in
  by_cases c : b < 0
  · rw [if_pos c]
  rw [if_neg c]
  by_cases d : 5 < b
  · rw [if_pos d]
  exfalso
  obtain ⟨j, hj, rfl⟩ := nI_of c
  rw [i_lt, nI_toInt hj, show (5 : Int32).toInt = 5 from rfl] at d
  have hj6 : j < 6 := by omega
  match j, hj6 with
  | 0, _ => exact h0 rfl
  | 1, _ => exact h1 rfl
  | 2, _ => exact h2 rfl
  | 3, _ => exact h3 rfl
  | 4, _ => exact h4 rfl
  | 5, _ => exact h5 rfl
theorem told_rel {ns : Nat} {σ τ : Sg} (h : RA ns σ τ) (a b : Int32) : f_X4_told a b σ = f_X5_told a b τ := by
  have h3 := h.2.2.1
  have e : f_X4_safeIn a σ = if f_X5_in a 0 7 = 0 then -1 else τ 7 a.toNatClampNeg := by
    unfold f_X4_safeIn
    rw [isRoom_eq, h.2.2.2.1]
  unfold f_X4_told f_X5_told
  rw [e]
  by_cases c : f_X5_in a 0 7 = 0
  · rw [if_pos c, if_pos c, if_pos rfl]
  rw [if_neg c, if_neg c]
  generalize τ 7 a.toNatClampNeg = w
  by_cases c1 : w = -1
  · rw [if_pos c1, if_pos c1]
  rw [if_neg c1, if_neg c1]
  rw [h3 _ 0 (by decide), h3 _ 1 (by decide), h3 _ 2 (by decide), h3 _ 3 (by decide), h3 _ 4 (by decide), h3 _ 5 (by decide)]
  by_cases b0 : b = 0
  · subst b0; rfl
  by_cases b1 : b = 1
  · subst b1; rfl
  by_cases b2 : b = 2
  · subst b2; rfl
  by_cases b3 : b = 3
  · subst b3; rfl
  by_cases b4 : b = 4
  · subst b4; rfl
  by_cases b5 : b = 5
  · subst b5; rfl
  rw [if_neg b0, if_neg b1, if_neg b2, if_neg b3, if_neg b4, if_neg b5, if_pos (in_not b0 b1 b2 b3 b4 b5)]
theorem lcount_rel {ns : Nat} {σ τ : Sg} (h : RA ns σ τ) : ∀ (m k : Nat) (acc : Int32), lf_X4_roomsWithSafe m k acc σ = lf_X5_count m k acc τ := by
  intro m
  induction m with
  | zero => intro k acc; rfl
  | succ m ih =>
    intro k acc
    unfold lf_X4_roomsWithSafe lf_X5_count
    rw [h.2.2.2.1, ih, ih]
theorem count_rel {ns : Nat} {σ τ : Sg} (h : RA ns σ τ) (a : Int32) : f_X4_count a σ = f_X5_count a τ := by
  obtain ⟨-, -, a3, a4, a5⟩ := h.2.2.2.2.2.1
  unfold f_X4_count f_X5_count f_X4_roomsWithSafe
  rw [lcount_rel h, a3, a4, a5]
  by_cases b0 : a = 0
  · subst b0; rfl
  by_cases b1 : a = 1
  · subst b1; rfl
  by_cases b2 : a = 2
  · subst b2; rfl
  by_cases b3 : a = 3
  · subst b3; rfl
  rw [if_neg b0, if_neg b1, if_neg b2, if_neg b3, if_neg b3, if_neg b0, if_neg b1, if_neg b2]
  by_cases c : a < 4
  · rw [if_pos c, if_pos (show f_X5_in a 4 9 = 0 from if_pos c)]
  rw [if_neg c]
  have hn : ¬ a < 0 := by rw [i_lt, ti0]; rw [i_lt, show (4 : Int32).toInt = 4 from rfl] at c; omega
  have e : f_X4_isPlan (a - 4) = f_X5_in a 4 9 := by
    obtain ⟨j, hj, rfl⟩ := nI_of hn
    rw [i_lt, nI_toInt hj, show (4 : Int32).toInt = 4 from rfl] at c
    rw [isPlan_eq, show (4 : Int32) = nI 4 from rfl, pk_sub (by omega)]
    unfold f_X5_in
    have e1 : (nI (j - 4) < 0) = (nI j < nI 4) := by
      rw [i_lt, i_lt, nI_toInt (by omega), nI_toInt hj, nI_toInt (by decide), ti0]
      exact propext ⟨fun q => by omega, fun q => by omega⟩
    have e2 : ((5 : Int32) < nI (j - 4)) = ((9 : Int32) < nI j) := by
      rw [i_lt, i_lt, nI_toInt (by omega), nI_toInt hj, show (5 : Int32).toInt = 5 from rfl, show (9 : Int32).toInt = 9 from rfl]
      exact propext ⟨fun q => by omega, fun q => by omega⟩
    simp only [e1, e2]
  rw [e]
  by_cases d : f_X5_in a 4 9 = 0
  · rw [if_pos d, if_pos d]
  rw [if_neg d, if_neg d]
  exact (h.2.2.2.2.2.2.2.1 _ (vp_lt (in_49 d))).1.symm

theorem held_no {a : Int32} : (f_X4_canBeHeld a = 0) = (f_X5_in a 0 1 = 0 ∧ f_X5_in a 6 7 = 0 ∧ f_X5_in a 20 23 = 0 ∧ ¬ a = 30) := by
  have k : ∀ (b c : Int32), f_X5_in a b c = 0 ↔ (a < b ∨ c < a) := by
    intro b c
    unfold f_X5_in
    by_cases c1 : a < b
    · rw [if_pos c1]; exact ⟨fun _ => Or.inl c1, fun _ => rfl⟩
    · rw [if_neg c1]
      by_cases c2 : c < a
      · rw [if_pos c2]; exact ⟨fun _ => Or.inr c2, fun _ => rfl⟩
      · rw [if_neg c2]; exact ⟨fun q => absurd q (by decide), fun q => by rcases q with q | q <;> contradiction⟩
  unfold f_X4_canBeHeld
  rw [show f_X4_isOwnFailure a = f_X5_in a 20 23 from rfl]
  have e : ∀ z : Int32, a = z ↔ a.toInt = z.toInt := fun z => Int32.toInt_inj.symm
  apply propext
  by_cases b0 : a = 0
  · subst b0; exact ⟨fun q => absurd q (by decide), fun q => absurd q.1 (by decide)⟩
  by_cases b1 : a = 1
  · subst b1; exact ⟨fun q => absurd q (by decide), fun q => absurd q.1 (by decide)⟩
  by_cases b2 : a = 6
  · subst b2; exact ⟨fun q => absurd q (by decide), fun q => absurd q.2.1 (by decide)⟩
  by_cases b3 : a = 7
  · subst b3; exact ⟨fun q => absurd q (by decide), fun q => absurd q.2.1 (by decide)⟩
  by_cases b4 : a = 30
  · subst b4; exact ⟨fun q => absurd q (by decide), fun q => absurd rfl q.2.2.2⟩
  rw [if_neg b0, if_neg b1, if_neg b2, if_neg b3, if_neg b4]
  have x1 : f_X5_in a 0 1 = 0 := by
    rw [k, i_lt, i_lt]
    rw [e] at b0 b1
    rw [ti0] at b0 ⊢
    rw [show (1 : Int32).toInt = 1 from rfl] at b1 ⊢
    omega
  have x2 : f_X5_in a 6 7 = 0 := by
    rw [k, i_lt, i_lt]
    rw [e] at b2 b3
    rw [show (6 : Int32).toInt = 6 from rfl] at b2 ⊢
    rw [show (7 : Int32).toInt = 7 from rfl] at b3 ⊢
    omega
  by_cases c : f_X5_in a 20 23 = 0
  · rw [if_pos c]; exact ⟨fun _ => ⟨x1, x2, c, b4⟩, fun _ => rfl⟩
  · rw [if_neg c]; exact ⟨fun q => absurd q (by decide), fun q => absurd q.2.2.1 c⟩
theorem in_not13 {b : Int32} (h0 : ¬ b = 0) (h1 : ¬ b = 1) (h2 : ¬ b = 2) (h3 : ¬ b = 3) (h4 : ¬ b = 4) (h5 : ¬ b = 5) (h6 : ¬ b = 6) (h7 : ¬ b = 7) (h8 : ¬ b = 8) (h9 : ¬ b = 9) (h10 : ¬ b = 10) (h11 : ¬ b = 11) (h12 : ¬ b = 12) (h13 : ¬ b = 13) : f_X5_in b 0 13 = 0 := by
  unfold f_X5_in
  by_cases c : b < 0
  · rw [if_pos c]
  rw [if_neg c]
  by_cases d : 13 < b
  · rw [if_pos d]
  exfalso
  obtain ⟨j, hj, rfl⟩ := nI_of c
  rw [i_lt, nI_toInt hj, show (13 : Int32).toInt = 13 from rfl] at d
  have hj6 : j < 14 := by omega
  match j, hj6 with
  | 0, _ => exact h0 rfl
  | 1, _ => exact h1 rfl
  | 2, _ => exact h2 rfl
  | 3, _ => exact h3 rfl
  | 4, _ => exact h4 rfl
  | 5, _ => exact h5 rfl
  | 6, _ => exact h6 rfl
  | 7, _ => exact h7 rfl
  | 8, _ => exact h8 rfl
  | 9, _ => exact h9 rfl
  | 10, _ => exact h10 rfl
  | 11, _ => exact h11 rfl
  | 12, _ => exact h12 rfl
  | 13, _ => exact h13 rfl
theorem step_eq (pl kd a b : Int32) (τ : Sg) : f_X5_step pl kd a b τ = if f_X4_isPlan pl = 0 then ((-1), τ) else (if f_X4_isStep kd a b = 0 then ((-1), τ) else f_X5_step_j145 pl kd a b τ) := by
  unfold f_X5_step
  rw [isPlan_eq]
  by_cases c : f_X5_in pl 0 5 = 0
  · rw [if_pos c, if_pos c]
  rw [if_neg c, if_neg c]
  have hz : ¬ ((1 : Int32) = 0) := by decide
  by_cases b0 : kd = 0
  · subst b0
    rw [if_neg (show ¬ f_X5_in 0 0 13 = 0 by decide)]
    rw [if_pos rfl]
    unfold f_X5_step_j51 f_X5_step_j68 f_X5_step_j85 f_X5_step_j127
    rw [if_neg (show ¬ (0 : Int32) = 9 by decide), if_neg (show ¬ (0 : Int32) = 12 by decide), if_neg (show ¬ (0 : Int32) = 1 by decide), if_neg (show ¬ (2 : Int32) ≤ 0 by decide)]
    rw [show f_X4_isStep 0 a b = if f_X4_isRoom a = 0 then 0 else (if f_X5_in b 1 11 = 0 then 0 else 1) from rfl, isRoom_eq]
    by_cases c1 : f_X5_in a 0 7 = 0
    · rw [if_pos c1, if_pos c1, if_pos rfl]
    rw [if_neg c1, if_neg c1]
    by_cases c2 : f_X5_in b 1 11 = 0
    · rw [if_pos c2, if_pos c2, if_pos rfl]
    rw [if_neg c2, if_neg c2, if_neg hz]
  by_cases b1 : kd = 1
  · subst b1
    rw [if_neg (show ¬ f_X5_in 1 0 13 = 0 by decide)]
    rw [if_neg (by decide), if_pos (show f_X5_in 1 2 7 = 0 by decide), if_neg (by decide)]
    unfold f_X5_step_j51 f_X5_step_j68 f_X5_step_j85 f_X5_step_j127
    rw [if_neg (show ¬ (1 : Int32) = 9 by decide), if_neg (show ¬ (1 : Int32) = 12 by decide), if_pos (show (1 : Int32) = 1 from rfl), if_neg (show ¬ (2 : Int32) ≤ 1 by decide)]
    rw [show f_X4_isStep 1 a b = if f_X4_canBeHeld a = 0 then 0 else (if f_X5_in b 1 11 = 0 then 0 else 1) from rfl]
    by_cases d : f_X4_canBeHeld a = 0
    · rw [if_pos d, if_pos rfl]
      rw [held_no] at d
      rw [if_pos d.1, if_pos d.2.1, if_pos d.2.2.1, if_neg d.2.2.2]
    · rw [if_neg d]
      rw [held_no] at d
      have e : (if f_X5_in b 1 11 = 0 then ((-1 : Int32), τ) else f_X5_step_j145 pl 1 a b τ) = if (if f_X5_in b 1 11 = 0 then (0 : Int32) else 1) = 0 then ((-1), τ) else f_X5_step_j145 pl 1 a b τ := by
        by_cases c2 : f_X5_in b 1 11 = 0
        · rw [if_pos c2, if_pos c2, if_pos rfl]
        · rw [if_neg c2, if_neg c2, if_neg hz]
      rw [← e]
      by_cases d1 : f_X5_in a 0 1 = 0
      · rw [if_pos d1]
        by_cases d2 : f_X5_in a 6 7 = 0
        · rw [if_pos d2]
          by_cases d3 : f_X5_in a 20 23 = 0
          · rw [if_pos d3]
            by_cases d4 : a = 30
            · rw [if_pos d4]
            · exact absurd ⟨d1, d2, d3, d4⟩ d
          · rw [if_neg d3]
        · rw [if_neg d2]
      · rw [if_neg d1]
  by_cases b2 : kd = 2
  · subst b2
    rw [if_neg (show ¬ f_X5_in 2 0 13 = 0 by decide)]
    rw [if_neg (show ¬ (2 : Int32) = 0 by decide)]
    rw [if_neg (show ¬ f_X5_in 2 2 7 = 0 by decide)]
    have ej : f_X5_step_j85 pl 2 a b τ = f_X5_step_j145 pl 2 a b τ := by
      unfold f_X5_step_j85 f_X5_step_j127
      rw [if_neg (by decide), if_pos (by decide)]
    unfold f_X5_step_j51 f_X5_step_j68
    rw [ej]
    rw [if_neg (show ¬ (2 : Int32) = 9 by decide)]
    rw [if_neg (show ¬ (2 : Int32) = 12 by decide)]
    rw [show f_X4_isStep 2 a b = f_X4_isRoom a from rfl, isRoom_eq]
  by_cases b3 : kd = 3
  · subst b3
    rw [if_neg (show ¬ f_X5_in 3 0 13 = 0 by decide)]
    rw [if_neg (show ¬ (3 : Int32) = 0 by decide)]
    rw [if_neg (show ¬ f_X5_in 3 2 7 = 0 by decide)]
    have ej : f_X5_step_j85 pl 3 a b τ = f_X5_step_j145 pl 3 a b τ := by
      unfold f_X5_step_j85 f_X5_step_j127
      rw [if_neg (by decide), if_pos (by decide)]
    unfold f_X5_step_j51 f_X5_step_j68
    rw [ej]
    rw [if_neg (show ¬ (3 : Int32) = 9 by decide)]
    rw [if_neg (show ¬ (3 : Int32) = 12 by decide)]
    rw [show f_X4_isStep 3 a b = f_X4_isRoom a from rfl, isRoom_eq]
  by_cases b4 : kd = 4
  · subst b4
    rw [if_neg (show ¬ f_X5_in 4 0 13 = 0 by decide)]
    rw [if_neg (show ¬ (4 : Int32) = 0 by decide)]
    rw [if_neg (show ¬ f_X5_in 4 2 7 = 0 by decide)]
    have ej : f_X5_step_j85 pl 4 a b τ = f_X5_step_j145 pl 4 a b τ := by
      unfold f_X5_step_j85 f_X5_step_j127
      rw [if_neg (by decide), if_pos (by decide)]
    unfold f_X5_step_j51 f_X5_step_j68
    rw [ej]
    rw [if_neg (show ¬ (4 : Int32) = 9 by decide)]
    rw [if_neg (show ¬ (4 : Int32) = 12 by decide)]
    rw [show f_X4_isStep 4 a b = f_X4_isRoom a from rfl, isRoom_eq]
  by_cases b5 : kd = 5
  · subst b5
    rw [if_neg (show ¬ f_X5_in 5 0 13 = 0 by decide)]
    rw [if_neg (show ¬ (5 : Int32) = 0 by decide)]
    rw [if_neg (show ¬ f_X5_in 5 2 7 = 0 by decide)]
    have ej : f_X5_step_j85 pl 5 a b τ = f_X5_step_j145 pl 5 a b τ := by
      unfold f_X5_step_j85 f_X5_step_j127
      rw [if_neg (by decide), if_pos (by decide)]
    unfold f_X5_step_j51 f_X5_step_j68
    rw [ej]
    rw [if_neg (show ¬ (5 : Int32) = 9 by decide)]
    rw [if_neg (show ¬ (5 : Int32) = 12 by decide)]
    rw [show f_X4_isStep 5 a b = f_X4_isRoom a from rfl, isRoom_eq]
  by_cases b6 : kd = 6
  · subst b6
    rw [if_neg (show ¬ f_X5_in 6 0 13 = 0 by decide)]
    rw [if_neg (show ¬ (6 : Int32) = 0 by decide)]
    rw [if_neg (show ¬ f_X5_in 6 2 7 = 0 by decide)]
    have ej : f_X5_step_j85 pl 6 a b τ = f_X5_step_j145 pl 6 a b τ := by
      unfold f_X5_step_j85 f_X5_step_j127
      rw [if_neg (by decide), if_pos (by decide)]
    unfold f_X5_step_j51 f_X5_step_j68
    rw [ej]
    rw [if_neg (show ¬ (6 : Int32) = 9 by decide)]
    rw [if_neg (show ¬ (6 : Int32) = 12 by decide)]
    rw [show f_X4_isStep 6 a b = f_X4_isRoom a from rfl, isRoom_eq]
  by_cases b7 : kd = 7
  · subst b7
    rw [if_neg (show ¬ f_X5_in 7 0 13 = 0 by decide)]
    rw [if_neg (show ¬ (7 : Int32) = 0 by decide)]
    rw [if_neg (show ¬ f_X5_in 7 2 7 = 0 by decide)]
    have ej : f_X5_step_j85 pl 7 a b τ = f_X5_step_j145 pl 7 a b τ := by
      unfold f_X5_step_j85 f_X5_step_j127
      rw [if_neg (by decide), if_pos (by decide)]
    unfold f_X5_step_j51 f_X5_step_j68
    rw [ej]
    rw [if_neg (show ¬ (7 : Int32) = 9 by decide)]
    rw [if_neg (show ¬ (7 : Int32) = 12 by decide)]
    rw [show f_X4_isStep 7 a b = f_X4_isRoom a from rfl, isRoom_eq]
  by_cases b8 : kd = 8
  · subst b8
    rw [if_neg (show ¬ f_X5_in 8 0 13 = 0 by decide)]
    rw [if_neg (show ¬ (8 : Int32) = 0 by decide)]
    rw [if_pos (show f_X5_in 8 2 7 = 0 by decide)]
    rw [if_neg (show ¬ (8 : Int32) = 13 by decide)]
    have ej : f_X5_step_j85 pl 8 a b τ = f_X5_step_j145 pl 8 a b τ := by
      unfold f_X5_step_j85 f_X5_step_j127
      rw [if_neg (by decide), if_pos (by decide)]
    unfold f_X5_step_j51 f_X5_step_j68
    rw [ej]
    rw [if_neg (show ¬ (8 : Int32) = 9 by decide)]
    rw [if_neg (show ¬ (8 : Int32) = 12 by decide)]
    rw [if_neg (show ¬ f_X4_isStep 8 a b = 0 from hz)]
  by_cases b9 : kd = 9
  · subst b9
    rw [if_neg (show ¬ f_X5_in 9 0 13 = 0 by decide)]
    rw [if_neg (show ¬ (9 : Int32) = 0 by decide)]
    rw [if_pos (show f_X5_in 9 2 7 = 0 by decide)]
    rw [if_neg (show ¬ (9 : Int32) = 13 by decide)]
    have ej : f_X5_step_j85 pl 9 a b τ = f_X5_step_j145 pl 9 a b τ := by
      unfold f_X5_step_j85 f_X5_step_j127
      rw [if_neg (by decide), if_pos (by decide)]
    unfold f_X5_step_j51 f_X5_step_j68
    rw [ej]
    rw [if_pos (show (9 : Int32) = 9 by decide)]
    rw [if_neg (show ¬ (9 : Int32) = 12 by decide)]
    rw [show f_X4_isStep 9 a b = f_X5_in a 20 23 from rfl]
  by_cases b10 : kd = 10
  · subst b10
    rw [if_neg (show ¬ f_X5_in 10 0 13 = 0 by decide)]
    rw [if_neg (show ¬ (10 : Int32) = 0 by decide)]
    rw [if_pos (show f_X5_in 10 2 7 = 0 by decide)]
    rw [if_neg (show ¬ (10 : Int32) = 13 by decide)]
    have ej : f_X5_step_j85 pl 10 a b τ = f_X5_step_j145 pl 10 a b τ := by
      unfold f_X5_step_j85 f_X5_step_j127
      rw [if_neg (by decide), if_pos (by decide)]
    unfold f_X5_step_j51 f_X5_step_j68
    rw [ej]
    rw [if_neg (show ¬ (10 : Int32) = 9 by decide)]
    rw [if_neg (show ¬ (10 : Int32) = 12 by decide)]
    rw [if_neg (show ¬ f_X4_isStep 10 a b = 0 from hz)]
  by_cases b11 : kd = 11
  · subst b11
    rw [if_neg (show ¬ f_X5_in 11 0 13 = 0 by decide)]
    rw [if_neg (show ¬ (11 : Int32) = 0 by decide)]
    rw [if_pos (show f_X5_in 11 2 7 = 0 by decide)]
    rw [if_neg (show ¬ (11 : Int32) = 13 by decide)]
    have ej : f_X5_step_j85 pl 11 a b τ = f_X5_step_j145 pl 11 a b τ := by
      unfold f_X5_step_j85 f_X5_step_j127
      rw [if_neg (by decide), if_pos (by decide)]
    unfold f_X5_step_j51 f_X5_step_j68
    rw [ej]
    rw [if_neg (show ¬ (11 : Int32) = 9 by decide)]
    rw [if_neg (show ¬ (11 : Int32) = 12 by decide)]
    rw [if_neg (show ¬ f_X4_isStep 11 a b = 0 from hz)]
  by_cases b12 : kd = 12
  · subst b12
    rw [if_neg (show ¬ f_X5_in 12 0 13 = 0 by decide)]
    rw [if_neg (show ¬ (12 : Int32) = 0 by decide)]
    rw [if_pos (show f_X5_in 12 2 7 = 0 by decide)]
    rw [if_neg (show ¬ (12 : Int32) = 13 by decide)]
    have ej : f_X5_step_j85 pl 12 a b τ = f_X5_step_j145 pl 12 a b τ := by
      unfold f_X5_step_j85 f_X5_step_j127
      rw [if_neg (by decide), if_pos (by decide)]
    unfold f_X5_step_j51 f_X5_step_j68
    rw [ej]
    rw [if_neg (show ¬ (12 : Int32) = 9 by decide)]
    rw [if_pos (show (12 : Int32) = 12 by decide)]
    rw [show f_X4_isStep 12 a b = f_X4_isPlan a from rfl, isPlan_eq]
  by_cases b13 : kd = 13
  · subst b13
    rw [if_neg (show ¬ f_X5_in 13 0 13 = 0 by decide)]
    rw [if_neg (show ¬ (13 : Int32) = 0 by decide)]
    rw [if_pos (show f_X5_in 13 2 7 = 0 by decide)]
    rw [if_pos (show (13 : Int32) = 13 by decide)]
    have ej : f_X5_step_j85 pl 13 a b τ = f_X5_step_j145 pl 13 a b τ := by
      unfold f_X5_step_j85 f_X5_step_j127
      rw [if_neg (by decide), if_pos (by decide)]
    unfold f_X5_step_j51 f_X5_step_j68
    rw [ej]
    rw [if_neg (show ¬ (13 : Int32) = 9 by decide)]
    rw [if_neg (show ¬ (13 : Int32) = 12 by decide)]
    rw [show f_X4_isStep 13 a b = f_X4_isRoom a from rfl, isRoom_eq]
  rw [if_pos (in_not13 b0 b1 b2 b3 b4 b5 b6 b7 b8 b9 b10 b11 b12 b13)]
  have e : f_X4_isStep kd a b = 0 := by
    unfold f_X4_isStep
    rw [if_neg b0, if_neg b1, if_neg b2, if_neg b3, if_neg b4, if_neg b5, if_neg b6, if_neg b7, if_neg b8, if_neg b9, if_neg b10, if_neg b11, if_neg b12, if_neg b13]
  rw [if_pos e]
theorem step_rel {ns : Nat} {σ τ : Sg} (h : RA ns σ τ) (pl kd a b : Int32) : (f_X4_step pl kd a b σ).1 = (f_X5_step pl kd a b τ).1 ∧ RA ns (f_X4_step pl kd a b σ).2 (f_X5_step pl kd a b τ).2 := by
  rw [step_eq]
  unfold f_X4_step
  by_cases c1 : f_X4_isPlan pl = 0
  · rw [if_pos c1, if_pos c1]; exact ⟨rfl, h⟩
  rw [if_neg c1, if_neg c1]
  by_cases c2 : f_X4_isStep kd a b = 0
  · rw [if_pos c2, if_pos c2]; exact ⟨rfl, h⟩
  rw [if_neg c2, if_neg c2]
  have hv := isPlan_in c1
  have hp := vp_lt hv
  have h8 := h.2.2.2.2.2.2.2.1
  have h9 := h.2.2.2.2.2.2.2.2.1
  unfold f_X5_step_j145
  have es : τ 8 pl.toNatClampNeg = σ (4 + pl.toNatClampNeg) 3 := (h8 _ hp).1
  have hs := (h9 _ hp).1
  rw [es]
  have ep := nI_nat hv
  generalize pl.toNatClampNeg = P at *
  subst ep
  rw [at_eq hs.1]
  have hn := nat_toInt hs.1
  have t12 : (12 : Int32).toInt = 12 := rfl
  by_cases c3 : σ (4 + P) 3 < 12
  · have c3' := c3
    rw [i_lt, t12] at c3'
    have n12 : ¬ σ (4 + P) 3 = 12 := by intro q; rw [q, t12] at c3'; omega
    have n12' : ¬ 12 ≤ σ (4 + P) 3 := by rw [i_le, t12]; omega
    rw [if_pos c3, if_neg n12]
    unfold f_X0_add
    rw [if_neg n12']
    have hS : (σ (4 + P) 3).toNatClampNeg < 12 := by omega
    have es1 : ((σ (4 + P) 3) + 1).toInt = (σ (4 + P) 3).toInt + 1 := toInt_succ hs.1 (by omega)
    rw [nI_clamp (by omega)]
    generalize hzz : σ (4 + P) 3 = z at *
    generalize z.toNatClampNeg = S at *
    refine ⟨up2_self _ _ _ _, h.plans (fun k hk => ?_) (fun k hk => ?_) (fun p hp' => ?_) (fun p hp' => ?_)⟩
    · dsimp only
      rw [row_off (by omega), row_off (by omega), row_off (by omega), row_off (by omega)]
    · dsimp only
      rw [row_off (by omega), row_off (by omega), row_off (by omega), row_off (by omega)]
    · dsimp only
      refine ⟨?_, fun x hx => ⟨?_, ?_, ?_⟩⟩
      · have := (h8 p hp').1
        simp only [up2_eq]
        by_cases c : p = P
        · subst c; simp
        · rw [if_neg (by omega), if_neg (by omega), if_neg (by omega), if_neg (by omega), if_neg (by omega), if_neg (by omega), if_neg (by omega), if_neg (by omega)]; exact this
      all_goals
        have := (h8 p hp').2 x hx
        simp only [up2_eq]
        by_cases c : p = P ∧ x = S
        · obtain ⟨c, c'⟩ := c
          subst c; subst c'; simp
          try omega
        · first
          | (rw [if_neg (by omega), if_neg (by omega), if_neg (by omega), if_neg (by omega), if_neg (by omega), if_neg (by omega), if_neg (by omega), if_neg (by omega)]; first | exact this.1 | exact this.2.1 | exact this.2.2)
    · dsimp only
      have := h9 p hp'
      by_cases c : p = P
      · subst c
        rw [up2_self]
        refine ⟨by omega, fun i hi => ?_⟩
        simp only [up2_eq]
        by_cases ci : i = S
        · subst ci
          simp
          have r1 : ¬ (10 + 3 * p = 4 + p) := by omega
          have r2 : ¬ (10 + 3 * p + 1 = 4 + p) := by omega
          have r3 : ¬ (10 + 3 * p + 2 = 4 + p) := by omega
          simp [r1, r2, r3]
          exact c2
        · have r1 : ¬ (10 + 3 * p + 0 = 4 + p) := by omega
          have r2 : ¬ (10 + 3 * p + 1 = 4 + p) := by omega
          have r3 : ¬ (10 + 3 * p + 2 = 4 + p) := by omega
          simp only [r1, r2, r3, ci, and_false, false_and, if_false]
          exact this.2 i (by rw [hzz]; omega)
      · rw [up2_off _ _ (by omega), row_off (k' := 4 + p) (by omega), row_off (k' := 4 + p) (by omega), row_off (k' := 4 + p) (by omega)]
        refine ⟨this.1, fun i hi => ?_⟩
        rw [row_off (k' := 10 + 3 * p + 0) (by omega), row_off (k' := 10 + 3 * p + 0) (by omega), row_off (k' := 10 + 3 * p + 0) (by omega), row_off (k' := 10 + 3 * p + 0) (by omega)]
        rw [row_off (k' := 10 + 3 * p + 1) (by omega), row_off (k' := 10 + 3 * p + 1) (by omega), row_off (k' := 10 + 3 * p + 1) (by omega), row_off (k' := 10 + 3 * p + 1) (by omega)]
        rw [row_off (k' := 10 + 3 * p + 2) (by omega), row_off (k' := 10 + 3 * p + 2) (by omega), row_off (k' := 10 + 3 * p + 2) (by omega), row_off (k' := 10 + 3 * p + 2) (by omega)]
        exact this.2 i hi
  · have e12 : σ (4 + P) 3 = 12 := by
      rw [i_lt, t12] at c3
      exact Int32.toInt_inj.mp (by rw [t12]; omega)
    rw [if_neg c3, if_pos e12]
    exact ⟨rfl, h⟩
/-- a new safe of the class, the ns-th -/
def f_X4_safe (ns : Nat) (a kd c : Int32) (σ : Sg) : Sg := up2 (up2 (up2 σ (28 + ns) 0 kd) (28 + ns) 1 c) 1 a.toNatClampNeg (nI ns)
def f_X4_sok (a kd c : Int32) : Int32 := (if f_X4_isRoom a = 0 then 0 else (if kd < 0 then 0 else (if 2 < kd then 0 else (if c < 0 then 0 else (if 1000000 < c then 0 else 1)))))
theorem safe_no {a kd c : Int32} (τ : Sg) (h : f_X4_sok a kd c = 0) : f_X5_safe a kd c τ = (-1, τ) := by
  unfold f_X4_sok at h
  unfold f_X5_safe f_X5_in
  rw [isRoom_eq] at h
  unfold f_X5_in at h
  repeat' split at h
  all_goals simp_all
theorem safe_yes {a kd c : Int32} (τ : Sg) (h : ¬ f_X4_sok a kd c = 0) : f_X5_safe a kd c τ = (1, up2 (up2 (up2 (up2 τ 1 ((τ 0 0).toNatClampNeg) kd) 2 ((τ 0 0).toNatClampNeg) c) 7 a.toNatClampNeg (τ 0 0)) 0 0 ((τ 0 0) + 1)) ∧ vp_in a 8 ∧ (kd = 0 ∨ kd = 1 ∨ kd = 2) := by
  unfold f_X4_sok at h
  by_cases c1 : f_X4_isRoom a = 0
  · rw [if_pos c1] at h; exact absurd rfl h
  rw [if_neg c1] at h
  by_cases c2 : kd < 0
  · rw [if_pos c2] at h; exact absurd rfl h
  rw [if_neg c2] at h
  by_cases c3 : 2 < kd
  · rw [if_pos c3] at h; exact absurd rfl h
  rw [if_neg c3] at h
  by_cases c4 : c < 0
  · rw [if_pos c4] at h; exact absurd rfl h
  rw [if_neg c4] at h
  by_cases c5 : 1000000 < c
  · rw [if_pos c5] at h; exact absurd rfl h
  refine ⟨?_, isRoom_in c1, ?_⟩
  · unfold f_X5_safe
    rw [← isRoom_eq, if_neg c1, if_neg (show ¬ f_X5_in kd 0 2 = 0 by unfold f_X5_in; rw [if_neg c2, if_neg c3]; decide), if_neg (show ¬ f_X5_in c 0 1000000 = 0 by unfold f_X5_in; rw [if_neg c4, if_neg c5]; decide)]
  · obtain ⟨j, hj, rfl⟩ := nI_of c2
    rw [i_lt, nI_toInt hj, show (2 : Int32).toInt = 2 from rfl] at c3
    have hj6 : j < 3 := by omega
    match j, hj6 with
    | 0, _ => exact Or.inl rfl
    | 1, _ => exact Or.inr (Or.inl rfl)
    | 2, _ => exact Or.inr (Or.inr rfl)
theorem safe_rel {ns : Nat} {σ τ : Sg} (h : RA ns σ τ) (hn : ns < 512) (a kd c : Int32) (hs : ¬ f_X4_sok a kd c = 0) : (f_X5_safe a kd c τ).1 = 1 ∧ RA (ns + 1) (f_X4_safe ns a kd c σ) (f_X5_safe a kd c τ).2 := by
  obtain ⟨e, hv, hk⟩ := safe_yes τ hs
  rw [e]
  have hn' : (τ 0 0).toNatClampNeg = ns := h.n
  have e0 : τ 0 0 = nI ns := h.2.1
  have ha := vp_lt hv
  unfold f_X4_safe
  dsimp only
  generalize a.toNatClampNeg = A at ha
  rw [hn', e0]
  refine ⟨rfl, ?_⟩
  have w0 : RA (ns + 1) (up2 (up2 σ (28 + ns) 0 kd) (28 + ns) 1 c) (up2 (up2 (up2 τ 1 ns kd) 2 ns c) 0 0 (nI ns + 1)) := by
    obtain ⟨h1, h2, h3, h4, h5, h6, h7, h8, h9, h10, h11, h12, h13⟩ := h
    have rc : ∀ k, k ≠ 28 + ns → (up2 (up2 σ (28 + ns) 0 kd) (28 + ns) 1 c) k = σ k := fun k hk => by rw [row_off hk, row_off hk]
    have rm : ∀ k, k ≠ 0 → k ≠ 1 → k ≠ 2 → (up2 (up2 (up2 τ 1 ns kd) 2 ns c) 0 0 (nI ns + 1)) k = τ k := fun k a1 a2 a3 => by rw [row_off a1, row_off a3, row_off a2]
    have r0 : ∀ i, i ≠ 0 → (up2 (up2 (up2 τ 1 ns kd) 2 ns c) 0 0 (nI ns + 1)) 0 i = τ 0 i := fun i hi => by rw [up2_row _ _ _ hi, row_off (by decide), row_off (by decide)]
    refine ⟨by omega, ?_, fun i f hf => ?_, fun q => ?_, fun i => ?_, ?_, ?_, ?_, ?_, fun q hq => ?_, fun i => ?_, fun k f hk hf => ?_, ?_⟩
    · rw [up2_self, nI_1]
    · simp only [up2_eq]
      have q3 := h3 i f hf
      by_cases ci : i = ns
      · subst ci
        by_cases f1 : f = 1
        · subst f1; simp
        · by_cases f0 : f = 0
          · subst f0; simp
          · rw [if_neg (by omega), if_neg (by omega), if_neg (by omega), if_neg (by omega), if_neg (by omega)]; exact q3
      · rw [if_neg (by omega), if_neg (by omega), if_neg (by omega), if_neg (by omega), if_neg (by omega)]; exact q3
    · rw [rc _ (by omega), rm _ (by decide) (by decide) (by decide)]; exact h4 q
    · rw [rc _ (by omega), rm _ (by decide) (by decide) (by decide)]; exact h5 i
    · rw [rc _ (by omega), r0 _ (by decide), r0 _ (by decide), r0 _ (by decide), r0 _ (by decide), r0 _ (by decide)]; exact h6
    · rw [rc _ (by omega)]; exact h7
    · intro p hp
      rw [rc _ (by omega), rc _ (by omega), rc _ (by omega), rc _ (by omega), rm _ (by decide) (by decide) (by decide), rm _ (by decide) (by decide) (by decide), rm _ (by decide) (by decide) (by decide), rm _ (by decide) (by decide) (by decide)]
      exact h8 p hp
    · intro p hp
      rw [rc _ (by omega), rc _ (by omega), rc _ (by omega), rc _ (by omega)]
      exact h9 p hp
    · rw [rm _ (by decide) (by decide) (by decide)]
      rcases h10 q hq with q1 | q1
      · exact Or.inl q1
      · exact Or.inr (vp_wide q1 (by omega))
    · simp only [up2_eq]
      rw [if_neg (by omega), if_neg (by omega)]
      by_cases ci : i = ns
      · rw [if_pos ⟨trivial, ci⟩]; exact hk
      · rw [if_neg (by omega)]; exact h11 i
    · rw [rc _ (by omega)]; exact h12 k f (by omega) hf
    · rw [rc _ (by omega)]; exact h13
  have w1 := w0.room (r := A) (w := nI ns) (Or.inr (vp_in_nI (by omega) (by omega)))
  rw [up2_comm _ (show (0 : Nat) ≠ 7 by decide)] at w1
  exact w1

