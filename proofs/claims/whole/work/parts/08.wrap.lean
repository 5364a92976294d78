theorem ne_toI {a b : Int32} {n : Int} (h : ¬ a = b) (hb : b.toInt = n) : a.toInt ≠ n := fun q => h (Int32.toInt_inj.mp (q.trans hb.symm))
def Bn (v : Int32) : Prop := v = 0 ∨ v = 1
theorem Bn.z : Bn 0 := Or.inl rfl
theorem Bn.o : Bn 1 := Or.inr rfl
theorem Bn.ite {c : Prop} [Decidable c] {a b : Int32} (ha : Bn a) (hb : Bn b) : Bn (if c then a else b) := by
  by_cases h : c
  · rw [if_pos h]; exact ha
  · rw [if_neg h]; exact hb
theorem Bn.ite1 {c : Prop} [Decidable c] {a b : Int32 × Sg} (ha : Bn a.1) (hb : Bn b.1) : Bn (if c then a else b).1 := by
  by_cases h : c
  · rw [if_pos h]; exact ha
  · rw [if_neg h]; exact hb
theorem zb01 {v : Int32} (h : Bn v) : narrow .boolean (.int v) = .int v := by
  rcases h with rfl | rfl <;> rfl
/-- one answer, one world -/
def Det (r0 : Option Value) (w0 : va_W) : Option Value → va_W → Prop := fun r w => r = r0 ∧ w = w0
/-- a room of L levels -/
def rmA (L c s : Nat) : Room := { frames := L, cells := c, slots := s, locals := 30 * L }
abbrev rmL (L : Nat) : Room := rmA L 0 0
def RmOk (x : Cx) (L cells slots : Nat) : Prop := (xR x).frames = L ∧ (xR x).locals = 30 * L ∧ cells ≤ (xR x).cells ∧ slots ≤ (xR x).slots
theorem RmOk.of {x : Cx} {L c s cells slots : Nat} (e : xR x = rmA L c s) (h1 : cells ≤ c) (h2 : slots ≤ s) : RmOk x L cells slots := by
  unfold RmOk
  rw [e]
  exact ⟨rfl, rfl, h1, h2⟩
theorem RmOk.r {x : Cx} {L L' nb cells slots : Nat} (h : RmOk x L cells slots) (hL : L' + 1 ≤ L) (hb : nb ≤ 11) : (rmL L').frames + 1 ≤ (xR x).frames ∧ 8 + (nb + 11) + (rmL L').locals ≤ (xR x).locals := by
  obtain ⟨h1, h2, -, -⟩ := h
  rw [h1, h2]
  simp only [rmL, rmA]
  omega
theorem Con.ofF {l : Launch} {g : Gy} {y : MethodName} {cc : ByteArray} {nL : Nat} {ret : Option FieldType} {rm : Room} {As : List Value} {ws : va_W} {Po : Option Value → va_W → Prop} (hy : plainFor y = true) (hn : (lg_sl As).length ≤ nL)
    (body : ∀ x : Cx, Ok x cc y.cls ret → xL x = l → xG x = g → xR x = rm → xN x = nL → ((xT x).name = y.name) → Rt x rm.cells rm.slots Po → J x 0 0 ws 0 (lv_args 0 As) []) : Con l g y cc nL ret rm As ws Po := by
  intro sz
  refine va_MetF (cc := cc) (maxL := nL) (ret := ret) hy rfl ?_
  intro p e s m args below meth c s₁ B hml hv
  obtain ⟨rfl, hsz, hP, hK, hD0⟩ := hv
  subst hsz
  have hts := atoms_spec (ws := Cond.code y cc nL ret :: gd_tbl) B.pre
  have hl := lv_entry As (n := nL) hn
  rw [lg_entry_eq]
  refine body (p, l, e, rm, s, m, As.toArray, below, meth, c, g, va_A ws s.heap.size, MQ below (CQ g ws Po s.heap.size) As.toArray s rm.cells rm.slots (va_A ws s.heap.size), nL) ⟨B.exec, B.bytes, B.returns, hml, findClass_of_methodNamed B.named, fun w hw => hts w (List.mem_cons_of_mem _ hw), hK, B.notSynchronized, fun q h => Or.inr h⟩ rfl rfl rfl rfl (name_of_methodNamed B.named B.method).1 ⟨CQ g ws Po s.heap.size, rfl, ?_⟩ s.heap [] _ hP hD0.self va_S.rf hl
  intro r ws' H locs t hp hP1 hD1 hS1 ht
  exact ⟨r, ws', rfl, hp, by rw [ht]; exact hP1, hD1, hS1.F ht⟩
section JX
variable {x : Cx} {cc : ByteArray} {own : String} {ret : Option FieldType} {cells slots pc : Nat} {ws w0 : va_W} {lv : List (Nat × Value)} {st rest : List Value} {ad : Nat → Nat} {σ : Sg}
variable {y z : MethodName} {cb : ByteArray} {nb index n L : Nat} {rb : Option FieldType} {As : List Value} {r0 : Option Value}
theorem J_ifnullr (h : Ok x cc own ret) {off : Int} {v : Int32} (tgt : Nat) (ht : (pc : Int) + off = (tgt : Int)) (d : decode cc pc = .ok (.ifnull off, 3)) (kt : v = -1 → J x cells slots ws tgt lv st) (kf : ¬ v = -1 → J x cells slots ws (pc + 3) lv st) : J x cells slots ws pc lv (va_rf (rfa ad v) :: st) :=
  J_ifnull h tgt ht d (fun c => kt (Decidable.byContradiction fun q => by rw [rfa_ne q] at c; cases c)) (fun c => kf (fun q => c (by rw [q]; rfl)))
theorem J_ifnonnullr (h : Ok x cc own ret) {off : Int} {v : Int32} (tgt : Nat) (ht : (pc : Int) + off = (tgt : Int)) (d : decode cc pc = .ok (.ifnonnull off, 3)) (kt : ¬ v = -1 → J x cells slots ws tgt lv st) (kf : v = -1 → J x cells slots ws (pc + 3) lv st) : J x cells slots ws pc lv (va_rf (rfa ad v) :: st) :=
  J_ifnonnull h tgt ht d (fun c => kt (fun q => c (by rw [q]; rfl))) (fun c => kf (Decidable.byContradiction fun q => by rw [rfa_ne q] at c; cases c))
theorem J_cS (h : Ok x cc own ret) (hR : RmOk x L cells slots) {L' : Nat} (hL : L' + 1 ≤ L) (hc : Con (xL x) (xG x) y cb nb rb (rmL L') As ws (Det r0 w0)) (hb : nb ≤ 11) (h1 : Cond.methodLink own index y ∈ gd_tbl) (h2 : Cond.static y ∈ gd_tbl) (h4 : Cond.initialized y.cls ∈ gd_tbl) (h5 : Cond.code y cb nb rb ∈ gd_tbl)
    (hd : y.cls ≠ "java/lang/invoke/MethodHandle" ∧ y.cls ≠ "java/lang/invoke/VarHandle" ∧ (parseMethodDescriptor y.desc).map (fun d => d.parameters.length) = some n) (hn : As.length = n) (hst : st = As.reverse ++ rest) (hro : (rest.map fun v => v.category).sum ≤ 8) (st' : List Value) (hs : r0.toList ++ rest = st') (d : decode cc pc = .ok (.invokestatic index, 3))
    (k : J x cells slots w0 (pc + 3) lv st') : J x cells slots ws pc lv st := by
  subst hs
  refine J_callS h hc h1 h2 h4 h5 hd (hR.r hL hb) ⟨hR.2.2.1, hR.2.2.2⟩ hn hst hro d ?_
  rintro r w ⟨rfl, rfl⟩
  exact k
theorem J_cD (h : Ok x cc own ret) (hR : RmOk x L cells slots) {L' : Nat} (hL : L' + 1 ≤ L) {N : Nat} (hc : Con (xL x) (xG x) y cb nb rb (rmL L') (.ref (ad 0) :: As) (wC (xG x) ad N σ) (Det r0 w0)) (hb : nb ≤ 11) (h1 : Cond.methodLink own index y ∈ gd_tbl) (h2 : Cond.instanceMethod y ∈ gd_tbl) (h3 : Cond.selects RX4 y y ∈ gd_tbl) (h5 : Cond.code y cb nb rb ∈ gd_tbl)
    (hd : y.cls = RX4 ∧ y.cls ≠ "java/lang/invoke/MethodHandle" ∧ y.cls ≠ "java/lang/invoke/VarHandle" ∧ (parseMethodDescriptor y.desc).map (fun d => d.parameters.length) = some n) (hN : 0 < N) (hn : As.length = n) (hst : st = As.reverse ++ .ref (ad 0) :: rest) (hro : (rest.map fun v => v.category).sum ≤ 8) (st' : List Value) (hs : r0.toList ++ rest = st') (d : decode cc pc = .ok (.invokevirtual index, 3))
    (k : J x cells slots w0 (pc + 3) lv st') : J x cells slots (wC (xG x) ad N σ) pc lv st := by
  subst hs
  refine J_callV h hc h1 h2 h3 m_1 h5 hd (hR.r hL hb) ⟨hR.2.2.1, hR.2.2.2⟩ (q0 := 0) (wd_at hN (cD_0 _ _ _)) rfl rfl hn hst hro d ?_
  rintro r w ⟨rfl, rfl⟩
  exact k
theorem J_cP (h : Ok x cc own ret) (hR : RmOk x L cells slots) {L' p : Nat} (hp : p < 6) (hL : L' + 1 ≤ L) {N : Nat} (hc : Con (xL x) (xG x) y cb nb rb (rmL L') (.ref (ad (4 + p)) :: As) (wC (xG x) ad N σ) (Det r0 w0)) (hb : nb ≤ 11) (h1 : Cond.methodLink own index y ∈ gd_tbl) (h2 : Cond.instanceMethod y ∈ gd_tbl) (h3 : Cond.selects RX0 y y ∈ gd_tbl) (h5 : Cond.code y cb nb rb ∈ gd_tbl)
    (hd : y.cls = RX0 ∧ y.cls ≠ "java/lang/invoke/MethodHandle" ∧ y.cls ≠ "java/lang/invoke/VarHandle" ∧ (parseMethodDescriptor y.desc).map (fun d => d.parameters.length) = some n) (hN : 27 < N) (hn : As.length = n) (hst : st = As.reverse ++ .ref (ad (4 + p)) :: rest) (hro : (rest.map fun v => v.category).sum ≤ 8) (st' : List Value) (hs : r0.toList ++ rest = st') (d : decode cc pc = .ok (.invokevirtual index, 3))
    (k : J x cells slots w0 (pc + 3) lv st') : J x cells slots (wC (xG x) ad N σ) pc lv st := by
  subst hs
  refine J_callV h hc h1 h2 h3 m_2 h5 hd (hR.r hL hb) ⟨hR.2.2.1, hR.2.2.2⟩ (q0 := 4 + p) (wd_at (by omega) (cD_p _ _ hp _)) rfl rfl hn hst hro d ?_
  rintro r w ⟨rfl, rfl⟩
  exact k
theorem J_cM (h : Ok x cc own ret) (hR : RmOk x L cells slots) {L' : Nat} (hL : L' + 1 ≤ L) (hc : Con (xL x) (xG x) y cb nb rb (rmL L') (.ref (ad 0) :: As) (wM (xG x) ad σ) (Det r0 w0)) (hb : nb ≤ 11) (h1 : Cond.methodLink own index y ∈ gd_tbl) (h2 : Cond.instanceMethod y ∈ gd_tbl) (h3 : Cond.selects RX5 y y ∈ gd_tbl) (h5 : Cond.code y cb nb rb ∈ gd_tbl)
    (hd : y.cls = RX5 ∧ y.cls ≠ "java/lang/invoke/MethodHandle" ∧ y.cls ≠ "java/lang/invoke/VarHandle" ∧ (parseMethodDescriptor y.desc).map (fun d => d.parameters.length) = some n) (hn : As.length = n) (hst : st = As.reverse ++ .ref (ad 0) :: rest) (hro : (rest.map fun v => v.category).sum ≤ 8) (st' : List Value) (hs : r0.toList ++ rest = st') (d : decode cc pc = .ok (.invokevirtual index, 3))
    (k : J x cells slots w0 (pc + 3) lv st') : J x cells slots (wM (xG x) ad σ) pc lv st := by
  subst hs
  refine J_callV h hc h1 h2 h3 m_3 h5 hd (hR.r hL hb) ⟨hR.2.2.1, hR.2.2.2⟩ (q0 := 0) (wd_at (by decide) (cM_0 _ _ _)) rfl rfl hn hst hro d ?_
  rintro r w ⟨rfl, rfl⟩
  exact k
/-- which classes a safe may be of -/
def Sels (v : Int32) (z y : MethodName) : Prop := ∀ (q : vw_C), clL[kcl v]? = some q → Cond.selects q.1 z y ∈ gd_tbl
theorem Sels.of3 {v : Int32} {z y : MethodName} (h1 : Cond.selects RX1 z y ∈ gd_tbl) (h2 : Cond.selects RX2 z y ∈ gd_tbl) (h3 : Cond.selects RX3 z y ∈ gd_tbl) : Sels v z y := by
  intro q hq
  rcases kcl_123 v with hc | hc | hc <;> rw [hc] at hq <;> cases hq <;> assumption
theorem kcl_1 {v : Int32} (h : ¬ v = 0) : kcl v = 2 ∨ kcl v = 3 := by
  unfold kcl
  rw [if_neg h]
  split
  · exact Or.inl rfl
  · exact Or.inr rfl
theorem kcl_2 {v : Int32} (h : ¬ v = 0) (h1 : ¬ v = 1) : kcl v = 3 := by
  unfold kcl
  rw [if_neg h, if_neg h1]
theorem Sels.of2 {v : Int32} {z y : MethodName} (hv : ¬ v = 0) (h2 : Cond.selects RX2 z y ∈ gd_tbl) (h3 : Cond.selects RX3 z y ∈ gd_tbl) : Sels v z y := by
  intro q hq
  rcases kcl_1 hv with hc | hc <;> rw [hc] at hq <;> cases hq <;> assumption
theorem Sels.of1 {v : Int32} {z y : MethodName} (hv : ¬ v = 0) (hv1 : ¬ v = 1) (h3 : Cond.selects RX3 z y ∈ gd_tbl) : Sels v z y := by
  intro q hq
  rw [kcl_2 hv hv1] at hq
  cases hq
  assumption
/-- a safe's member that no heir has anew -/
theorem J_cU (h : Ok x cc own ret) (hR : RmOk x L cells slots) {L' j : Nat} (hj : 28 ≤ j) {N : Nat} (hN : j < N) (hL : L' + 1 ≤ L) (hc : Con (xL x) (xG x) y cb nb rb (rmL L') (.ref (ad j) :: As) (wC (xG x) ad N σ) (Det r0 w0)) (hb : nb ≤ 11) (h1 : Cond.methodLink own index z ∈ gd_tbl) (h2 : Cond.sameMethod z.cls RX1 z.name z.desc ∈ gd_tbl) (h3 : Sels (σ j 0) z y) (h6 : Cond.instanceMethod y ∈ gd_tbl) (h5 : Cond.code y cb nb rb ∈ gd_tbl)
    (hyx : y = ⟨RX1, z.name, z.desc⟩) (hd : RX1 ≠ "java/lang/invoke/MethodHandle" ∧ RX1 ≠ "java/lang/invoke/VarHandle" ∧ (parseMethodDescriptor z.desc).map (fun d => d.parameters.length) = some n) (hn : As.length = n) (hst : st = As.reverse ++ .ref (ad j) :: rest) (hro : (rest.map fun v => v.category).sum ≤ 8) (st' : List Value) (hs : r0.toList ++ rest = st') (d : decode cc pc = .ok (.invokevirtual index, 3))
    (k : J x cells slots w0 (pc + 3) lv st') : J x cells slots (wC (xG x) ad N σ) pc lv st := by
  subst hs
  have hcell := cD_s (xG x) ad hj (σ j)
  obtain ⟨q, hq⟩ : ∃ q : vw_C, clL[kcl (σ j 0)]? = some q := by
    rcases kcl_123 (σ j 0) with hc | hc | hc <;> rw [hc] <;> exact ⟨_, rfl⟩
  refine J_callU h (owner := RX1) (C := q.1) hc h1 h2 (h3 q hq) h6 (by rw [hyx]; exact m_4) h5 hyx hd (hR.r hL hb) ⟨hR.2.2.1, hR.2.2.2⟩ (q0 := j) (wd_at hN hcell) hq rfl hn hst hro d ?_
  rintro r w ⟨rfl, rfl⟩
  exact k
/-- a member of the class above -/
theorem J_cT (h : Ok x cc own ret) (hR : RmOk x L cells slots) {L' j : Nat} (hj : 28 ≤ j) {N : Nat} (hN : j < N) (hL : L' + 1 ≤ L) (hc : Con (xL x) (xG x) y cb nb rb (rmL L') (.ref (ad j) :: As) (wC (xG x) ad N σ) (Det r0 w0)) (hb : nb ≤ 11) (h1 : Cond.methodLink own index y ∈ gd_tbl) (h2 : Cond.sameMethod y.cls y.cls y.name y.desc ∈ gd_tbl) (h3 : Cond.superclass own y.cls ∈ gd_tbl) (h6 : Cond.instanceMethod y ∈ gd_tbl) (h4 : Cond.initialized y.cls ∈ gd_tbl) (h5 : Cond.code y cb nb rb ∈ gd_tbl)
    (hd : y.name ≠ "<init>" ∧ (parseMethodDescriptor y.desc).map (fun d => d.parameters.length) = some n) (hn : As.length = n) (hst : st = As.reverse ++ .ref (ad j) :: rest) (hro : (rest.map fun v => v.category).sum ≤ 8) (st' : List Value) (hs : r0.toList ++ rest = st') (d : decode cc pc = .ok (.invokespecial index, 3))
    (k : J x cells slots w0 (pc + 3) lv st') : J x cells slots (wC (xG x) ad N σ) pc lv st := by
  subst hs
  have hcell := cD_s (xG x) ad hj (σ j)
  obtain ⟨q, hq⟩ : ∃ q : vw_C, clL[kcl (σ j 0)]? = some q := by
    rcases kcl_123 (σ j 0) with hc | hc | hc <;> rw [hc] <;> exact ⟨_, rfl⟩
  refine J_callP h hc h1 h2 h3 h6 h4 h5 hd (hR.r hL hb) ⟨hR.2.2.1, hR.2.2.2⟩ (q0 := j) (wd_at hN hcell) hq hn hst hro d ?_
  rintro r w ⟨rfl, rfl⟩
  exact k
/-- a safe's member that its heirs have anew: each kind's own -/
theorem J_cO (h : Ok x cc own ret) (hR : RmOk x L cells slots) {L1 L2 L3 j n1 n2 n3 : Nat} {c1 c2 c3 : ByteArray} {y1 y2 y3 : MethodName} (hj : 28 ≤ j) {N : Nat} (hN : j < N) (hL : L1 + 1 ≤ L ∧ L2 + 1 ≤ L ∧ L3 + 1 ≤ L)
    (hc1 : σ j 0 = 0 → Con (xL x) (xG x) y1 c1 n1 rb (rmL L1) (.ref (ad j) :: As) (wC (xG x) ad N σ) (Det r0 w0)) (hc2 : σ j 0 = 1 → Con (xL x) (xG x) y2 c2 n2 rb (rmL L2) (.ref (ad j) :: As) (wC (xG x) ad N σ) (Det r0 w0)) (hc3 : ¬ σ j 0 = 0 → ¬ σ j 0 = 1 → Con (xL x) (xG x) y3 c3 n3 rb (rmL L3) (.ref (ad j) :: As) (wC (xG x) ad N σ) (Det r0 w0)) (hb : n1 ≤ 11 ∧ n2 ≤ 11 ∧ n3 ≤ 11)
    (h1 : Cond.methodLink own index z ∈ gd_tbl) (h2 : Cond.sameMethod z.cls RX1 z.name z.desc ∈ gd_tbl) (hz : z = ⟨RX1, z.name, z.desc⟩) (hy1 : y1 = z) (hi : y1.cls = RX1 ∧ y2.cls = RX2 ∧ y3.cls = RX3)
    (hs1 : Cond.selects RX1 z y1 ∈ gd_tbl) (hs2 : Cond.selects RX2 z y2 ∈ gd_tbl) (hs3 : Cond.selects RX3 z y3 ∈ gd_tbl) (hm1 : Cond.instanceMethod y1 ∈ gd_tbl) (hm2 : Cond.instanceMethod y2 ∈ gd_tbl) (hm3 : Cond.instanceMethod y3 ∈ gd_tbl) (hk1 : Cond.code y1 c1 n1 rb ∈ gd_tbl) (hk2 : Cond.code y2 c2 n2 rb ∈ gd_tbl) (hk3 : Cond.code y3 c3 n3 rb ∈ gd_tbl)
    (hd : RX1 ≠ "java/lang/invoke/MethodHandle" ∧ RX1 ≠ "java/lang/invoke/VarHandle" ∧ (parseMethodDescriptor z.desc).map (fun d => d.parameters.length) = some n) (hn : As.length = n) (hst : st = As.reverse ++ .ref (ad j) :: rest) (hro : (rest.map fun v => v.category).sum ≤ 8) (st' : List Value) (hs : r0.toList ++ rest = st') (d : decode cc pc = .ok (.invokevirtual index, 3))
    (k : J x cells slots w0 (pc + 3) lv st') : J x cells slots (wC (xG x) ad N σ) pc lv st := by
  subst hs
  have hcell := cD_s (xG x) ad hj (σ j)
  have hk : ∀ (r : Option Value) (w : va_W), Det r0 w0 r w → J x cells slots w (pc + 3) lv (r.toList ++ rest) := by
    rintro r w ⟨rfl, rfl⟩
    exact k
  by_cases a0 : σ j 0 = 0
  · have e : kcl (σ j 0) = 1 := by rw [a0]; rfl
    rw [e] at hcell
    exact J_callU h (owner := RX1) (C := RX1) (hc1 a0) h1 h2 hs1 hm1 (by rw [hi.1]; exact m_4) hk1 (by rw [hy1]; exact hz) hd (hR.r hL.1 hb.1) ⟨hR.2.2.1, hR.2.2.2⟩ (q0 := j) (q := (RX1, TX1, 6)) (wd_at hN hcell) rfl rfl hn hst hro d hk
  · by_cases a1 : σ j 0 = 1
    · have e : kcl (σ j 0) = 2 := by rw [a1]; rfl
      rw [e] at hcell
      exact J_callO h (owner := RX1) (C := RX2) (b0 := c1) (m0 := n1) (r0 := rb) (hc2 a1) h1 h2 (by rw [← hz, ← hy1]; exact hm1) hs2 hm2 (by rw [hi.2.1]; exact m_5) hk2 (by rw [← hz, ← hy1]; exact hk1) hd (hR.r hL.2.1 hb.2.1) ⟨hR.2.2.1, hR.2.2.2⟩ (q0 := j) (q := (RX2, TX2, 6)) (wd_at hN hcell) rfl rfl hn hst hro d hk
    · rw [kcl_2 a0 a1] at hcell
      exact J_callO h (owner := RX1) (C := RX3) (b0 := c1) (m0 := n1) (r0 := rb) (hc3 a0 a1) h1 h2 (by rw [← hz, ← hy1]; exact hm1) hs3 hm3 (by rw [hi.2.2]; exact m_6) hk3 (by rw [← hz, ← hy1]; exact hk1) hd (hR.r hL.2.2 hb.2.2) ⟨hR.2.2.1, hR.2.2.2⟩ (q0 := j) (q := (RX3, TX3, 6)) (wd_at hN hcell) rfl rfl hn hst hro d hk
end JX
