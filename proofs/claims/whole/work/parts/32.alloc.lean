section JN
variable {x : Cx} {cc : ByteArray} {own : String} {ret : Option FieldType} {cells slots pc : Nat} {ws w1 w2 : va_W} {lv : List (Nat × Value)} {st rest : List Value}
theorem J_new (h : Ok x cc own ret) {C : String} {T : u_T} {N ci index : Nat} {ty : Nat → FieldType} (fs : List Value) (hin : ∀ w ∈ u_ws C T N, w ∈ gd_tbl) (hty : ∀ k, k < N → parseFieldDescriptor (T k).2.2.1 = some (ty k)) (hcl : Cond.classLink own index C ∈ gd_tbl) (hinst : Cond.instantiable C N ∈ gd_tbl) (hini : Cond.initialized C ∈ gd_tbl) (hc : clL[ci]? = some (C, T, N)) (hfs : ∀ j, j < N → defaultValue (ty j) = vp_V fs j) (hf : cells + 1 ≤ (xR x).cells ∧ slots + N ≤ (xR x).slots) (d : decode cc pc = .ok (.new index, 3)) (k : ∀ q, J x (cells + 1) (slots + N) (ws ++ [(q, .inr (ci, fs))]) (pc + 3) lv (.ref q :: st)) : J x cells slots ws pc lv st :=
  fun H locs ls hP hD hS hl => va_new h.1 h.2.1 h.2.2.2.2.2.1 hin ty hty h.2.2.2.2.1 (h.w hcl) (h.w hinst) (h.w hini) h.K hP hD hS h.2.2.2.2.2.2.2.2 hc hfs hf.1 hf.2 d (fun q H1 hP1 hD1 hS1 => k q H1 locs ls hP1 hD1 hS1 hl)
theorem J_newa (h : Ok x cc own ret) {n : Int32} (N' : Nat) (hn : ¬ n < 0) (hN : n.toNatClampNeg = N') (hb : N' * componentBytes .int ≤ 536870912) (hf : cells + 1 ≤ (xR x).cells ∧ slots + N' ≤ (xR x).slots) (d : decode cc pc = .ok (.newarray .int, 2)) (k : ∀ q, J x (cells + 1) (slots + N') (ws ++ [(q, .inl ((xG x).2.1, N', .inl (fun _ => 0)))]) (pc + 2) lv (.ref q :: st)) : J x cells slots ws pc lv (.int n :: st) := by
  intro H locs ls hP hD hS hl
  refine va_newa (atype := .int) (ty := .int) (a0 := (N', .inl fun _ => 0)) h.1 h.2.1 (h.w m_42) rfl h.K hP hD hS h.2.2.2.2.2.2.2.2 (fun cA => by rw [vp_cell_i]; rfl) hn hN hb hf.1 hf.2 d (fun q cA H1 hK1 hP1 hD1 hS1 => ?_)
  have e : (xG x).2.1 = cA := by
    have a1 := (hK1.2 3 (cA, .int) rfl).2
    have a2 := (h.K.2 0 _ rfl).2
    exact Option.some.inj (a2.symm.trans a1)
  rw [← e] at hP1 hD1
  exact k q H1 locs ls hP1 hD1 hS1 hl
theorem J_newq (h : Ok x cc own ret) {n : Int32} {C : String} {index t0 : Nat} {cB : ClassId} (N' : Nat) (hcl : Cond.classLink own index C ∈ gd_tbl) (hover : va_AO C (xS x)) (ht : (tyL (xG x))[t0]? = some (cB, .object C)) (hn : ¬ n < 0) (hN : n.toNatClampNeg = N') (hb : N' * 4 ≤ 536870912) (hf : cells + 1 ≤ (xR x).cells ∧ slots + N' ≤ (xR x).slots) (d : decode cc pc = .ok (.anewarray index, 3)) (k : ∀ q, J x (cells + 1) (slots + N') (ws ++ [(q, .inl (cB, N', .inr (.inr (.inr (.inr (fun _ => none))))))]) (pc + 3) lv (.ref q :: st)) : J x cells slots ws pc lv (.int n :: st) := by
  intro H locs ls hP hD hS hl
  refine va_newq h.1 h.2.1 h.2.2.2.2.1 (h.w hcl) hover h.K hP hD hS h.2.2.2.2.2.2.2.2 hn hN hb hf.1 hf.2 d (fun q cA H1 hK1 hP1 hD1 hS1 => ?_)
  have e : cB = cA := by
    obtain ⟨kA, comp, -, -, -, a1⟩ := (hK1.2 3 (cA, .object C) rfl).2
    obtain ⟨kB, comp2, -, -, -, a2⟩ := (h.K.2 t0 _ ht).2
    exact Option.some.inj (a2.symm.trans a1)
  rw [← e] at hP1 hD1
  exact k q H1 locs ls hP1 hD1 hS1 hl
theorem J_perm (ws' : va_W) (is : List Nat) (hn : va_nd is = true) (hs : is.map (fun i => ws[i]?) = ws'.map some) (k : J x cells slots ws' pc lv st) : J x cells slots ws pc lv st := by
  intro H locs ls hP hD hS hl
  refine k H locs ls (hP.sub is ?_) (hD.sub is hn hs) hS hl
  have e : is.filterMap (fun i => ws[i]?) = (is.map (fun i => ws[i]?)).filterMap id := by rw [List.filterMap_map]; rfl
  rw [e, hs, List.filterMap_map]
  exact List.filterMap_some
theorem J_dist (k : va_D (xA x) ws → J x cells slots ws pc lv st) : J x cells slots ws pc lv st := fun H locs ls hP hD hS hl => k hD H locs ls hP hD hS hl
theorem jn_Pl {D : va_G} {cl : List vw_C} {H : Heap} (h : va_P D cl (w1 ++ w2) H) : va_P D cl w1 H := fun k q hk => h k q (by rw [List.getElem?_append_left (List.getElem?_eq_some_iff.mp hk).1]; exact hk)
theorem jn_r {k : Nat} : (w1 ++ w2)[w1.length + k]? = w2[k]? := by
  rw [List.getElem?_append_right (Nat.le_add_right _ _), Nat.add_sub_cancel_left]
theorem jn_Pr {D : va_G} {cl : List vw_C} {H : Heap} (h : va_P D cl (w1 ++ w2) H) : va_P D cl w2 H := fun k q hk => h (w1.length + k) q (jn_r.trans hk)
theorem jn_l {k : Nat} {q : Nat × va_E} (hk : w1[k]? = some q) : (w1 ++ w2)[k]? = some q := by rw [List.getElem?_append_left (List.getElem?_eq_some_iff.mp hk).1]; exact hk
theorem jn_Dl {A : Nat → Prop} (h : va_D A (w1 ++ w2)) : va_D A w1 := ⟨fun i j p q hi hj e => h.1 i j p q (jn_l hi) (jn_l hj) e, fun k q hk => h.2 k q (jn_l hk)⟩
theorem jn_Dr {A : Nat → Prop} (h : va_D A (w1 ++ w2)) : va_D A w2 := ⟨fun i j p q hi hj e => Nat.add_left_cancel (h.1 _ _ p q (jn_r.trans hi) (jn_r.trans hj) e), fun k q hk => h.2 _ q (jn_r.trans hk)⟩
theorem jn_ap {A : Nat → Prop} (h : va_D A (w1 ++ w2)) (i j : Nat) (p q : Nat × va_E) (hi : w1[i]? = some p) (hj : w2[j]? = some q) : p.1 ≠ q.1 := by
  intro e
  have := h.1 _ _ p q (jn_l hi) (jn_r.trans hj) e
  have := (List.getElem?_eq_some_iff.mp hi).1
  omega
/-- a call over the right part of the world -/
theorem J_goR (h : Ok x cc own ret) {Po : Option Value → va_W → Prop} {mc ms : Nat} {arr : Array Value}
    (hr : ∀ (H : Heap) (locs : List Loc) (ls : Array Slot), va_P (xG x).1 clL w2 H → va_D (xA x) w2 → lv_has ls (xN x) lv → va_Run (xP x) (xL x) (xE x) (xR x) (xS x) (xM x) (xU x) (xB x) (xT x) (xC x) H locs cells slots mc ms (F0 (xM x) pc ls st) rest (CQ (xG x) w2 Po H.size arr) (va_A w2 H.size))
    (k : ∀ (r : Option Value) (w2' : va_W), Po r w2' → J x (cells + mc) (slots + ms) (w1 ++ w2') (pc + 3) lv (r.toList ++ rest)) : J x cells slots (w1 ++ w2) pc lv st := by
  intro H locs ls hP hD hS hl T hT X
  obtain ⟨v, s0, t, T', L, h0, X', hL, e1, e2, ⟨r, ws', hv, hp, hP1, hD1, hz, hk⟩, go⟩ := hr H locs ls (jn_Pr hP) (jn_Dr hD) hl T hT X
  cases hv
  rw [h0] at hz hk
  have hA : ∀ q, va_A w2 H.size q → xA x q := by
    rintro q (⟨i, e, hi⟩ | hi)
    · exact (jn_Dr hD).2 i _ hi
    · exact h.2.2.2.2.2.2.2.2 q (Nat.le_trans hS.1 hi)
  have hap : ∀ (i : Nat) (p : Nat × va_E), w1[i]? = some p → ¬ va_A w2 H.size p.1 := by
    rintro i p hi (⟨j, e, hj⟩ | hj)
    · exact jn_ap hD i j p _ hi hj rfl
    · have := (hP i p (jn_l hi)).lt
      omega
  have hkept : ∀ (i : Nat) (p : Nat × va_E), w1[i]? = some p → t.heap[p.1]? = H[p.1]? := fun i p hi => hk _ (hP i p (jn_l hi)).lt (hap i p hi)
  obtain ⟨t2, a1, b1⟩ := k v ws' hp T'.heap (locs ++ L) ls (by rw [e1]; exact ((jn_Pl hP).kept hkept).app hP1) ((jn_Dl hD).app (hD1.weaken (fun _ q _ hq => hA _ hq)) (fun i j p q hi hj e => hap i p hi (by rw [e]; exact hD1.2 j q hj)))
    ⟨Nat.le_trans hS.1 (by rw [e1]; exact hz), fun q h1 h2 => by rw [e1, hk q (Nat.lt_of_lt_of_le h1 hS.1) (fun z => h2 (hA q z))]; exact hS.2.1 q h1 h2, fun q hq => by
      rcases List.mem_append.mp hq with hq | hq
      · exact hS.2.2 q hq
      · exact hA _ (hL q hq)⟩ hl T' rfl X'
  exact ⟨t2, go t2 a1, b1⟩
/-- a call over the left part of the world -/
theorem J_goL (h : Ok x cc own ret) {Po : Option Value → va_W → Prop} {mc ms : Nat} {arr : Array Value}
    (hr : ∀ (H : Heap) (locs : List Loc) (ls : Array Slot), va_P (xG x).1 clL w1 H → va_D (xA x) w1 → lv_has ls (xN x) lv → va_Run (xP x) (xL x) (xE x) (xR x) (xS x) (xM x) (xU x) (xB x) (xT x) (xC x) H locs cells slots mc ms (F0 (xM x) pc ls st) rest (CQ (xG x) w1 Po H.size arr) (va_A w1 H.size))
    (k : ∀ (r : Option Value) (w1' : va_W), Po r w1' → J x (cells + mc) (slots + ms) (w1' ++ w2) (pc + 3) lv (r.toList ++ rest)) : J x cells slots (w1 ++ w2) pc lv st := by
  intro H locs ls hP hD hS hl T hT X
  obtain ⟨v, s0, t, T', L, h0, X', hL, e1, e2, ⟨r, ws', hv, hp, hP1, hD1, hz, hk⟩, go⟩ := hr H locs ls (jn_Pl hP) (jn_Dl hD) hl T hT X
  cases hv
  rw [h0] at hz hk
  have hA : ∀ q, va_A w1 H.size q → xA x q := by
    rintro q (⟨i, e, hi⟩ | hi)
    · exact (jn_Dl hD).2 i _ hi
    · exact h.2.2.2.2.2.2.2.2 q (Nat.le_trans hS.1 hi)
  have hap : ∀ (i : Nat) (p : Nat × va_E), w2[i]? = some p → ¬ va_A w1 H.size p.1 := by
    rintro i p hi (⟨j, e, hj⟩ | hj)
    · exact jn_ap hD j i _ p hj hi rfl
    · have := (jn_Pr hP i p hi).lt
      omega
  have hkept : ∀ (i : Nat) (p : Nat × va_E), w2[i]? = some p → t.heap[p.1]? = H[p.1]? := fun i p hi => hk _ (jn_Pr hP i p hi).lt (hap i p hi)
  obtain ⟨t2, a1, b1⟩ := k v ws' hp T'.heap (locs ++ L) ls (by rw [e1]; exact hP1.app ((jn_Pr hP).kept hkept)) ((hD1.weaken (fun _ q _ hq => hA _ hq)).app (jn_Dr hD) (fun i j p q hi hj e => hap j q hj (by rw [← e]; exact hD1.2 i p hi)))
    ⟨Nat.le_trans hS.1 (by rw [e1]; exact hz), fun q h1 h2 => by rw [e1, hk q (Nat.lt_of_lt_of_le h1 hS.1) (fun z => h2 (hA q z))]; exact hS.2.1 q h1 h2, fun q hq => by
      rcases List.mem_append.mp hq with hq | hq
      · exact hS.2.2 q hq
      · exact hA _ (hL q hq)⟩ hl T' rfl X'
  exact ⟨t2, go t2 a1, b1⟩
variable {y : MethodName} {cb : ByteArray} {nb index b q0 ci n : Nat} {rb : Option FieldType} {rm : Room} {As : List Value} {Po : Option Value → va_W → Prop} {C : String} {fs : List Value} {q : vw_C}
theorem J_callVR (h : Ok x cc own ret) (hc : Con (xL x) (xG x) y cb nb rb rm (.ref b :: As) w2 Po) (h1 : Cond.methodLink own index y ∈ gd_tbl) (h2 : Cond.instanceMethod y ∈ gd_tbl) (h3 : Cond.selects C y y ∈ gd_tbl) (h4 : Cond.initialized C ∈ gd_tbl) (h5 : Cond.code y cb nb rb ∈ gd_tbl)
    (hd : y.cls = C ∧ y.cls ≠ "java/lang/invoke/MethodHandle" ∧ y.cls ≠ "java/lang/invoke/VarHandle" ∧ (parseMethodDescriptor y.desc).map (fun d => d.parameters.length) = some n) (hR : rm.frames + 1 ≤ (xR x).frames ∧ 8 + (nb + 11) + rm.locals ≤ (xR x).locals) (hf : cells + rm.cells ≤ (xR x).cells ∧ slots + rm.slots ≤ (xR x).slots)
    (he : w2[q0]? = some (b, .inr (ci, fs))) (hci : clL[ci]? = some q) (hq : q.1 = C) (hn : As.length = n) (hst : st = As.reverse ++ .ref b :: rest) (hro : (rest.map fun v => v.category).sum ≤ 8) (d : decode cc pc = .ok (.invokevirtual index, 3))
    (k : ∀ (r : Option Value) (w2' : va_W), Po r w2' → J x (cells + rm.cells) (slots + rm.slots) (w1 ++ w2') (pc + 3) lv (r.toList ++ rest)) : J x cells slots (w1 ++ w2) pc lv st := by
  refine J_goR (arr := (Value.ref b :: As).toArray) h (fun H locs ls hP hD hl => ?_) k
  exact va_runV (C := C) (n := n) ⟨h.1, h.2.1, h.2.2.2.1, h.2.2.2.2.1, h.2.2.2.2.2.1⟩ (hc H.size) (cwV (ws' := gd_tbl) n h.2.2.2.2.2.1 (gd_app (by intro w hw; simp at hw; rcases hw with rfl | rfl | rfl | rfl <;> assumption) (gd_call h5)) rfl rfl rfl hd hR) ⟨Con.blind, by rw [← hq]; exact va_recv h.K hP hci he, Con.pre h.2.2.2.2.2.2.1 hP hD⟩ rfl hn hl.1 hst (lv_room hro) d hf
theorem J_callVL (h : Ok x cc own ret) (hc : Con (xL x) (xG x) y cb nb rb rm (.ref b :: As) w1 Po) (h1 : Cond.methodLink own index y ∈ gd_tbl) (h2 : Cond.instanceMethod y ∈ gd_tbl) (h3 : Cond.selects C y y ∈ gd_tbl) (h4 : Cond.initialized C ∈ gd_tbl) (h5 : Cond.code y cb nb rb ∈ gd_tbl)
    (hd : y.cls = C ∧ y.cls ≠ "java/lang/invoke/MethodHandle" ∧ y.cls ≠ "java/lang/invoke/VarHandle" ∧ (parseMethodDescriptor y.desc).map (fun d => d.parameters.length) = some n) (hR : rm.frames + 1 ≤ (xR x).frames ∧ 8 + (nb + 11) + rm.locals ≤ (xR x).locals) (hf : cells + rm.cells ≤ (xR x).cells ∧ slots + rm.slots ≤ (xR x).slots)
    (he : w1[q0]? = some (b, .inr (ci, fs))) (hci : clL[ci]? = some q) (hq : q.1 = C) (hn : As.length = n) (hst : st = As.reverse ++ .ref b :: rest) (hro : (rest.map fun v => v.category).sum ≤ 8) (d : decode cc pc = .ok (.invokevirtual index, 3))
    (k : ∀ (r : Option Value) (w1' : va_W), Po r w1' → J x (cells + rm.cells) (slots + rm.slots) (w1' ++ w2) (pc + 3) lv (r.toList ++ rest)) : J x cells slots (w1 ++ w2) pc lv st := by
  refine J_goL (arr := (Value.ref b :: As).toArray) h (fun H locs ls hP hD hl => ?_) k
  exact va_runV (C := C) (n := n) ⟨h.1, h.2.1, h.2.2.2.1, h.2.2.2.2.1, h.2.2.2.2.2.1⟩ (hc H.size) (cwV (ws' := gd_tbl) n h.2.2.2.2.2.1 (gd_app (by intro w hw; simp at hw; rcases hw with rfl | rfl | rfl | rfl <;> assumption) (gd_call h5)) rfl rfl rfl hd hR) ⟨Con.blind, by rw [← hq]; exact va_recv h.K hP hci he, Con.pre h.2.2.2.2.2.2.1 hP hD⟩ rfl hn hl.1 hst (lv_room hro) d hf
theorem J_callIR (h : Ok x cc own ret) (hc : Con (xL x) (xG x) y cb nb none rm (.ref b :: As) w2 Po) (h1 : Cond.methodLink own index y ∈ gd_tbl) (h2 : Cond.instanceMethod y ∈ gd_tbl) (h4 : Cond.initialized y.cls ∈ gd_tbl) (h5 : Cond.code y cb nb none ∈ gd_tbl) (hy : y.name = "<init>")
    (hd : y.cls ≠ "java/lang/invoke/MethodHandle" ∧ y.cls ≠ "java/lang/invoke/VarHandle" ∧ (parseMethodDescriptor y.desc).map (fun d => d.parameters.length) = some n) (hR : rm.frames + 1 ≤ (xR x).frames ∧ 8 + (nb + 11) + rm.locals ≤ (xR x).locals) (hf : cells + rm.cells ≤ (xR x).cells ∧ slots + rm.slots ≤ (xR x).slots)
    (hn : As.length = n) (hst : st = As.reverse ++ .ref b :: rest) (hro : (rest.map fun v => v.category).sum ≤ 8) (d : decode cc pc = .ok (.invokespecial index, 3))
    (k : ∀ (r : Option Value) (w2' : va_W), Po r w2' → J x (cells + rm.cells) (slots + rm.slots) (w1 ++ w2') (pc + 3) lv (r.toList ++ rest)) : J x cells slots (w1 ++ w2) pc lv st := by
  refine J_goR (arr := (Value.ref b :: As).toArray) h (fun H locs ls hP hD hl => ?_) k
  exact va_runI (n := n) ⟨h.1, h.2.1, h.2.2.2.1, h.2.2.2.2.1, h.2.2.2.2.2.1⟩ (hc H.size) (cwI (ws' := gd_tbl) n h.2.2.2.2.2.1 (gd_call h5) rfl rfl rfl (h.w h4) (h.w h1) (h.w h2) hy hd hR) ⟨Con.blind, Con.pre h.2.2.2.2.2.2.1 hP hD⟩ rfl hn hl.1 hst (lv_room hro) d hf
end JN
theorem ap_at {ws : va_W} {e : Nat × va_E} : (ws ++ [e])[ws.length]? = some e := by simp
theorem ap_set {ws : va_W} {e e' : Nat × va_E} : (ws ++ [e]).set ws.length e' = ws ++ [e'] := by simp
theorem sa_at {ws L : va_W} {q0 : Nat} {e : Nat × va_E} (h : q0 < ws.length) : (ws.set q0 e ++ L)[q0]? = some e := by
  rw [List.getElem?_append_left (by rw [List.length_set]; exact h), List.getElem?_set_self h]
theorem sa_set {ws L : va_W} {q0 : Nat} {e e' : Nat × va_E} (h : q0 < ws.length) : (ws.set q0 e ++ L).set q0 e' = ws.set q0 e' ++ L := by
  rw [List.set_append_left _ _ (by rw [List.length_set]; exact h), List.set_set]
theorem sa_0 {ws : va_W} {q0 : Nat} {e : Nat × va_E} (h : ws[q0]? = some e) : ws = ws.set q0 e ++ [] := by
  obtain ⟨hl, he⟩ := List.getElem?_eq_some_iff.mp h
  rw [List.append_nil, ← he, List.set_getElem_self]
theorem fs6_1 : ∀ j, j < 6 → defaultValue (tyX1 j) = vp_V [.int 0, .int 0, .int 0, .int 0, .int 0, .int 0] j := by decide +kernel
theorem fs6_2 : ∀ j, j < 6 → defaultValue (tyX2 j) = vp_V [.int 0, .int 0, .int 0, .int 0, .int 0, .int 0] j := by decide +kernel
theorem fs6_3 : ∀ j, j < 6 → defaultValue (tyX3 j) = vp_V [.int 0, .int 0, .int 0, .int 0, .int 0, .int 0] j := by decide +kernel

theorem hd_X1_init : yX1_init.cls ≠ "java/lang/invoke/MethodHandle" ∧ yX1_init.cls ≠ "java/lang/invoke/VarHandle" ∧ (parseMethodDescriptor yX1_init.desc).map (fun d => d.parameters.length) = some 2 := by decide +kernel
theorem hd_X2_init : yX2_init.cls ≠ "java/lang/invoke/MethodHandle" ∧ yX2_init.cls ≠ "java/lang/invoke/VarHandle" ∧ (parseMethodDescriptor yX2_init.desc).map (fun d => d.parameters.length) = some 2 := by decide +kernel
theorem hd_X3_init : yX3_init.cls ≠ "java/lang/invoke/MethodHandle" ∧ yX3_init.cls ≠ "java/lang/invoke/VarHandle" ∧ (parseMethodDescriptor yX3_init.desc).map (fun d => d.parameters.length) = some 2 := by decide +kernel
theorem hd_X0_init : yX0_init.cls ≠ "java/lang/invoke/MethodHandle" ∧ yX0_init.cls ≠ "java/lang/invoke/VarHandle" ∧ (parseMethodDescriptor yX0_init.desc).map (fun d => d.parameters.length) = some 0 := by decide +kernel
theorem hd_X4_init : yX4_init.cls ≠ "java/lang/invoke/MethodHandle" ∧ yX4_init.cls ≠ "java/lang/invoke/VarHandle" ∧ (parseMethodDescriptor yX4_init.desc).map (fun d => d.parameters.length) = some 0 := by decide +kernel
theorem hd_X5_init : yX5_init.cls ≠ "java/lang/invoke/MethodHandle" ∧ yX5_init.cls ≠ "java/lang/invoke/VarHandle" ∧ (parseMethodDescriptor yX5_init.desc).map (fun d => d.parameters.length) = some 0 := by decide +kernel
theorem hd_X4_newSafe : yX4_newSafe.cls ≠ "java/lang/invoke/MethodHandle" ∧ yX4_newSafe.cls ≠ "java/lang/invoke/VarHandle" ∧ (parseMethodDescriptor yX4_newSafe.desc).map (fun d => d.parameters.length) = some 2 := by decide +kernel

set_option maxHeartbeats 4000000 in
set_option maxRecDepth 20000 in
theorem c_X1_init1 (l : Launch) (g : Gy) (ws : va_W) (q0 b : Nat) (kd c : Int32) (he : ws[q0]? = some (b, .inr (1, [.int 0, .int 0, .int 0, .int 0, .int 0, .int 0]))) : Con l g yX1_init cX1_init 3 none (rmL 1) [.ref b, .int kd, .int c] ws (Det none (ws.set q0 (b, .inr (1, [.int kd, .int c, .int 0, .int 0, .int 0, .int 0])))) := by
  refine Con.of (by decide) (Nat.le_of_ble_eq_true rfl) ?_
  intro x h e1 e2 e3 e4 e5 hr
  subst e1 e2
  have h : Ok x cX1_init "SafeDesk$Safe" none := h
  have hlt := (List.getElem?_eq_some_iff.mp he).1
  show J x 0 0 _ 0 [(0, .ref b), (1, .int kd), (2, .int c)] []
  refine J_aload_n (pc := 0) (n := 0) (i := 0) h 0 rfl rfl dX1_init_0 ?_
  refine J_obj (pc := 1) h m_93 (by rw [e3]; decide) (by rw [e3]; decide) dX1_init_1 ?_
  refine J_aload_n (pc := 4) (n := 0) (i := 0) h 0 rfl rfl dX1_init_4 ?_
  refine J_iload_n (pc := 5) (n := 1) (i := 1) h 1 rfl rfl dX1_init_5 ?_
  refine J_putF (pc := 6) h (q0 := q0) (kf := 0) (ty := .int) (T := TX1) _ iX1 tyX1_ok nmX1 he rfl (by decide) m_94 (fun _ q => q) rfl e5 rfl (by decide +kernel) rfl rfl (by decide) rfl dX1_init_6 ?_
  refine J_aload_n (pc := 9) (n := 0) (i := 0) h 0 rfl rfl dX1_init_9 ?_
  refine J_iload_n (pc := 10) (n := 2) (i := 2) h 2 rfl rfl dX1_init_10 ?_
  refine J_put (pc := 11) h (q0 := q0) (kf := 1) (ty := .int) (T := TX1) _ iX1 tyX1_ok nmX1 (List.getElem?_set_self hlt) rfl (by decide) m_96 (fun _ q => q) rfl (by decide +kernel) rfl rfl (Nat.le_of_ble_eq_true rfl) (List.set_set _) dX1_init_11 ?_
  exact J_vret (pc := 14) h hr ⟨rfl, rfl⟩ dX1_init_14
set_option maxHeartbeats 4000000 in
set_option maxRecDepth 20000 in
theorem c_X1_init2 (l : Launch) (g : Gy) (ws : va_W) (q0 b : Nat) (kd c : Int32) (he : ws[q0]? = some (b, .inr (2, [.int 0, .int 0, .int 0, .int 0, .int 0, .int 0]))) : Con l g yX1_init cX1_init 3 none (rmL 1) [.ref b, .int kd, .int c] ws (Det none (ws.set q0 (b, .inr (2, [.int kd, .int c, .int 0, .int 0, .int 0, .int 0])))) := by
  refine Con.of (by decide) (Nat.le_of_ble_eq_true rfl) ?_
  intro x h e1 e2 e3 e4 e5 hr
  subst e1 e2
  have h : Ok x cX1_init "SafeDesk$Safe" none := h
  have hlt := (List.getElem?_eq_some_iff.mp he).1
  show J x 0 0 _ 0 [(0, .ref b), (1, .int kd), (2, .int c)] []
  refine J_aload_n (pc := 0) (n := 0) (i := 0) h 0 rfl rfl dX1_init_0 ?_
  refine J_obj (pc := 1) h m_93 (by rw [e3]; decide) (by rw [e3]; decide) dX1_init_1 ?_
  refine J_aload_n (pc := 4) (n := 0) (i := 0) h 0 rfl rfl dX1_init_4 ?_
  refine J_iload_n (pc := 5) (n := 1) (i := 1) h 1 rfl rfl dX1_init_5 ?_
  refine J_putF (pc := 6) h (q0 := q0) (kf := 0) (ty := .int) (T := TX2) _ iX2 tyX2_ok nmX2 he rfl (by decide) m_94 (fun _ q => q) rfl e5 rfl (by decide +kernel) rfl rfl (by decide) rfl dX1_init_6 ?_
  refine J_aload_n (pc := 9) (n := 0) (i := 0) h 0 rfl rfl dX1_init_9 ?_
  refine J_iload_n (pc := 10) (n := 2) (i := 2) h 2 rfl rfl dX1_init_10 ?_
  refine J_put (pc := 11) h (q0 := q0) (kf := 1) (ty := .int) (T := TX2) _ iX2 tyX2_ok nmX2 (List.getElem?_set_self hlt) rfl (by decide) m_96 (fun _ q => q) rfl (by decide +kernel) rfl rfl (Nat.le_of_ble_eq_true rfl) (List.set_set _) dX1_init_11 ?_
  exact J_vret (pc := 14) h hr ⟨rfl, rfl⟩ dX1_init_14
set_option maxHeartbeats 4000000 in
set_option maxRecDepth 20000 in
theorem c_X1_init3 (l : Launch) (g : Gy) (ws : va_W) (q0 b : Nat) (kd c : Int32) (he : ws[q0]? = some (b, .inr (3, [.int 0, .int 0, .int 0, .int 0, .int 0, .int 0]))) : Con l g yX1_init cX1_init 3 none (rmL 1) [.ref b, .int kd, .int c] ws (Det none (ws.set q0 (b, .inr (3, [.int kd, .int c, .int 0, .int 0, .int 0, .int 0])))) := by
  refine Con.of (by decide) (Nat.le_of_ble_eq_true rfl) ?_
  intro x h e1 e2 e3 e4 e5 hr
  subst e1 e2
  have h : Ok x cX1_init "SafeDesk$Safe" none := h
  have hlt := (List.getElem?_eq_some_iff.mp he).1
  show J x 0 0 _ 0 [(0, .ref b), (1, .int kd), (2, .int c)] []
  refine J_aload_n (pc := 0) (n := 0) (i := 0) h 0 rfl rfl dX1_init_0 ?_
  refine J_obj (pc := 1) h m_93 (by rw [e3]; decide) (by rw [e3]; decide) dX1_init_1 ?_
  refine J_aload_n (pc := 4) (n := 0) (i := 0) h 0 rfl rfl dX1_init_4 ?_
  refine J_iload_n (pc := 5) (n := 1) (i := 1) h 1 rfl rfl dX1_init_5 ?_
  refine J_putF (pc := 6) h (q0 := q0) (kf := 0) (ty := .int) (T := TX3) _ iX3 tyX3_ok nmX3 he rfl (by decide) m_94 (fun _ q => q) rfl e5 rfl (by decide +kernel) rfl rfl (by decide) rfl dX1_init_6 ?_
  refine J_aload_n (pc := 9) (n := 0) (i := 0) h 0 rfl rfl dX1_init_9 ?_
  refine J_iload_n (pc := 10) (n := 2) (i := 2) h 2 rfl rfl dX1_init_10 ?_
  refine J_put (pc := 11) h (q0 := q0) (kf := 1) (ty := .int) (T := TX3) _ iX3 tyX3_ok nmX3 (List.getElem?_set_self hlt) rfl (by decide) m_96 (fun _ q => q) rfl (by decide +kernel) rfl rfl (Nat.le_of_ble_eq_true rfl) (List.set_set _) dX1_init_11 ?_
  exact J_vret (pc := 14) h hr ⟨rfl, rfl⟩ dX1_init_14
set_option maxHeartbeats 4000000 in
set_option maxRecDepth 20000 in
theorem c_X2_init2 (l : Launch) (g : Gy) (ws : va_W) (q0 b : Nat) (kd c : Int32) (he : ws[q0]? = some (b, .inr (2, [.int 0, .int 0, .int 0, .int 0, .int 0, .int 0]))) : Con l g yX2_init cX2_init 3 none (rmL 2) [.ref b, .int kd, .int c] ws (Det none (ws.set q0 (b, .inr (2, [.int kd, .int c, .int 0, .int 0, .int 0, .int 0])))) := by
  refine Con.of (by decide) (Nat.le_of_ble_eq_true rfl) ?_
  intro x h e1 e2 e3 e4 e5 hr
  subst e1 e2
  have h : Ok x cX2_init RX2 none := h
  have hR : RmOk x 2 0 0 := RmOk.of e3 (Nat.le_refl _) (Nat.le_refl _)
  show J x 0 0 _ 0 [(0, .ref b), (1, .int kd), (2, .int c)] []
  refine J_aload_n (pc := 0) (n := 0) (i := 0) h 0 rfl rfl dX2_init_0 ?_
  refine J_iload_n (pc := 1) (n := 1) (i := 1) h 1 rfl rfl dX2_init_1 ?_
  refine J_iload_n (pc := 2) (n := 2) (i := 2) h 2 rfl rfl dX2_init_2 ?_
  refine J_callI (pc := 3) h (c_X1_init2 _ _ _ _ _ kd c he) m_90 m_91 m_4 m_92 rfl hd_X1_init (hR.r (by decide) (by decide)) ⟨hR.2.2.1, hR.2.2.2⟩ rfl rfl (Nat.le_of_ble_eq_true rfl) dX2_init_3 ?_
  rintro r w ⟨rfl, rfl⟩
  exact J_vret (pc := 6) h hr ⟨rfl, rfl⟩ dX2_init_6
set_option maxHeartbeats 4000000 in
set_option maxRecDepth 20000 in
theorem c_X2_init3 (l : Launch) (g : Gy) (ws : va_W) (q0 b : Nat) (kd c : Int32) (he : ws[q0]? = some (b, .inr (3, [.int 0, .int 0, .int 0, .int 0, .int 0, .int 0]))) : Con l g yX2_init cX2_init 3 none (rmL 2) [.ref b, .int kd, .int c] ws (Det none (ws.set q0 (b, .inr (3, [.int kd, .int c, .int 0, .int 0, .int 0, .int 0])))) := by
  refine Con.of (by decide) (Nat.le_of_ble_eq_true rfl) ?_
  intro x h e1 e2 e3 e4 e5 hr
  subst e1 e2
  have h : Ok x cX2_init RX2 none := h
  have hR : RmOk x 2 0 0 := RmOk.of e3 (Nat.le_refl _) (Nat.le_refl _)
  show J x 0 0 _ 0 [(0, .ref b), (1, .int kd), (2, .int c)] []
  refine J_aload_n (pc := 0) (n := 0) (i := 0) h 0 rfl rfl dX2_init_0 ?_
  refine J_iload_n (pc := 1) (n := 1) (i := 1) h 1 rfl rfl dX2_init_1 ?_
  refine J_iload_n (pc := 2) (n := 2) (i := 2) h 2 rfl rfl dX2_init_2 ?_
  refine J_callI (pc := 3) h (c_X1_init3 _ _ _ _ _ kd c he) m_90 m_91 m_4 m_92 rfl hd_X1_init (hR.r (by decide) (by decide)) ⟨hR.2.2.1, hR.2.2.2⟩ rfl rfl (Nat.le_of_ble_eq_true rfl) dX2_init_3 ?_
  rintro r w ⟨rfl, rfl⟩
  exact J_vret (pc := 6) h hr ⟨rfl, rfl⟩ dX2_init_6
set_option maxHeartbeats 4000000 in
set_option maxRecDepth 20000 in
theorem c_X3_init3 (l : Launch) (g : Gy) (ws : va_W) (q0 b : Nat) (kd c : Int32) (he : ws[q0]? = some (b, .inr (3, [.int 0, .int 0, .int 0, .int 0, .int 0, .int 0]))) : Con l g yX3_init cX3_init 3 none (rmL 3) [.ref b, .int kd, .int c] ws (Det none (ws.set q0 (b, .inr (3, [.int kd, .int c, .int 0, .int 0, .int 0, .int 0])))) := by
  refine Con.of (by decide) (Nat.le_of_ble_eq_true rfl) ?_
  intro x h e1 e2 e3 e4 e5 hr
  subst e1 e2
  have h : Ok x cX3_init RX3 none := h
  have hR : RmOk x 3 0 0 := RmOk.of e3 (Nat.le_refl _) (Nat.le_refl _)
  show J x 0 0 _ 0 [(0, .ref b), (1, .int kd), (2, .int c)] []
  refine J_aload_n (pc := 0) (n := 0) (i := 0) h 0 rfl rfl dX3_init_0 ?_
  refine J_iload_n (pc := 1) (n := 1) (i := 1) h 1 rfl rfl dX3_init_1 ?_
  refine J_iload_n (pc := 2) (n := 2) (i := 2) h 2 rfl rfl dX3_init_2 ?_
  refine J_callI (pc := 3) h (c_X2_init3 _ _ _ _ _ kd c he) m_87 m_88 m_5 m_89 rfl hd_X2_init (hR.r (by decide) (by decide)) ⟨hR.2.2.1, hR.2.2.2⟩ rfl rfl (Nat.le_of_ble_eq_true rfl) dX3_init_3 ?_
  rintro r w ⟨rfl, rfl⟩
  exact J_vret (pc := 6) h hr ⟨rfl, rfl⟩ dX3_init_6
set_option maxHeartbeats 4000000 in
set_option maxRecDepth 20000 in
theorem c_X4_newSafe (l : Launch) (g : Gy) (ws : va_W) (kd c : Int32) (hk : kd = 0 ∨ kd = 1 ∨ kd = 2) : Con l g yX4_newSafe cX4_newSafe 2 (some (.object "SafeDesk$Safe")) (rmA 4 1 6) [.int kd, .int c] ws (fun r ws' => ∃ q, r = some (va_rf (some q)) ∧ ws' = ws ++ [(q, .inr (kcl kd, [.int kd, .int c, .int 0, .int 0, .int 0, .int 0]))]) := by
  refine Con.of (by decide) (Nat.le_of_ble_eq_true rfl) ?_
  intro x h e1 e2 e3 e4 e5 hr
  subst e1 e2
  have h : Ok x cX4_newSafe "SafeDesk" (some (.object "SafeDesk$Safe")) := h
  show J x 0 0 _ 0 [(0, .int kd), (1, .int c)] []
  refine J_iload_n (pc := 0) (n := 0) (i := 0) h 0 rfl rfl dX4_newSafe_0 ?_
  refine J_iconst (pc := 1) h (2) rfl dX4_newSafe_1 ?_
  refine J_icmp_ne (pc := 2) h 15 (by decide) dX4_newSafe_2 (fun c1 => ?_) (fun c1 => ?_)
  · refine J_iload_n (pc := 15) (n := 0) (i := 0) h 0 rfl rfl dX4_newSafe_15 ?_
    refine J_iconst (pc := 16) h (1) rfl dX4_newSafe_16 ?_
    refine J_icmp_ne (pc := 17) h 32 (by decide) dX4_newSafe_17 (fun c2 => ?_) (fun c2 => ?_)
    · have e0 : kd = 0 := by
        rcases hk with q | q | q
        · exact q
        · exact absurd q c2
        · exact absurd q c1
      subst e0
      refine J_new (pc := 32) (ci := 1) h [.int 0, .int 0, .int 0, .int 0, .int 0, .int 0] iX1 tyX1_ok m_16 m_130 m_4 rfl fs6_1 (by rw [e3]; decide) dX4_newSafe_32 (fun q => ?_)
      refine J_dup (pc := 35) h rfl dX4_newSafe_35 ?_
      refine J_iconst (pc := 36) h (0) rfl dX4_newSafe_36 ?_
      refine J_iload_n (pc := 37) (n := 1) (i := 1) h 1 rfl rfl dX4_newSafe_37 ?_
      refine J_callI (pc := 38) h (c_X1_init1 _ _ _ ws.length q 0 c ap_at) m_131 m_91 m_4 m_92 rfl hd_X1_init (by rw [e3]; decide) (by rw [e3]; decide) rfl rfl (Nat.le_of_ble_eq_true rfl) dX4_newSafe_38 ?_
      rintro r w ⟨rfl, rfl⟩
      exact J_aret (pc := 41) (o := some q) h hr ⟨q, rfl, ap_set⟩ dX4_newSafe_41
    · subst c2
      refine J_new (pc := 20) (ci := 2) h [.int 0, .int 0, .int 0, .int 0, .int 0, .int 0] iX2 tyX2_ok m_120 m_121 m_5 rfl fs6_2 (by rw [e3]; decide) dX4_newSafe_20 (fun q => ?_)
      refine J_dup (pc := 23) h rfl dX4_newSafe_23 ?_
      refine J_iconst (pc := 24) h (1) rfl dX4_newSafe_24 ?_
      refine J_iload_n (pc := 25) (n := 1) (i := 1) h 1 rfl rfl dX4_newSafe_25 ?_
      refine J_callI (pc := 26) h (c_X2_init2 _ _ _ ws.length q 1 c ap_at) m_122 m_88 m_5 m_89 rfl hd_X2_init (by rw [e3]; decide) (by rw [e3]; decide) rfl rfl (Nat.le_of_ble_eq_true rfl) dX4_newSafe_26 ?_
      rintro r w ⟨rfl, rfl⟩
      refine J_goto (pc := 29) h 41 (by decide) dX4_newSafe_29 ?_
      exact J_aret (pc := 41) (o := some q) h hr ⟨q, rfl, ap_set⟩ dX4_newSafe_41
  · subst c1
    refine J_new (pc := 5) (ci := 3) h [.int 0, .int 0, .int 0, .int 0, .int 0, .int 0] iX3 tyX3_ok m_82 m_83 m_6 rfl fs6_3 (by rw [e3]; decide) dX4_newSafe_5 (fun q => ?_)
    refine J_dup (pc := 8) h rfl dX4_newSafe_8 ?_
    refine J_iconst (pc := 9) h (2) rfl dX4_newSafe_9 ?_
    refine J_iload_n (pc := 10) (n := 1) (i := 1) h 1 rfl rfl dX4_newSafe_10 ?_
    refine J_callI (pc := 11) h (c_X3_init3 _ _ _ ws.length q 2 c ap_at) m_84 m_85 m_6 m_86 rfl hd_X3_init (by rw [e3]; decide) (by rw [e3]; decide) rfl rfl (Nat.le_of_ble_eq_true rfl) dX4_newSafe_11 ?_
    rintro r w ⟨rfl, rfl⟩
    exact J_aret (pc := 14) (o := some q) h hr ⟨q, rfl, ap_set⟩ dX4_newSafe_14
theorem wC_grow {g : Gy} {ad : Nat → Nat} {n q : Nat} {σ : Sg} {r : Nat → Int32} {e : va_E} (hN : 28 ≤ n) (hI : RI n σ) (he : e = .inr (kcl (r 0), [.int (r 0), .int (r 1), .int (r 2), .int (r 3), .int (r 4), .int (r 5)])) : wC g ad n σ ++ [(q, e)] = wC g (va_up ad n q) (n + 1) (va_up σ n r) := by
  subst he
  have hup : ∀ k, k ≠ n → va_up ad n q k = ad k := fun k hk => if_neg hk
  unfold wC wd
  rw [List.range_succ, List.map_append, List.map_cons, List.map_nil]
  congr 1
  · apply List.map_congr_left
    intro k hk
    have hk := List.mem_range.mp hk
    have ek : va_up ad n q k = ad k := hup k (by omega)
    have es : va_up σ n r k = σ k := if_neg (by omega)
    rw [ek, es]
    congr 1
    unfold cD
    by_cases k0 : k = 0
    · rw [if_pos k0, if_pos k0, hup 1 (by omega), hup 2 (by omega), hup 3 (by omega)]
    rw [if_neg k0, if_neg k0]
    by_cases k1 : k = 1
    · rw [if_pos k1, if_pos k1]
      subst k1
      congr 7
      funext i
      by_cases hi : i < 8
      · rw [if_pos hi, if_pos hi]
        unfold rfa
        by_cases c : σ 1 i = -1
        · rw [if_pos c, if_pos c]
        · rw [if_neg c, if_neg c, hup _ (by have := (hI i hi).resolve_left c; omega)]
      · rw [if_neg hi, if_neg hi]
    rw [if_neg k1, if_neg k1]
    by_cases k2 : k = 2
    · rw [if_pos k2, if_pos k2]
      congr 7
      funext i
      by_cases hi : i < 6
      · rw [if_pos hi, if_pos hi, hup _ (by omega)]
      · rw [if_neg hi, if_neg hi]
    rw [if_neg k2, if_neg k2]
    by_cases k3 : k = 3
    · rw [if_pos k3, if_pos k3]
    rw [if_neg k3, if_neg k3]
    by_cases k4 : k < 10
    · rw [if_pos k4, if_pos k4, hup _ (by omega), hup _ (by omega), hup _ (by omega)]
    rw [if_neg k4, if_neg k4]
  · rw [cD_s _ _ hN]
    simp [va_up]

set_option maxHeartbeats 4000000 in
set_option maxRecDepth 20000 in
theorem c_X4_safe (l : Launch) (g : Gy) (ad : Nat → Nat) (ns : Nat) (σ : Sg) (a kd c : Int32) (hns : ns < 2147483648) (hI : RI (28 + ns) σ) (hz : ∀ f, f < 6 → σ (28 + ns) f = 0) : Con l g yX4_safe cX4_safe 4 (some .int) (rmA 5 1 6) [.ref (ad 0), .int a, .int kd, .int c] (wC g ad (28 + ns) σ) (fun r ws' => (f_X4_sok a kd c = 0 ∧ r = some (.int (-1)) ∧ ws' = wC g ad (28 + ns) σ) ∨ (¬ f_X4_sok a kd c = 0 ∧ r = some (.int 1) ∧ ∃ q, ws' = wC g (va_up ad (28 + ns) q) (28 + ns + 1) (f_X4_safe ns a kd c σ))) := by
  refine Con.of (by decide) (Nat.le_of_ble_eq_true rfl) ?_
  intro x h e1 e2 e3 e4 e5 hr
  subst e1 e2
  have h : Ok x cX4_safe "SafeDesk" (some .int) := h
  have hR : RmOk x 5 0 0 := RmOk.of e3 (Nat.zero_le _) (Nat.zero_le _)
  have bad : f_X4_sok a kd c = 0 → J x 0 0 (wC (xG x) ad (28 + ns) σ) 26 [(0, .ref (ad 0)), (1, .int a), (2, .int kd), (3, .int c)] [] := by
    intro ho
    refine J_widen (c2 := 1) (s2 := 6) (by decide) (by decide) ?_
    refine J_iconst (pc := 26) h (-1) rfl dX4_safe_26 ?_
    exact J_iret (pc := 27) h hr (Or.inl ⟨ho, rfl, rfl⟩) dX4_safe_27
  show J x 0 0 _ 0 [(0, .ref (ad 0)), (1, .int a), (2, .int kd), (3, .int c)] []
  unfold f_X4_sok at bad
  refine J_iload_n (pc := 0) (n := 1) (i := 1) h 1 rfl rfl dX4_safe_0 ?_
  refine J_cS (pc := 1) h hR (by decide) (c_X4_isRoom _ _ _ a) (by decide) m_75 m_76 m_1 m_77 hd_X4_isRoom rfl rfl (Nat.le_of_ble_eq_true rfl) [.int (f_X4_isRoom a)] rfl dX4_safe_1 ?_
  refine J_if_eq (pc := 4) h 26 (by decide) dX4_safe_4 (fun c1 => ?_) (fun c1 => ?_)
  · exact bad (if_pos c1)
  rw [if_neg c1] at bad
  refine J_iload_n (pc := 7) (n := 2) (i := 2) h 2 rfl rfl dX4_safe_7 ?_
  refine J_if_lt (pc := 8) h 26 (by decide) dX4_safe_8 (fun c2 => ?_) (fun c2 => ?_)
  · exact bad (if_pos c2)
  rw [if_neg c2] at bad
  refine J_iload_n (pc := 11) (n := 2) (i := 2) h 2 rfl rfl dX4_safe_11 ?_
  refine J_iconst (pc := 12) h (2) rfl dX4_safe_12 ?_
  refine J_icmp_gt (pc := 13) h 26 (by decide) dX4_safe_13 (fun c3 => ?_) (fun c3 => ?_)
  · exact bad (if_pos c3)
  rw [if_neg c3] at bad
  refine J_iload_n (pc := 16) (n := 3) (i := 3) h 3 rfl rfl dX4_safe_16 ?_
  refine J_if_lt (pc := 17) h 26 (by decide) dX4_safe_17 (fun c4 => ?_) (fun c4 => ?_)
  · exact bad (if_pos c4)
  rw [if_neg c4] at bad
  refine J_iload_n (pc := 20) (n := 3) (i := 3) h 3 rfl rfl dX4_safe_20 ?_
  refine J_ldc (pc := 21) h m_78 dX4_safe_21 ?_
  refine J_icmp_le (pc := 23) h 28 (by decide) dX4_safe_23 (fun c5 => ?_) (fun c5 => bad (if_pos (by rw [i_lt]; rw [i_le] at c5; omega)))
  have c5' : ¬ 1000000 < c := by rw [i_lt]; rw [i_le] at c5; omega
  have hok : ¬ f_X4_sok a kd c = 0 := by
    unfold f_X4_sok
    rw [if_neg c1, if_neg c2, if_neg c3, if_neg c4, if_neg c5']
    decide
  obtain ⟨-, hv, hk⟩ := safe_yes σ hok
  refine J_aload_n (pc := 28) (n := 0) (i := 0) h 0 rfl rfl dX4_safe_28 ?_
  refine J_Dr0 (pc := 29) h (by omega) m_43 dX4_safe_29 ?_
  refine J_iload_n (pc := 32) (n := 1) (i := 1) h 1 rfl rfl dX4_safe_32 ?_
  refine J_iload_n (pc := 33) (n := 2) (i := 2) h 2 rfl rfl dX4_safe_33 ?_
  refine J_iload_n (pc := 34) (n := 3) (i := 3) h 3 rfl rfl dX4_safe_34 ?_
  refine J_callS (pc := 35) h (c_X4_newSafe _ _ _ kd c hk) m_79 m_80 m_1 m_81 hd_X4_newSafe (by rw [e3]; decide) (by rw [e3]; decide) rfl (rest := [.int a, .ref (ad 1)]) rfl (Nat.le_of_ble_eq_true rfl) dX4_safe_35 ?_
  rintro r w ⟨q, rfl, rfl⟩
  refine J_eqw (wC_grow (r := up2 (up2 σ (28 + ns) 0 kd) (28 + ns) 1 c (28 + ns)) (by omega) hI ?_) ?_
  · simp only [up2_eq]
    simp [hz]
  have eσ : va_up σ (28 + ns) (up2 (up2 σ (28 + ns) 0 kd) (28 + ns) 1 c (28 + ns)) = up2 (up2 σ (28 + ns) 0 kd) (28 + ns) 1 c := by
    funext k i
    by_cases ck : k = 28 + ns
    · subst ck; simp [va_up]
    · rw [row_off ck, row_off ck]; simp [va_up, ck]
  rw [eσ]
  have hc : (nI ns).toNatClampNeg = ns := nI_clamp hns
  have eq1 : rfa (va_up ad (28 + ns) q) (nI ns) = some q := by
    rw [rfa_ne (by intro z; have := congrArg Int32.toInt z; rw [nI_toInt hns] at this; rw [show (-1 : Int32).toInt = -1 from rfl] at this; omega), hc]
    simp [va_up]
  have eq2 : ad 1 = va_up ad (28 + ns) q 1 := by
    unfold va_up
    rw [if_neg (by omega)]
  show J x _ _ _ 38 _ [va_rf (some q), .int a, .ref (ad 1)]
  rw [← eq1, eq2]
  refine J_Rs (pc := 38) h (by omega) hv (Or.inr (by rw [hc]; omega)) dX4_safe_38 ?_
  refine J_iconst (pc := 39) h (1) rfl dX4_safe_39 ?_
  exact J_iret (pc := 40) h hr (Or.inr ⟨hok, rfl, q, rfl⟩) dX4_safe_40
