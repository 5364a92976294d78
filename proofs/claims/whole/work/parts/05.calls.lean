section JC
variable {x : Cx} {cc : ByteArray} {own : String} {ret : Option FieldType} {cells slots pc : Nat} {ws : va_W} {lv : List (Nat × Value)} {st rest : List Value}
theorem J_go (h : Ok x cc own ret) {Po : Option Value → va_W → Prop} {mc ms : Nat} {arr : Array Value}
    (hr : ∀ (H : Heap) (locs : List Loc) (ls : Array Slot), va_P (xG x).1 clL ws H → va_D (xA x) ws → lv_has ls (xN x) lv → va_Run (xP x) (xL x) (xE x) (xR x) (xS x) (xM x) (xU x) (xB x) (xT x) (xC x) H locs cells slots mc ms (F0 (xM x) pc ls st) rest (CQ (xG x) ws Po H.size arr) (va_A ws H.size))
    (k : ∀ (r : Option Value) (ws' : va_W), Po r ws' → J x (cells + mc) (slots + ms) ws' (pc + 3) lv (r.toList ++ rest)) : J x cells slots ws pc lv st := by
  intro H locs ls hP hD hS hl T hT X
  obtain ⟨v, s0, t, T', L, h0, X', hL, e1, e2, ⟨r, ws', hv, hp, hP1, hD1, hz, hk⟩, go⟩ := hr H locs ls hP hD hl T hT X
  cases hv
  rw [h0] at hz hk
  have hA : ∀ q, va_A ws H.size q → xA x q := by
    rintro q (⟨i, e, hi⟩ | hi)
    · exact hD.2 i _ hi
    · exact h.2.2.2.2.2.2.2.2 q (Nat.le_trans hS.1 hi)
  obtain ⟨t2, a1, b1⟩ := k v ws' hp T'.heap (locs ++ L) ls (by rw [e1]; exact hP1) (hD1.weaken (fun _ q _ hq => hA _ hq))
    ⟨Nat.le_trans hS.1 (by rw [e1]; exact hz), fun q h1 h2 => by rw [e1, hk q (Nat.lt_of_lt_of_le h1 hS.1) (fun z => h2 (hA q z))]; exact hS.2.1 q h1 h2, fun q hq => by
      rcases List.mem_append.mp hq with hq | hq
      · exact hS.2.2 q hq
      · exact hA _ (hL q hq)⟩ hl T' rfl X'
  exact ⟨t2, go t2 a1, b1⟩
theorem Con.blind {g : Gy} {As : List Value} {ws : va_W} {sz : Nat} : FrameBlind (va_Pc As (fun U => U.heap.size = sz ∧ va_P g.1 clL ws U.heap ∧ Wk g U ∧ va_D (fun _ => True) ws)) := by
  intro a U gg mk q
  obtain ⟨q0, q1, qP, qK, qD⟩ := q
  exact ⟨q0, q1, qP, Wk.same (u := U) rfl qK, qD⟩
theorem Con.pre {g : Gy} {As : List Value} {ws : va_W} {s : State} {H : Heap} {A : Nat → Prop} (hK : Wk g s) (hP : va_P g.1 clL ws H) (hD : va_D A ws) : ∀ U : State, U.heap = H → s.WarmedH U.vm → va_Pc As (fun U => U.heap.size = H.size ∧ va_P g.1 clL ws U.heap ∧ Wk g U ∧ va_D (fun _ => True) ws) As.toArray U :=
  fun U hU hW => ⟨rfl, by rw [hU], by rw [hU]; exact hP, Wk.moved hW hK, hD.weaken (fun _ _ _ _ => trivial)⟩
variable {y z : MethodName} {cb : ByteArray} {nb index b q0 ci n : Nat} {rb : Option FieldType} {rm : Room} {As : List Value} {Po : Option Value → va_W → Prop} {C : String} {fs : List Value} {q : vw_C}
/-- a method of the receiver's own class -/
theorem J_callV (h : Ok x cc own ret) (hc : Con (xL x) (xG x) y cb nb rb rm (.ref b :: As) ws Po) (h1 : Cond.methodLink own index y ∈ gd_tbl) (h2 : Cond.instanceMethod y ∈ gd_tbl) (h3 : Cond.selects C y y ∈ gd_tbl) (h4 : Cond.initialized C ∈ gd_tbl) (h5 : Cond.code y cb nb rb ∈ gd_tbl)
    (hd : y.cls = C ∧ y.cls ≠ "java/lang/invoke/MethodHandle" ∧ y.cls ≠ "java/lang/invoke/VarHandle" ∧ (parseMethodDescriptor y.desc).map (fun d => d.parameters.length) = some n) (hR : rm.frames + 1 ≤ (xR x).frames ∧ 8 + (nb + 11) + rm.locals ≤ (xR x).locals) (hf : cells + rm.cells ≤ (xR x).cells ∧ slots + rm.slots ≤ (xR x).slots)
    (he : ws[q0]? = some (b, .inr (ci, fs))) (hci : clL[ci]? = some q) (hq : q.1 = C) (hn : As.length = n) (hst : st = As.reverse ++ .ref b :: rest) (hro : (rest.map fun v => v.category).sum ≤ 8) (d : decode cc pc = .ok (.invokevirtual index, 3))
    (k : ∀ (r : Option Value) (ws' : va_W), Po r ws' → J x (cells + rm.cells) (slots + rm.slots) ws' (pc + 3) lv (r.toList ++ rest)) : J x cells slots ws pc lv st := by
  refine J_go (arr := (Value.ref b :: As).toArray) h (fun H locs ls hP hD hl => ?_) k
  exact va_runV (C := C) (n := n) ⟨h.1, h.2.1, h.2.2.2.1, h.2.2.2.2.1, h.2.2.2.2.2.1⟩ (hc H.size) (cwV (ws' := gd_tbl) n h.2.2.2.2.2.1 (gd_app (by intro w hw; simp at hw; rcases hw with rfl | rfl | rfl | rfl <;> assumption) (gd_call h5)) rfl rfl rfl hd hR) ⟨Con.blind, by rw [← hq]; exact va_recv h.K hP hci he, Con.pre h.2.2.2.2.2.2.1 hP hD⟩ rfl hn hl.1 hst (lv_room hro) d hf
/-- a static method -/
theorem J_callS (h : Ok x cc own ret) (hc : Con (xL x) (xG x) y cb nb rb rm As ws Po) (h1 : Cond.methodLink own index y ∈ gd_tbl) (h2 : Cond.static y ∈ gd_tbl) (h4 : Cond.initialized y.cls ∈ gd_tbl) (h5 : Cond.code y cb nb rb ∈ gd_tbl)
    (hd : y.cls ≠ "java/lang/invoke/MethodHandle" ∧ y.cls ≠ "java/lang/invoke/VarHandle" ∧ (parseMethodDescriptor y.desc).map (fun d => d.parameters.length) = some n) (hR : rm.frames + 1 ≤ (xR x).frames ∧ 8 + (nb + 11) + rm.locals ≤ (xR x).locals) (hf : cells + rm.cells ≤ (xR x).cells ∧ slots + rm.slots ≤ (xR x).slots)
    (hn : As.length = n) (hst : st = As.reverse ++ rest) (hro : (rest.map fun v => v.category).sum ≤ 8) (d : decode cc pc = .ok (.invokestatic index, 3))
    (k : ∀ (r : Option Value) (ws' : va_W), Po r ws' → J x (cells + rm.cells) (slots + rm.slots) ws' (pc + 3) lv (r.toList ++ rest)) : J x cells slots ws pc lv st := by
  refine J_go (arr := As.toArray) h (fun H locs ls hP hD hl => ?_) k
  exact va_runS (n := n) ⟨h.1, h.2.1, h.2.2.2.1, h.2.2.2.2.1, h.2.2.2.2.2.1⟩ (hc H.size) (va_cwS (ws' := gd_tbl) n h.2.2.2.2.2.1 (gd_app (by intro w hw; simp at hw; rcases hw with rfl | rfl | rfl <;> assumption) (gd_call h5)) rfl rfl rfl hd hR) ⟨Con.blind, Con.pre h.2.2.2.2.2.2.1 hP hD⟩ rfl hn hl.1 hst (lv_room hro) d hf
/-- a method that the receiver's class inherits: named z, found y -/
theorem J_callU (h : Ok x cc own ret) {owner : String} (hc : Con (xL x) (xG x) y cb nb rb rm (.ref b :: As) ws Po) (h1 : Cond.methodLink own index z ∈ gd_tbl) (h2 : Cond.sameMethod z.cls owner z.name z.desc ∈ gd_tbl) (h3 : Cond.selects C z y ∈ gd_tbl) (h6 : Cond.instanceMethod y ∈ gd_tbl) (h4 : Cond.initialized y.cls ∈ gd_tbl) (h5 : Cond.code y cb nb rb ∈ gd_tbl)
    (hyx : y = ⟨owner, z.name, z.desc⟩) (hd : owner ≠ "java/lang/invoke/MethodHandle" ∧ owner ≠ "java/lang/invoke/VarHandle" ∧ (parseMethodDescriptor z.desc).map (fun d => d.parameters.length) = some n) (hR : rm.frames + 1 ≤ (xR x).frames ∧ 8 + (nb + 11) + rm.locals ≤ (xR x).locals) (hf : cells + rm.cells ≤ (xR x).cells ∧ slots + rm.slots ≤ (xR x).slots)
    (he : ws[q0]? = some (b, .inr (ci, fs))) (hci : clL[ci]? = some q) (hq : q.1 = C) (hn : As.length = n) (hst : st = As.reverse ++ .ref b :: rest) (hro : (rest.map fun v => v.category).sum ≤ 8) (d : decode cc pc = .ok (.invokevirtual index, 3))
    (k : ∀ (r : Option Value) (ws' : va_W), Po r ws' → J x (cells + rm.cells) (slots + rm.slots) ws' (pc + 3) lv (r.toList ++ rest)) : J x cells slots ws pc lv st := by
  refine J_go (arr := (Value.ref b :: As).toArray) h (fun H locs ls hP hD hl => ?_) k
  exact va_runU (C := C) (n := n) ⟨h.1, h.2.1, h.2.2.2.1, h.2.2.2.2.1, h.2.2.2.2.2.1⟩ (hc H.size) (va_cwU (owner := owner) (ws' := gd_tbl) n h.2.2.2.2.2.1 (gd_app (by intro w hw; simp at hw; rcases hw with rfl | rfl | rfl | rfl | rfl <;> assumption) (gd_call h5)) rfl rfl rfl hyx hd hR) ⟨Con.blind, by rw [← hq]; exact va_recv h.K hP hci he, Con.pre h.2.2.2.2.2.2.1 hP hD⟩ rfl hn hl.1 hst (lv_room hro) d hf
/-- a method that the receiver's class overrides: named z, of which owner has code too; found y -/
theorem J_callO (h : Ok x cc own ret) {owner : String} {b0 : ByteArray} {m0 : Nat} {r0 : Option FieldType} (hc : Con (xL x) (xG x) y cb nb rb rm (.ref b :: As) ws Po) (h1 : Cond.methodLink own index z ∈ gd_tbl) (h2 : Cond.sameMethod z.cls owner z.name z.desc ∈ gd_tbl) (h7 : Cond.instanceMethod ⟨owner, z.name, z.desc⟩ ∈ gd_tbl) (h3 : Cond.selects C z y ∈ gd_tbl) (h6 : Cond.instanceMethod y ∈ gd_tbl) (h4 : Cond.initialized y.cls ∈ gd_tbl) (h5 : Cond.code y cb nb rb ∈ gd_tbl)
    (h0 : Cond.code ⟨owner, z.name, z.desc⟩ b0 m0 r0 ∈ gd_tbl) (hd : owner ≠ "java/lang/invoke/MethodHandle" ∧ owner ≠ "java/lang/invoke/VarHandle" ∧ (parseMethodDescriptor z.desc).map (fun d => d.parameters.length) = some n) (hR : rm.frames + 1 ≤ (xR x).frames ∧ 8 + (nb + 11) + rm.locals ≤ (xR x).locals) (hf : cells + rm.cells ≤ (xR x).cells ∧ slots + rm.slots ≤ (xR x).slots)
    (he : ws[q0]? = some (b, .inr (ci, fs))) (hci : clL[ci]? = some q) (hq : q.1 = C) (hn : As.length = n) (hst : st = As.reverse ++ .ref b :: rest) (hro : (rest.map fun v => v.category).sum ≤ 8) (d : decode cc pc = .ok (.invokevirtual index, 3))
    (k : ∀ (r : Option Value) (ws' : va_W), Po r ws' → J x (cells + rm.cells) (slots + rm.slots) ws' (pc + 3) lv (r.toList ++ rest)) : J x cells slots ws pc lv st := by
  refine J_go (arr := (Value.ref b :: As).toArray) h (fun H locs ls hP hD hl => ?_) k
  exact va_runU (C := C) (n := n) ⟨h.1, h.2.1, h.2.2.2.1, h.2.2.2.2.1, h.2.2.2.2.2.1⟩ (hc H.size) (va_cwO (owner := owner) (ws' := gd_tbl) n h.2.2.2.2.2.1 (gd_app (by intro w hw; simp at hw; rcases hw with rfl | rfl | rfl | rfl | rfl | rfl <;> assumption) (gd_call h5)) rfl rfl rfl h0 hd hR) ⟨Con.blind, by rw [← hq]; exact va_recv h.K hP hci he, Con.pre h.2.2.2.2.2.2.1 hP hD⟩ rfl hn hl.1 hst (lv_room hro) d hf
/-- a method of the class above -/
theorem J_callP (h : Ok x cc own ret) (hc : Con (xL x) (xG x) y cb nb rb rm (.ref b :: As) ws Po) (h1 : Cond.methodLink own index y ∈ gd_tbl) (h2 : Cond.sameMethod y.cls y.cls y.name y.desc ∈ gd_tbl) (h3 : Cond.superclass own y.cls ∈ gd_tbl) (h6 : Cond.instanceMethod y ∈ gd_tbl) (h4 : Cond.initialized y.cls ∈ gd_tbl) (h5 : Cond.code y cb nb rb ∈ gd_tbl)
    (hd : y.name ≠ "<init>" ∧ (parseMethodDescriptor y.desc).map (fun d => d.parameters.length) = some n) (hR : rm.frames + 1 ≤ (xR x).frames ∧ 8 + (nb + 11) + rm.locals ≤ (xR x).locals) (hf : cells + rm.cells ≤ (xR x).cells ∧ slots + rm.slots ≤ (xR x).slots)
    (he : ws[q0]? = some (b, .inr (ci, fs))) (hci : clL[ci]? = some q) (hn : As.length = n) (hst : st = As.reverse ++ .ref b :: rest) (hro : (rest.map fun v => v.category).sum ≤ 8) (d : decode cc pc = .ok (.invokespecial index, 3))
    (k : ∀ (r : Option Value) (ws' : va_W), Po r ws' → J x (cells + rm.cells) (slots + rm.slots) ws' (pc + 3) lv (r.toList ++ rest)) : J x cells slots ws pc lv st := by
  refine J_go (arr := (Value.ref b :: As).toArray) h (fun H locs ls hP hD hl => ?_) k
  exact va_runSU (C := q.1) (n := n) (h.K.1 ci q hci).2 ⟨h.1, h.2.1, h.2.2.2.1, h.2.2.2.2.1, h.2.2.2.2.2.1⟩ (hc H.size) (va_cwSU (ws' := gd_tbl) n h.2.2.2.2.2.1 (gd_app (by intro w hw; simp at hw; rcases hw with rfl | rfl | rfl | rfl | rfl <;> assumption) (gd_call h5)) rfl rfl rfl hd hR) ⟨Con.blind, va_recv h.K hP hci he, Con.pre h.2.2.2.2.2.2.1 hP hD⟩ rfl hn hl.1 hst (lv_room hro) d hf
/-- a constructor -/
theorem J_callI (h : Ok x cc own ret) (hc : Con (xL x) (xG x) y cb nb none rm (.ref b :: As) ws Po) (h1 : Cond.methodLink own index y ∈ gd_tbl) (h2 : Cond.instanceMethod y ∈ gd_tbl) (h4 : Cond.initialized y.cls ∈ gd_tbl) (h5 : Cond.code y cb nb none ∈ gd_tbl) (hy : y.name = "<init>")
    (hd : y.cls ≠ "java/lang/invoke/MethodHandle" ∧ y.cls ≠ "java/lang/invoke/VarHandle" ∧ (parseMethodDescriptor y.desc).map (fun d => d.parameters.length) = some n) (hR : rm.frames + 1 ≤ (xR x).frames ∧ 8 + (nb + 11) + rm.locals ≤ (xR x).locals) (hf : cells + rm.cells ≤ (xR x).cells ∧ slots + rm.slots ≤ (xR x).slots)
    (hn : As.length = n) (hst : st = As.reverse ++ .ref b :: rest) (hro : (rest.map fun v => v.category).sum ≤ 8) (d : decode cc pc = .ok (.invokespecial index, 3))
    (k : ∀ (r : Option Value) (ws' : va_W), Po r ws' → J x (cells + rm.cells) (slots + rm.slots) ws' (pc + 3) lv (r.toList ++ rest)) : J x cells slots ws pc lv st := by
  refine J_go (arr := (Value.ref b :: As).toArray) h (fun H locs ls hP hD hl => ?_) k
  exact va_runI (n := n) ⟨h.1, h.2.1, h.2.2.2.1, h.2.2.2.2.1, h.2.2.2.2.2.1⟩ (hc H.size) (cwI (ws' := gd_tbl) n h.2.2.2.2.2.1 (gd_call h5) rfl rfl rfl (h.w h4) (h.w h1) (h.w h2) hy hd hR) ⟨Con.blind, Con.pre h.2.2.2.2.2.2.1 hP hD⟩ rfl hn hl.1 hst (lv_room hro) d hf
/-- a nest mate's private constructor -/
theorem J_callN (h : Ok x cc own ret) {host : String} (hc : Con (xL x) (xG x) y cb nb none rm (.ref b :: As) ws Po) (h1 : va_Nw (.methodLinkNest own index y host) (xS x)) (h2 : Cond.instanceMethod y ∈ gd_tbl) (h4 : Cond.initialized y.cls ∈ gd_tbl) (h5 : Cond.code y cb nb none ∈ gd_tbl) (hy : y.name = "<init>")
    (hd : y.cls ≠ "java/lang/invoke/MethodHandle" ∧ y.cls ≠ "java/lang/invoke/VarHandle" ∧ (parseMethodDescriptor y.desc).map (fun d => d.parameters.length) = some n) (hR : rm.frames + 1 ≤ (xR x).frames ∧ 8 + (nb + 11) + rm.locals ≤ (xR x).locals) (hf : cells + rm.cells ≤ (xR x).cells ∧ slots + rm.slots ≤ (xR x).slots)
    (hn : As.length = n) (hst : st = As.reverse ++ .ref b :: rest) (hro : (rest.map fun v => v.category).sum ≤ 8) (d : decode cc pc = .ok (.invokespecial index, 3))
    (k : ∀ (r : Option Value) (ws' : va_W), Po r ws' → J x (cells + rm.cells) (slots + rm.slots) ws' (pc + 3) lv (r.toList ++ rest)) : J x cells slots ws pc lv st := by
  refine J_go (arr := (Value.ref b :: As).toArray) h (fun H locs ls hP hD hl => ?_) k
  exact va_runIN (n := n) ⟨h.1, h.2.1, h.2.2.2.1, h.2.2.2.2.1, h.2.2.2.2.2.1⟩ (hc H.size) ⟨va_cnB (host := host) (ws' := gd_tbl) n h.2.2.2.2.2.1 (gd_call h5) rfl rfl rfl h1 (h.w h4) hd hR, hy, h.w h2⟩ ⟨Con.blind, Con.pre h.2.2.2.2.2.2.1 hP hD⟩ rfl hn hl.1 hst (lv_room hro) d hf
theorem J_obj (h : Ok x cc own ret) {a : Nat} (h1 : Cond.methodLink own index Lib.objectInit ∈ gd_tbl) (hf : 1 ≤ (xR x).frames) (hlo : (st.map fun v => v.category).sum + 12 ≤ (xR x).locals) (d : decode cc pc = .ok (.invokespecial index, 3)) (k : J x cells slots ws (pc + 3) lv st) : J x cells slots ws pc lv (.ref a :: st) := by
  intro H locs ls hP hD hS hl
  refine W.objInit h.1 h.2.1 h.2.2.2.2.1 (h.w h1) (h.w m_14) (h.w m_15) rfl (by rw [h.2.2.2.1]; exact hl.1) rfl d hf (by show 2 * 0 + _ + 12 ≤ _; omega) ?_
  exact k H locs ls hP hD hS hl
end JC
