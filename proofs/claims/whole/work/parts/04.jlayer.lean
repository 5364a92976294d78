/-- what is fixed of the classes: the worlds' class numbers, and the three array classes -/
abbrev Gy : Type := va_G × ClassId × ClassId × ClassId
abbrev tyL (g : Gy) : List (ClassId × FieldType) := [(g.2.1, .int), (g.2.2.1, .object "SafeDesk$Safe"), (g.2.2.2, .object "SafeDesk$Plan")]
abbrev clL : List vw_C := [(RX0, TX0, 4), (RX1, TX1, 6), (RX2, TX2, 6), (RX3, TX3, 6), (RX4, TX4, 9), (RX5, TX5, 26)]
def NX (U : State) : Prop := va_AO "SafeDesk$Safe" U ∧ va_AO "SafeDesk$Plan" U ∧ va_Nw (.methodLinkNest RX4 25 yX0_init RX4) U ∧ va_Nw (.castable RX2 RX1) U ∧ va_Nw (.castable RX3 RX1) U
def Wk (g : Gy) (U : State) : Prop := va_K g.1 clL (tyL g) U ∧ NX U
theorem Wk.moved {g : Gy} {s U : State} (hW : s.WarmedH U.vm) (h : Wk g s) : Wk g U := ⟨va_K.moved hW.alike h.1, va_AO.moved hW.alike h.2.1, va_AO.moved hW.alike h.2.2.1, va_Nw.warmM hW h.2.2.2.1, va_Nw.warmC hW h.2.2.2.2.1, va_Nw.warmC hW h.2.2.2.2.2⟩
theorem Wk.same {g : Gy} {u U : State} (hv : u.vm = U.vm) (h : Wk g u) : Wk g U := ⟨va_K.moved (by rw [← hv]; exact Vm.Alike.refl _) h.1, va_AO.moved (by rw [← hv]; exact Vm.Alike.refl _) h.2.1, va_AO.moved (by rw [← hv]; exact Vm.Alike.refl _) h.2.2.1, va_Nw.same rfl hv h.2.2.2.1, va_Nw.same rfl hv h.2.2.2.2.1, va_Nw.same rfl hv h.2.2.2.2.2⟩
/-- what is fixed while a method's body runs -/
abbrev Cx := Program × Launch × Env × Room × State × MethodId × Array Value × List Frame × Method × Code × Gy × (Nat → Prop) × (State → Prop) × Nat
abbrev xP (x : Cx) : Program := x.1
abbrev xL (x : Cx) : Launch := x.2.1
abbrev xE (x : Cx) : Env := x.2.2.1
abbrev xR (x : Cx) : Room := x.2.2.2.1
abbrev xS (x : Cx) : State := x.2.2.2.2.1
abbrev xM (x : Cx) : MethodId := x.2.2.2.2.2.1
abbrev xU (x : Cx) : Array Value := x.2.2.2.2.2.2.1
abbrev xB (x : Cx) : List Frame := x.2.2.2.2.2.2.2.1
abbrev xT (x : Cx) : Method := x.2.2.2.2.2.2.2.2.1
abbrev xC (x : Cx) : Code := x.2.2.2.2.2.2.2.2.2.1
abbrev xG (x : Cx) : Gy := x.2.2.2.2.2.2.2.2.2.2.1
abbrev xA (x : Cx) : Nat → Prop := x.2.2.2.2.2.2.2.2.2.2.2.1
abbrev xQ (x : Cx) : State → Prop := x.2.2.2.2.2.2.2.2.2.2.2.2.1
abbrev xN (x : Cx) : Nat := x.2.2.2.2.2.2.2.2.2.2.2.2.2
/-- from every heap that holds the world ws, with locals lv and operands st, the machine at pc comes to its end -/
def J (x : Cx) (cells slots : Nat) (ws : va_W) (pc : Nat) (lv : List (Nat × Value)) (st : List Value) : Prop :=
  ∀ (H : Heap) (locs : List Loc) (ls : Array Slot), va_P (xG x).1 clL ws H → va_D (xA x) ws → va_S (xA x) (xS x).heap H locs → lv_has ls (xN x) lv →
    W (xP x) (xL x) (xE x) (xR x) (xS x) (xM x) (xU x) (xB x) (xT x) (xC x) H locs cells slots (xQ x) (F0 (xM x) pc ls st)
def Ok (x : Cx) (cc : ByteArray) (own : String) (ret : Option FieldType) : Prop :=
  (xP x).tables.exec = Jvm.exec ∧ (xC x).code = cc ∧ (xT x).sig.returnType = ret ∧ (xC x).maxLocals = xN x ∧ (xS x).vm.findClass own = some (xM x).cls ∧ (∀ w ∈ gd_tbl, w.before (xU x) (xS x) = true) ∧ Wk (xG x) (xS x) ∧ (xT x).locks = false ∧ (∀ q, (xS x).heap.size ≤ q → xA x q)
theorem Ok.w {x : Cx} {cc : ByteArray} {own : String} {ret : Option FieldType} (h : Ok x cc own ret) {w : Cond} (hw : w ∈ gd_tbl) : w.before (xU x) (xS x) = true := h.2.2.2.2.2.1 w hw
theorem Ok.K {x : Cx} {cc : ByteArray} {own : String} {ret : Option FieldType} (h : Ok x cc own ret) : va_K (xG x).1 clL (tyL (xG x)) (xS x) := h.2.2.2.2.2.2.1.1
/-- the method's end: what a return owes -/
def Rt (x : Cx) (mc ms : Nat) (Po : Option Value → va_W → Prop) : Prop :=
  ∃ Qc : Array Value → State → Outcome → State → Prop, xQ x = MQ (xB x) Qc (xU x) (xS x) mc ms (xA x) ∧
    ∀ (r : Option Value) (ws : va_W) (H : Heap) (locs : List Loc) (t : State), Po r ws → va_P (xG x).1 clL ws H → va_D (xA x) ws → va_S (xA x) (xS x).heap H locs → t.heap = H → Qc (xU x) (xS x) (.returned r) t
section JL
variable {x : Cx} {cc : ByteArray} {own : String} {ret : Option FieldType} {cells slots pc : Nat} {ws : va_W} {lv : List (Nat × Value)} {st : List Value}
theorem J_iconst (h : Ok x cc own ret) {n : Int} (v : Int32) (hv : Int32.ofInt n = v) (d : decode cc pc = .ok (.iconst n, 1)) (k : J x cells slots ws (pc + 1) lv (.int v :: st)) : J x cells slots ws pc lv (st) := fun H locs ls hP hD hS hl => lv_iconst h.1 h.2.1 d hv (k H locs ls hP hD hS hl)
theorem J_bipush (h : Ok x cc own ret) {n : Int} (v : Int32) (hv : (Int8.ofInt n).toInt32 = v) (d : decode cc pc = .ok (.bipush n, 2)) (k : J x cells slots ws (pc + 2) lv (.int v :: st)) : J x cells slots ws pc lv (st) := fun H locs ls hP hD hS hl => lv_bipush h.1 h.2.1 d hv (k H locs ls hP hD hS hl)
theorem J_sipush (h : Ok x cc own ret) {n : Int} (v : Int32) (hv : (Int16.ofInt n).toInt32 = v) (d : decode cc pc = .ok (.sipush n, 3)) (k : J x cells slots ws (pc + 3) lv (.int v :: st)) : J x cells slots ws pc lv (st) := fun H locs ls hP hD hS hl => lv_sipush h.1 h.2.1 d hv (k H locs ls hP hD hS hl)
theorem J_lconst (h : Ok x cc own ret) {n : Fin 2} (v : Int64) (hv : Int64.ofNat (n : Nat) = v) (d : decode cc pc = .ok (.lconst n, 1)) (k : J x cells slots ws (pc + 1) lv (.long v :: st)) : J x cells slots ws pc lv (st) := fun H locs ls hP hD hS hl => lv_lconst h.1 h.2.1 d hv (k H locs ls hP hD hS hl)
theorem J_iload_n (h : Ok x cc own ret) {n : Fin 4} (k0 : Nat) {i : Nat} {v : Int32} (hi : (n : Nat) = i) (hk : lv[k0]? = some (i, .int v)) (d : decode cc pc = .ok (.iload_n n, 1)) (k : J x cells slots ws (pc + 1) lv (.int v :: st)) : J x cells slots ws pc lv (st) := fun H locs ls hP hD hS hl => lv_iload_n h.1 h.2.1 d hi (lv_at hl k0 hk) (k H locs ls hP hD hS hl)
theorem J_iload (h : Ok x cc own ret) (k0 : Nat) {i : Nat} {v : Int32} (hk : lv[k0]? = some (i, .int v)) (d : decode cc pc = .ok (.iload i, 2)) (k : J x cells slots ws (pc + 2) lv (.int v :: st)) : J x cells slots ws pc lv (st) := fun H locs ls hP hD hS hl => lv_iload h.1 h.2.1 d (lv_at hl k0 hk) (k H locs ls hP hD hS hl)
theorem J_lload_n (h : Ok x cc own ret) {n : Fin 4} (k0 : Nat) {i : Nat} {v : Int64} (hi : (n : Nat) = i) (hk : lv[k0]? = some (i, .long v)) (d : decode cc pc = .ok (.lload_n n, 1)) (k : J x cells slots ws (pc + 1) lv (.long v :: st)) : J x cells slots ws pc lv (st) := fun H locs ls hP hD hS hl => lv_lload_n h.1 h.2.1 d hi (lv_at hl k0 hk) (k H locs ls hP hD hS hl)
theorem J_aload_n (h : Ok x cc own ret) {n : Fin 4} (k0 : Nat) {i : Nat} {v : Nat} (hi : (n : Nat) = i) (hk : lv[k0]? = some (i, .ref v)) (d : decode cc pc = .ok (.aload_n n, 1)) (k : J x cells slots ws (pc + 1) lv (.ref v :: st)) : J x cells slots ws pc lv (st) := fun H locs ls hP hD hS hl => lv_aload_n h.1 h.2.1 d hi (lv_at hl k0 hk) (k H locs ls hP hD hS hl)
theorem J_aload (h : Ok x cc own ret) (k0 : Nat) {i : Nat} {v : Nat} (hk : lv[k0]? = some (i, .ref v)) (d : decode cc pc = .ok (.aload i, 2)) (k : J x cells slots ws (pc + 2) lv (.ref v :: st)) : J x cells slots ws pc lv (st) := fun H locs ls hP hD hS hl => lv_aload h.1 h.2.1 d (lv_at hl k0 hk) (k H locs ls hP hD hS hl)
theorem J_aload_nq (h : Ok x cc own ret) {n : Fin 4} (k0 : Nat) {i : Nat} {o : Option Nat} (hi : (n : Nat) = i) (hk : lv[k0]? = some (i, va_rf o)) (d : decode cc pc = .ok (.aload_n n, 1)) (k : J x cells slots ws (pc + 1) lv (va_rf o :: st)) : J x cells slots ws pc lv st := by
  intro H locs ls hP hD hS hl
  cases o with
  | none => exact lv_aload_nN h.1 h.2.1 d hi (lv_at hl k0 hk) (k H locs ls hP hD hS hl)
  | some v => exact lv_aload_n h.1 h.2.1 d hi (lv_at hl k0 hk) (k H locs ls hP hD hS hl)
theorem J_aloadq (h : Ok x cc own ret) (k0 : Nat) {i : Nat} {o : Option Nat} (hk : lv[k0]? = some (i, va_rf o)) (d : decode cc pc = .ok (.aload i, 2)) (k : J x cells slots ws (pc + 2) lv (va_rf o :: st)) : J x cells slots ws pc lv st := by
  intro H locs ls hP hD hS hl
  cases o with
  | none => exact lv_aloadN h.1 h.2.1 d (lv_at hl k0 hk) (k H locs ls hP hD hS hl)
  | some v => exact lv_aload h.1 h.2.1 d (lv_at hl k0 hk) (k H locs ls hP hD hS hl)
theorem J_istore_n (h : Ok x cc own ret) {n : Fin 4} {i : Nat} {v : Int32} (lv' : List (Nat × Value)) (hi : (n : Nat) = i) (hn : i < xN x) (hl' : (i, Value.int v) :: lv.filter (fun q => !(q.1 == i) && !(q.1 + 1 == i && q.2.category == 2)) = lv') (d : decode cc pc = .ok (.istore_n n, 1)) (k : J x cells slots ws (pc + 1) lv' st) : J x cells slots ws pc lv (.int v :: st) := fun H locs ls hP hD hS hl => lv_istore_n h.1 h.2.1 d hi hl hn hl' (fun ls' h' => k H locs ls' hP hD hS h')
theorem J_istore (h : Ok x cc own ret) {i : Nat} {v : Int32} (lv' : List (Nat × Value)) (hn : i < xN x) (hl' : (i, Value.int v) :: lv.filter (fun q => !(q.1 == i) && !(q.1 + 1 == i && q.2.category == 2)) = lv') (d : decode cc pc = .ok (.istore i, 2)) (k : J x cells slots ws (pc + 2) lv' st) : J x cells slots ws pc lv (.int v :: st) := fun H locs ls hP hD hS hl => lv_istore h.1 h.2.1 d hl hn hl' (fun ls' h' => k H locs ls' hP hD hS h')
theorem J_lstore_n (h : Ok x cc own ret) {n : Fin 4} {i : Nat} {v : Int64} (lv' : List (Nat × Value)) (hi : (n : Nat) = i) (hn : i + 1 < xN x) (hl' : (i, Value.long v) :: lv.filter (fun q => !(q.1 == i) && (!(q.1 == i + 1) && !(q.1 + 1 == i && q.2.category == 2))) = lv') (d : decode cc pc = .ok (.lstore_n n, 1)) (k : J x cells slots ws (pc + 1) lv' st) : J x cells slots ws pc lv (.long v :: st) := fun H locs ls hP hD hS hl => lv_lstore_n h.1 h.2.1 d hi hl hn hl' (fun ls' h' => k H locs ls' hP hD hS h')
theorem J_astore_nq (h : Ok x cc own ret) {n : Fin 4} {i : Nat} {o : Option Nat} (lv' : List (Nat × Value)) (hi : (n : Nat) = i) (hn : i < xN x) (hl' : (i, va_rf o) :: lv.filter (fun q => !(q.1 == i) && !(q.1 + 1 == i && q.2.category == 2)) = lv') (d : decode cc pc = .ok (.astore_n n, 1)) (k : J x cells slots ws (pc + 1) lv' st) : J x cells slots ws pc lv (va_rf o :: st) := by
  intro H locs ls hP hD hS hl
  cases o with
  | none => exact lv_astore_nN h.1 h.2.1 d hi hl hn hl' (fun ls' h' => k H locs ls' hP hD hS h')
  | some v => exact lv_astore_n h.1 h.2.1 d hi hl hn hl' (fun ls' h' => k H locs ls' hP hD hS h')
theorem J_astoreq (h : Ok x cc own ret) {i : Nat} {o : Option Nat} (lv' : List (Nat × Value)) (hn : i < xN x) (hl' : (i, va_rf o) :: lv.filter (fun q => !(q.1 == i) && !(q.1 + 1 == i && q.2.category == 2)) = lv') (d : decode cc pc = .ok (.astore i, 2)) (k : J x cells slots ws (pc + 2) lv' st) : J x cells slots ws pc lv (va_rf o :: st) := by
  intro H locs ls hP hD hS hl
  cases o with
  | none => exact lv_astoreN h.1 h.2.1 d hl hn hl' (fun ls' h' => k H locs ls' hP hD hS h')
  | some v => exact lv_astore h.1 h.2.1 d hl hn hl' (fun ls' h' => k H locs ls' hP hD hS h')
theorem J_astore_n (h : Ok x cc own ret) {n : Fin 4} {i : Nat} {v : Nat} (lv' : List (Nat × Value)) (hi : (n : Nat) = i) (hn : i < xN x) (hl' : (i, Value.ref v) :: lv.filter (fun q => !(q.1 == i) && !(q.1 + 1 == i && q.2.category == 2)) = lv') (d : decode cc pc = .ok (.astore_n n, 1)) (k : J x cells slots ws (pc + 1) lv' st) : J x cells slots ws pc lv (.ref v :: st) := fun H locs ls hP hD hS hl => lv_astore_n h.1 h.2.1 d hi hl hn hl' (fun ls' h' => k H locs ls' hP hD hS h')
theorem J_astore (h : Ok x cc own ret) {i : Nat} {v : Nat} (lv' : List (Nat × Value)) (hn : i < xN x) (hl' : (i, Value.ref v) :: lv.filter (fun q => !(q.1 == i) && !(q.1 + 1 == i && q.2.category == 2)) = lv') (d : decode cc pc = .ok (.astore i, 2)) (k : J x cells slots ws (pc + 2) lv' st) : J x cells slots ws pc lv (.ref v :: st) := fun H locs ls hP hD hS hl => lv_astore h.1 h.2.1 d hl hn hl' (fun ls' h' => k H locs ls' hP hD hS h')
theorem J_iinc (h : Ok x cc own ret) (k0 : Nat) {i : Nat} {n : Int} {v0 : Int32} (v : Int32) (lv' : List (Nat × Value)) (hk : lv[k0]? = some (i, .int v0)) (hv : v0 + Int32.ofInt n = v) (hn : i < xN x) (hl' : (i, Value.int v) :: lv.filter (fun q => !(q.1 == i) && !(q.1 + 1 == i && q.2.category == 2)) = lv') (d : decode cc pc = .ok (.iinc i n, 3)) (k : J x cells slots ws (pc + 3) lv' st) : J x cells slots ws pc lv st := fun H locs ls hP hD hS hl => lv_iinc h.1 h.2.1 d hl hk hv hn hl' (fun ls' h' => k H locs ls' hP hD hS h')
theorem J_iadd (h : Ok x cc own ret) {a b : Int32} (d : decode cc pc = .ok (.iadd, 1)) (k : J x cells slots ws (pc + 1) lv (.int (a + b) :: st)) : J x cells slots ws pc lv (.int b :: .int a :: st) := fun H locs ls hP hD hS hl => lv_iadd h.1 h.2.1 d (k H locs ls hP hD hS hl)
theorem J_isub (h : Ok x cc own ret) {a b : Int32} (d : decode cc pc = .ok (.isub, 1)) (k : J x cells slots ws (pc + 1) lv (.int (a - b) :: st)) : J x cells slots ws pc lv (.int b :: .int a :: st) := fun H locs ls hP hD hS hl => lv_isub h.1 h.2.1 d (k H locs ls hP hD hS hl)
theorem J_imul (h : Ok x cc own ret) {a b : Int32} (d : decode cc pc = .ok (.imul, 1)) (k : J x cells slots ws (pc + 1) lv (.int (a * b) :: st)) : J x cells slots ws pc lv (.int b :: .int a :: st) := fun H locs ls hP hD hS hl => lv_imul h.1 h.2.1 d (k H locs ls hP hD hS hl)
theorem J_iand (h : Ok x cc own ret) {a b : Int32} (d : decode cc pc = .ok (.iand, 1)) (k : J x cells slots ws (pc + 1) lv (.int (a &&& b) :: st)) : J x cells slots ws pc lv (.int b :: .int a :: st) := fun H locs ls hP hD hS hl => lv_iand h.1 h.2.1 d (k H locs ls hP hD hS hl)
theorem J_ixor (h : Ok x cc own ret) {a b : Int32} (d : decode cc pc = .ok (.ixor, 1)) (k : J x cells slots ws (pc + 1) lv (.int (a ^^^ b) :: st)) : J x cells slots ws pc lv (.int b :: .int a :: st) := fun H locs ls hP hD hS hl => lv_ixor h.1 h.2.1 d (k H locs ls hP hD hS hl)
theorem J_idiv (h : Ok x cc own ret) {a b : Int32} (hne : ¬ b = 0) (d : decode cc pc = .ok (.idiv, 1)) (k : J x cells slots ws (pc + 1) lv (.int (a / b) :: st)) : J x cells slots ws pc lv (.int b :: .int a :: st) := fun H locs ls hP hD hS hl => lv_idiv h.1 h.2.1 d hne (k H locs ls hP hD hS hl)
theorem J_irem (h : Ok x cc own ret) {a b : Int32} (hne : ¬ b = 0) (d : decode cc pc = .ok (.irem, 1)) (k : J x cells slots ws (pc + 1) lv (.int (a - a / b * b) :: st)) : J x cells slots ws pc lv (.int b :: .int a :: st) := fun H locs ls hP hD hS hl => lv_irem h.1 h.2.1 d hne (k H locs ls hP hD hS hl)
theorem J_ineg (h : Ok x cc own ret) {a : Int32} (d : decode cc pc = .ok (.ineg, 1)) (k : J x cells slots ws (pc + 1) lv (.int (-a) :: st)) : J x cells slots ws pc lv (.int a :: st) := fun H locs ls hP hD hS hl => lv_ineg h.1 h.2.1 d (k H locs ls hP hD hS hl)
theorem J_ladd (h : Ok x cc own ret) {a b : Int64} (d : decode cc pc = .ok (.ladd, 1)) (k : J x cells slots ws (pc + 1) lv (.long (a + b) :: st)) : J x cells slots ws pc lv (.long b :: .long a :: st) := fun H locs ls hP hD hS hl => lv_ladd h.1 h.2.1 d (k H locs ls hP hD hS hl)
theorem J_i2l (h : Ok x cc own ret) {a : Int32} (d : decode cc pc = .ok (.i2l, 1)) (k : J x cells slots ws (pc + 1) lv (.long a.toInt64 :: st)) : J x cells slots ws pc lv (.int a :: st) := fun H locs ls hP hD hS hl => lv_i2l h.1 h.2.1 d rfl (k H locs ls hP hD hS hl)
theorem J_l2i (h : Ok x cc own ret) {a : Int64} (d : decode cc pc = .ok (.l2i, 1)) (k : J x cells slots ws (pc + 1) lv (.int a.toInt32 :: st)) : J x cells slots ws pc lv (.long a :: st) := fun H locs ls hP hD hS hl => lv_l2i h.1 h.2.1 d rfl (k H locs ls hP hD hS hl)
theorem J_lcmp (h : Ok x cc own ret) {a b : Int64} (d : decode cc pc = .ok (.lcmp, 1)) (k : J x cells slots ws (pc + 1) lv (.int (lg_cmp a b) :: st)) : J x cells slots ws pc lv (.long b :: .long a :: st) := fun H locs ls hP hD hS hl => W.lcmp h.1 h.2.1 d (k H locs ls hP hD hS hl)
theorem J_dup (h : Ok x cc own ret) {v : Value} (hv : v.category = 1) (d : decode cc pc = .ok (.dup, 1)) (k : J x cells slots ws (pc + 1) lv (v :: v :: st)) : J x cells slots ws pc lv (v :: st) := fun H locs ls hP hD hS hl => lv_dup h.1 h.2.1 d hv (k H locs ls hP hD hS hl)
theorem J_pop (h : Ok x cc own ret) {v : Value} (hv : v.category = 1) (d : decode cc pc = .ok (.pop, 1)) (k : J x cells slots ws (pc + 1) lv (st)) : J x cells slots ws pc lv (v :: st) := fun H locs ls hP hD hS hl => lv_pop h.1 h.2.1 d hv (k H locs ls hP hD hS hl)
theorem J_dup2 (h : Ok x cc own ret) {v u : Value} (hv : v.category = 1) (hu : u.category = 1) (d : decode cc pc = .ok (.dup2, 1)) (k : J x cells slots ws (pc + 1) lv (v :: u :: v :: u :: st)) : J x cells slots ws pc lv (v :: u :: st) := fun H locs ls hP hD hS hl => lv_dup2_11 h.1 h.2.1 d hv hu (k H locs ls hP hD hS hl)
theorem J_null (h : Ok x cc own ret)  (d : decode cc pc = .ok (.aconst_null, 1)) (k : J x cells slots ws (pc + 1) lv (va_rf none :: st)) : J x cells slots ws pc lv (st) := fun H locs ls hP hD hS hl => lv_null h.1 h.2.1 d (k H locs ls hP hD hS hl)
theorem J_goto (h : Ok x cc own ret) {off : Int} (tgt : Nat) (ht : (pc : Int) + off = (tgt : Int)) (d : decode cc pc = .ok (.goto off, 3)) (k : J x cells slots ws tgt lv st) : J x cells slots ws pc lv st := fun H locs ls hP hD hS hl => lv_goto h.1 h.2.1 d ht (k H locs ls hP hD hS hl)
theorem J_if_eq (h : Ok x cc own ret) {off : Int} {a : Int32} (tgt : Nat) (ht : (pc : Int) + off = (tgt : Int)) (d : decode cc pc = .ok (.ifCond .eq off, 3)) (kt : a = 0 → J x cells slots ws tgt lv st) (kf : ¬ a = 0 → J x cells slots ws (pc + 3) lv st) : J x cells slots ws pc lv (.int a :: st) := fun H locs ls hP hD hS hl => lv_if_eq h.1 h.2.1 d ht (fun c => kt c H locs ls hP hD hS hl) (fun c => kf c H locs ls hP hD hS hl)
theorem J_icmp_eq (h : Ok x cc own ret) {off : Int} {a b : Int32} (tgt : Nat) (ht : (pc : Int) + off = (tgt : Int)) (d : decode cc pc = .ok (.if_icmp .eq off, 3)) (kt : a = b → J x cells slots ws tgt lv st) (kf : ¬ a = b → J x cells slots ws (pc + 3) lv st) : J x cells slots ws pc lv (.int b :: .int a :: st) := fun H locs ls hP hD hS hl => lv_icmp_eq h.1 h.2.1 d ht (fun c => kt c H locs ls hP hD hS hl) (fun c => kf c H locs ls hP hD hS hl)
theorem J_if_ne (h : Ok x cc own ret) {off : Int} {a : Int32} (tgt : Nat) (ht : (pc : Int) + off = (tgt : Int)) (d : decode cc pc = .ok (.ifCond .ne off, 3)) (kt : ¬ a = 0 → J x cells slots ws tgt lv st) (kf : a = 0 → J x cells slots ws (pc + 3) lv st) : J x cells slots ws pc lv (.int a :: st) := fun H locs ls hP hD hS hl => lv_if_ne h.1 h.2.1 d ht (fun c => kt c H locs ls hP hD hS hl) (fun c => kf c H locs ls hP hD hS hl)
theorem J_icmp_ne (h : Ok x cc own ret) {off : Int} {a b : Int32} (tgt : Nat) (ht : (pc : Int) + off = (tgt : Int)) (d : decode cc pc = .ok (.if_icmp .ne off, 3)) (kt : ¬ a = b → J x cells slots ws tgt lv st) (kf : a = b → J x cells slots ws (pc + 3) lv st) : J x cells slots ws pc lv (.int b :: .int a :: st) := fun H locs ls hP hD hS hl => lv_icmp_ne h.1 h.2.1 d ht (fun c => kt c H locs ls hP hD hS hl) (fun c => kf c H locs ls hP hD hS hl)
theorem J_if_lt (h : Ok x cc own ret) {off : Int} {a : Int32} (tgt : Nat) (ht : (pc : Int) + off = (tgt : Int)) (d : decode cc pc = .ok (.ifCond .lt off, 3)) (kt : a < 0 → J x cells slots ws tgt lv st) (kf : ¬ a < 0 → J x cells slots ws (pc + 3) lv st) : J x cells slots ws pc lv (.int a :: st) := fun H locs ls hP hD hS hl => lv_if_lt h.1 h.2.1 d ht (fun c => kt c H locs ls hP hD hS hl) (fun c => kf c H locs ls hP hD hS hl)
theorem J_icmp_lt (h : Ok x cc own ret) {off : Int} {a b : Int32} (tgt : Nat) (ht : (pc : Int) + off = (tgt : Int)) (d : decode cc pc = .ok (.if_icmp .lt off, 3)) (kt : a < b → J x cells slots ws tgt lv st) (kf : ¬ a < b → J x cells slots ws (pc + 3) lv st) : J x cells slots ws pc lv (.int b :: .int a :: st) := fun H locs ls hP hD hS hl => lv_icmp_lt h.1 h.2.1 d ht (fun c => kt c H locs ls hP hD hS hl) (fun c => kf c H locs ls hP hD hS hl)
theorem J_if_ge (h : Ok x cc own ret) {off : Int} {a : Int32} (tgt : Nat) (ht : (pc : Int) + off = (tgt : Int)) (d : decode cc pc = .ok (.ifCond .ge off, 3)) (kt : 0 ≤ a → J x cells slots ws tgt lv st) (kf : ¬ 0 ≤ a → J x cells slots ws (pc + 3) lv st) : J x cells slots ws pc lv (.int a :: st) := fun H locs ls hP hD hS hl => lv_if_ge h.1 h.2.1 d ht (fun c => kt c H locs ls hP hD hS hl) (fun c => kf c H locs ls hP hD hS hl)
theorem J_icmp_ge (h : Ok x cc own ret) {off : Int} {a b : Int32} (tgt : Nat) (ht : (pc : Int) + off = (tgt : Int)) (d : decode cc pc = .ok (.if_icmp .ge off, 3)) (kt : b ≤ a → J x cells slots ws tgt lv st) (kf : ¬ b ≤ a → J x cells slots ws (pc + 3) lv st) : J x cells slots ws pc lv (.int b :: .int a :: st) := fun H locs ls hP hD hS hl => lv_icmp_ge h.1 h.2.1 d ht (fun c => kt c H locs ls hP hD hS hl) (fun c => kf c H locs ls hP hD hS hl)
theorem J_if_gt (h : Ok x cc own ret) {off : Int} {a : Int32} (tgt : Nat) (ht : (pc : Int) + off = (tgt : Int)) (d : decode cc pc = .ok (.ifCond .gt off, 3)) (kt : 0 < a → J x cells slots ws tgt lv st) (kf : ¬ 0 < a → J x cells slots ws (pc + 3) lv st) : J x cells slots ws pc lv (.int a :: st) := fun H locs ls hP hD hS hl => lv_if_gt h.1 h.2.1 d ht (fun c => kt c H locs ls hP hD hS hl) (fun c => kf c H locs ls hP hD hS hl)
theorem J_icmp_gt (h : Ok x cc own ret) {off : Int} {a b : Int32} (tgt : Nat) (ht : (pc : Int) + off = (tgt : Int)) (d : decode cc pc = .ok (.if_icmp .gt off, 3)) (kt : b < a → J x cells slots ws tgt lv st) (kf : ¬ b < a → J x cells slots ws (pc + 3) lv st) : J x cells slots ws pc lv (.int b :: .int a :: st) := fun H locs ls hP hD hS hl => lv_icmp_gt h.1 h.2.1 d ht (fun c => kt c H locs ls hP hD hS hl) (fun c => kf c H locs ls hP hD hS hl)
theorem J_if_le (h : Ok x cc own ret) {off : Int} {a : Int32} (tgt : Nat) (ht : (pc : Int) + off = (tgt : Int)) (d : decode cc pc = .ok (.ifCond .le off, 3)) (kt : a ≤ 0 → J x cells slots ws tgt lv st) (kf : ¬ a ≤ 0 → J x cells slots ws (pc + 3) lv st) : J x cells slots ws pc lv (.int a :: st) := fun H locs ls hP hD hS hl => lv_if_le h.1 h.2.1 d ht (fun c => kt c H locs ls hP hD hS hl) (fun c => kf c H locs ls hP hD hS hl)
theorem J_icmp_le (h : Ok x cc own ret) {off : Int} {a b : Int32} (tgt : Nat) (ht : (pc : Int) + off = (tgt : Int)) (d : decode cc pc = .ok (.if_icmp .le off, 3)) (kt : a ≤ b → J x cells slots ws tgt lv st) (kf : ¬ a ≤ b → J x cells slots ws (pc + 3) lv st) : J x cells slots ws pc lv (.int b :: .int a :: st) := fun H locs ls hP hD hS hl => lv_icmp_le h.1 h.2.1 d ht (fun c => kt c H locs ls hP hD hS hl) (fun c => kf c H locs ls hP hD hS hl)
theorem J_ifnull (h : Ok x cc own ret) {off : Int} {o : Option Nat} (tgt : Nat) (ht : (pc : Int) + off = (tgt : Int)) (d : decode cc pc = .ok (.ifnull off, 3)) (kt : o = none → J x cells slots ws tgt lv st) (kf : ¬ o = none → J x cells slots ws (pc + 3) lv st) : J x cells slots ws pc lv (va_rf o :: st) := by
  intro H locs ls hP hD hS hl
  cases o with
  | none => exact lv_ifnullN h.1 h.2.1 d ht (kt rfl H locs ls hP hD hS hl)
  | some v => exact lv_ifnull h.1 h.2.1 d (kf (fun q => by cases q) H locs ls hP hD hS hl)
theorem J_ifnonnull (h : Ok x cc own ret) {off : Int} {o : Option Nat} (tgt : Nat) (ht : (pc : Int) + off = (tgt : Int)) (d : decode cc pc = .ok (.ifnonnull off, 3)) (kt : ¬ o = none → J x cells slots ws tgt lv st) (kf : o = none → J x cells slots ws (pc + 3) lv st) : J x cells slots ws pc lv (va_rf o :: st) := by
  intro H locs ls hP hD hS hl
  cases o with
  | none => exact lv_ifnonnullN h.1 h.2.1 d (kf rfl H locs ls hP hD hS hl)
  | some v => exact lv_ifnonnull h.1 h.2.1 d ht (kt (fun q => by cases q) H locs ls hP hD hS hl)
theorem J_acmp_ne (h : Ok x cc own ret) {off : Int} {o u : Option Nat} (tgt : Nat) (ht : (pc : Int) + off = (tgt : Int)) (d : decode cc pc = .ok (.if_acmp .ne off, 3)) (kt : ¬ o = u → J x cells slots ws tgt lv st) (kf : o = u → J x cells slots ws (pc + 3) lv st) : J x cells slots ws pc lv (va_rf u :: va_rf o :: st) := fun H locs ls hP hD hS hl => lv_acmp_ne h.1 h.2.1 d ht (fun c => kt c H locs ls hP hD hS hl) (fun c => kf c H locs ls hP hD hS hl)
theorem J_ldc (h : Ok x cc own ret) {i : Nat} {v : Int32} (hw : Cond.constant own i v ∈ gd_tbl) (d : decode cc pc = .ok (.ldc i, 2)) (k : J x cells slots ws (pc + 2) lv (.int v :: st)) : J x cells slots ws pc lv st := fun H locs ls hP hD hS hl => lv_ldc h.1 h.2.1 h.2.2.2.2.1 (h.w hw) d (k H locs ls hP hD hS hl)
theorem J_ldc2 (h : Ok x cc own ret) {i : Nat} {v : Int64} (hw : Cond.constantLong own i v ∈ gd_tbl) (d : decode cc pc = .ok (.ldc2_w i, 3)) (k : J x cells slots ws (pc + 3) lv (.long v :: st)) : J x cells slots ws pc lv st := fun H locs ls hP hD hS hl => lv_ldc2 h.1 h.2.1 h.2.2.2.2.1 (h.w hw) d (k H locs ls hP hD hS hl)
theorem J_tabIn (h : Ok x cc own ret) {dflt lo hi off : Int} {offs : Array Int} {len : Nat} {a : Int32} (b : Int32) (tgt : Nat) (c : a = b) (h1 : ¬ b.toInt < lo) (h2 : ¬ hi < b.toInt) (ho : offs[(b.toInt - lo).toNat]? = some off) (ht : (pc : Int) + off = (tgt : Int)) (d : decode cc pc = .ok (.tableswitch dflt lo hi offs, len)) (k : J x cells slots ws tgt lv st) : J x cells slots ws pc lv (.int a :: st) := by
  subst c
  exact fun H locs ls hP hD hS hl => lv_tableIn h.1 h.2.1 d h1 h2 ho ht (k H locs ls hP hD hS hl)
theorem J_tabOut (h : Ok x cc own ret) {dflt lo hi : Int} {offs : Array Int} {len : Nat} {a : Int32} (tgt : Nat) (hc : a.toInt < lo ∨ hi < a.toInt) (ht : (pc : Int) + dflt = (tgt : Int)) (d : decode cc pc = .ok (.tableswitch dflt lo hi offs, len)) (k : J x cells slots ws tgt lv st) : J x cells slots ws pc lv (.int a :: st) := fun H locs ls hP hD hS hl => lv_tableOut h.1 h.2.1 d hc ht (k H locs ls hP hD hS hl)
theorem J_lookup (h : Ok x cc own ret) {dflt off : Int} {ps : Array (Int × Int)} {len : Nat} {a : Int32} (tgt : Nat) (hp : (ps.toList.zip (ps.toList.drop 1)).all (fun (a, next) => a.1 < next.1) = true) (ho : Op.lookupswitch.offset ps.toList dflt a.toInt = off) (ht : (pc : Int) + off = (tgt : Int)) (d : decode cc pc = .ok (.lookupswitch dflt ps, len)) (k : J x cells slots ws tgt lv st) : J x cells slots ws pc lv (.int a :: st) := fun H locs ls hP hD hS hl => lv_lookup h.1 h.2.1 d hp ho ht (k H locs ls hP hD hS hl)
theorem J_sub (lv' : List (Nat × Value)) (ks : List Nat) (hp : lv_pick lv ks = lv') (k : J x cells slots ws pc lv' st) : J x cells slots ws pc lv st := fun H locs ls hP hD hS hl => k H locs ls hP hD hS (lv_sub hl ks hp)
theorem J_widen {c2 s2 : Nat} (h1 : cells ≤ c2) (h2 : slots ≤ s2) (k : J x c2 s2 ws pc lv st) : J x cells slots ws pc lv st := fun H locs ls hP hD hS hl => W.widen h1 h2 (k H locs ls hP hD hS hl)
theorem J_eqw {ws2 : va_W} (e : ws = ws2) (k : J x cells slots ws2 pc lv st) : J x cells slots ws pc lv st := e ▸ k
-- returns
theorem J_iret {Po : Option Value → va_W → Prop} {v : Int32} (h : Ok x cc own (some .int)) (hr : Rt x cells slots Po) (hp : Po (some (.int v)) ws) (d : decode cc pc = .ok (.ireturn, 1)) : J x cells slots ws pc lv [.int v] := by
  intro H locs ls hP hD hS hl
  obtain ⟨Qc, e, hq⟩ := hr
  rw [e]
  exact W.iret h.1 h.2.1 h.2.2.1 (fun t ht hW => hq _ _ _ _ t hp hP hD hS ht) hS.2.2 d (hlocks := h.2.2.2.2.2.2.2.1)
theorem J_zret {Po : Option Value → va_W → Prop} {v : Int32} (h : Ok x cc own (some .boolean)) (hn : narrow .boolean (.int v) = .int v) (hr : Rt x cells slots Po) (hp : Po (some (.int v)) ws) (d : decode cc pc = .ok (.ireturn, 1)) : J x cells slots ws pc lv [.int v] := by
  intro H locs ls hP hD hS hl
  obtain ⟨Qc, e, hq⟩ := hr
  rw [e]
  exact W.zret h.1 h.2.1 h.2.2.1 hn (fun t ht hW => hq _ _ _ _ t hp hP hD hS ht) hS.2.2 d (hlocks := h.2.2.2.2.2.2.2.1)
theorem J_vret {Po : Option Value → va_W → Prop} (h : Ok x cc own none) (hr : Rt x cells slots Po) (hp : Po none ws) (d : decode cc pc = .ok (.return_, 1)) : J x cells slots ws pc lv [] := by
  intro H locs ls hP hD hS hl
  obtain ⟨Qc, e, hq⟩ := hr
  rw [e]
  exact W.vret h.1 h.2.1 h.2.2.1 (fun t ht hW => hq _ _ _ _ t hp hP hD hS ht) hS.2.2 d (hlocks := h.2.2.2.2.2.2.2.1)
theorem J_aret {Po : Option Value → va_W → Prop} {o : Option Nat} {C : String} (h : Ok x cc own (some (.object C))) (hr : Rt x cells slots Po) (hp : Po (some (va_rf o)) ws) (d : decode cc pc = .ok (.areturn, 1)) : J x cells slots ws pc lv [va_rf o] := by
  intro H locs ls hP hD hS hl
  obtain ⟨Qc, e, hq⟩ := hr
  rw [e]
  exact W.aret h.1 h.2.1 h.2.2.1 (Or.inl ⟨_, rfl⟩) (by cases o with | none => exact Or.inl rfl | some v => exact Or.inr ⟨v, rfl⟩) (fun t ht hW => hq _ _ _ _ t hp hP hD hS ht) hS.2.2 d (hlocks := h.2.2.2.2.2.2.2.1)
-- fields and arrays
theorem J_get (h : Ok x cc own ret) {a ci N index q0 kf : Nat} {C rf : String} {T : u_T} {fs : List Value} {v : Value} (hin : ∀ w ∈ u_ws C T N, w ∈ gd_tbl) (he : ws[q0]? = some (a, .inr (ci, fs))) (hc : clL[ci]? = some (C, T, N)) (hk : kf < N) (hlink : Cond.fieldLink own index rf (T kf).2.1 (T kf).2.2.1 ∈ gd_tbl) (hsame : ∀ y, (xS x).fieldFound? (T kf).1 (T kf).2.1 (T kf).2.2.1 = some y → (xS x).fieldFound? rf (T kf).2.1 (T kf).2.2.1 = some y) (hv : fs[kf]? = some v) (d : decode cc pc = .ok (.getfield index, 3)) (k : J x cells slots ws (pc + 3) lv (v :: st)) : J x cells slots ws pc lv (.ref a :: st) := fun H locs ls hP hD hS hl => va_get h.1 h.2.1 h.2.2.2.2.2.1 hin h.2.2.2.2.1 h.K hP q0 he hc kf hk (h.w hlink) hsame hv d (k H locs ls hP hD hS hl)
theorem J_put (h : Ok x cc own ret) {a ci N index q0 kf : Nat} {C rf : String} {T : u_T} {ty0 : Nat → FieldType} {ty : FieldType} {fs : List Value} {v : Value} (ws' : va_W) (hin : ∀ w ∈ u_ws C T N, w ∈ gd_tbl) (hty : ∀ k, k < N → parseFieldDescriptor (T k).2.2.1 = some (ty0 k)) (hnm : ∀ a, a < N → ∀ b, b < N → a ≠ b → (T a).2.1 ≠ (T b).2.1) (he : ws[q0]? = some (a, .inr (ci, fs))) (hc : clL[ci]? = some (C, T, N)) (hk : kf < N) (hlink : Cond.fieldLink own index rf (T kf).2.1 (T kf).2.2.1 ∈ gd_tbl) (hsame : ∀ y, (xS x).fieldFound? (T kf).1 (T kf).2.1 (T kf).2.2.1 = some y → (xS x).fieldFound? rf (T kf).2.1 (T kf).2.2.1 = some y) (hfin : (T kf).2.2.2 = false) (hd : parseFieldDescriptor (T kf).2.2.1 = some ty) (hn : narrow ty v = v) (hfit : fits ty v = true) (hl0 : kf < fs.length) (hw' : ws.set q0 (a, .inr (ci, fs.set kf v)) = ws') (d : decode cc pc = .ok (.putfield index, 3)) (k : J x cells slots ws' (pc + 3) lv st) : J x cells slots ws pc lv (v :: .ref a :: st) := by
  subst hw'
  exact fun H locs ls hP hD hS hl => va_put h.1 h.2.1 h.2.2.2.2.2.1 hin ty0 hty hnm h.2.2.2.2.1 h.K hP hD hS q0 he hc kf hk (h.w hlink) hsame hfin hd hn hfit hl0 d (fun H1 l1 hP1 hD1 hS1 => k H1 l1 ls hP1 hD1 hS1 hl)
theorem J_putF (h : Ok x cc own ret) {a ci N index q0 kf : Nat} {C rf : String} {T : u_T} {ty0 : Nat → FieldType} {ty : FieldType} {fs : List Value} {v : Value} (ws' : va_W) (hin : ∀ w ∈ u_ws C T N, w ∈ gd_tbl) (hty : ∀ k, k < N → parseFieldDescriptor (T k).2.2.1 = some (ty0 k)) (hnm : ∀ a, a < N → ∀ b, b < N → a ≠ b → (T a).2.1 ≠ (T b).2.1) (he : ws[q0]? = some (a, .inr (ci, fs))) (hc : clL[ci]? = some (C, T, N)) (hk : kf < N) (hlink : Cond.fieldLink own index rf (T kf).2.1 (T kf).2.2.1 ∈ gd_tbl) (hsame : ∀ y, (xS x).fieldFound? (T kf).1 (T kf).2.1 (T kf).2.2.1 = some y → (xS x).fieldFound? rf (T kf).2.1 (T kf).2.2.1 = some y) (hfin : (T kf).2.2.2 = true) (hin2 : (xT x).name = "<init>") (hdecl : (T kf).1 = own) (hd : parseFieldDescriptor (T kf).2.2.1 = some ty) (hn : narrow ty v = v) (hfit : fits ty v = true) (hl0 : kf < fs.length) (hw' : ws.set q0 (a, .inr (ci, fs.set kf v)) = ws') (d : decode cc pc = .ok (.putfield index, 3)) (k : J x cells slots ws' (pc + 3) lv st) : J x cells slots ws pc lv (v :: .ref a :: st) := by
  subst hw'
  exact fun H locs ls hP hD hS hl => va_putF h.1 h.2.1 h.2.2.2.2.2.1 hin ty0 hty hnm h.2.2.2.2.1 h.K hP hD hS q0 he hc kf hk (h.w hlink) hsame hfin hin2 hdecl hd hn hfit hl0 d (fun H1 l1 hP1 hD1 hS1 => k H1 l1 ls hP1 hD1 hS1 hl)
theorem J_iald (h : Ok x cc own ret) {a n q0 : Nat} {f : Nat → Int32} {i : Int32} (ha : ws[q0]? = some (a, .inl ((xG x).2.1, n, .inl f))) (hin : vp_in i n) (d : decode cc pc = .ok (.iaload, 1)) (k : J x cells slots ws (pc + 1) lv (.int (f i.toNatClampNeg) :: st)) : J x cells slots ws pc lv (.int i :: .ref a :: st) := fun H locs ls hP hD hS hl => va_iald h.1 h.2.1 h.K hP q0 0 ha rfl hin d (k H locs ls hP hD hS hl)
theorem J_iast (h : Ok x cc own ret) {a n q0 : Nat} {f : Nat → Int32} {i v : Int32} (ws' : va_W) (ha : ws[q0]? = some (a, .inl ((xG x).2.1, n, .inl f))) (hin : vp_in i n) (hw' : ws.set q0 (a, .inl ((xG x).2.1, n, .inl (upd f i.toNatClampNeg v))) = ws') (d : decode cc pc = .ok (.iastore, 1)) (k : J x cells slots ws' (pc + 1) lv st) : J x cells slots ws pc lv (.int v :: .int i :: .ref a :: st) := by
  subst hw'
  exact fun H locs ls hP hD hS hl => va_iast h.1 h.2.1 h.K hP hD hS q0 0 ha rfl hin d (fun H1 l1 hP1 hD1 hS1 => k H1 l1 ls hP1 hD1 hS1 hl)
theorem J_aald (h : Ok x cc own ret) {a n q0 t0 : Nat} {cA : ClassId} {C : String} {f : Nat → Option Nat} {i : Int32} (ha : ws[q0]? = some (a, .inl (cA, n, .inr (.inr (.inr (.inr f)))))) (ht : (tyL (xG x))[t0]? = some (cA, .object C)) (hin : vp_in i n) (d : decode cc pc = .ok (.aaload, 1)) (k : J x cells slots ws (pc + 1) lv (va_rf (f i.toNatClampNeg) :: st)) : J x cells slots ws pc lv (.int i :: .ref a :: st) := fun H locs ls hP hD hS hl => va_aldq h.1 h.2.1 h.K hP q0 t0 ha ht hin d (k H locs ls hP hD hS hl)
theorem J_aastN (h : Ok x cc own ret) {a n q0 t0 : Nat} {cA : ClassId} {C : String} {f : Nat → Option Nat} {i : Int32} (ws' : va_W) (ha : ws[q0]? = some (a, .inl (cA, n, .inr (.inr (.inr (.inr f)))))) (ht : (tyL (xG x))[t0]? = some (cA, .object C)) (hin : vp_in i n) (hw' : ws.set q0 (a, .inl (cA, n, .inr (.inr (.inr (.inr (va_up f i.toNatClampNeg none)))))) = ws') (d : decode cc pc = .ok (.aastore, 1)) (k : J x cells slots ws' (pc + 1) lv st) : J x cells slots ws pc lv (va_rf none :: .int i :: .ref a :: st) := by
  subst hw'
  exact fun H locs ls hP hD hS hl => va_astqN h.1 h.2.1 h.K hP hD hS q0 t0 ha ht hin d (fun H1 l1 hP1 hD1 hS1 => k H1 l1 ls hP1 hD1 hS1 hl)
theorem J_aast (h : Ok x cc own ret) {a n q0 t0 qk ci v : Nat} {cA : ClassId} {vs : List Value} {r : vw_C} {f : Nat → Option Nat} {i : Int32} (ws' : va_W) (ha : ws[q0]? = some (a, .inl (cA, n, .inr (.inr (.inr (.inr f)))))) (ht : (tyL (xG x))[t0]? = some (cA, .object r.1)) (hv : ws[qk]? = some (v, .inr (ci, vs))) (hc : clL[ci]? = some r) (hin : vp_in i n) (hw' : ws.set q0 (a, .inl (cA, n, .inr (.inr (.inr (.inr (va_up f i.toNatClampNeg (some v))))))) = ws') (d : decode cc pc = .ok (.aastore, 1)) (k : J x cells slots ws' (pc + 1) lv st) : J x cells slots ws pc lv (va_rf (some v) :: .int i :: .ref a :: st) := by
  subst hw'
  exact fun H locs ls hP hD hS hl => va_astq h.1 h.2.1 h.K hP hD hS q0 t0 qk ci ha ht hv hc hin d (fun H1 l1 hP1 hD1 hS1 => k H1 l1 ls hP1 hD1 hS1 hl)
theorem J_aastO (h : Ok x cc own ret) {a n q0 t0 qk ci v : Nat} {cA : ClassId} {E : String} {vs : List Value} {r : vw_C} {f : Nat → Option Nat} {i : Int32} (ws' : va_W) (ha : ws[q0]? = some (a, .inl (cA, n, .inr (.inr (.inr (.inr f)))))) (ht : (tyL (xG x))[t0]? = some (cA, .object E)) (hca : va_Nw (.castable r.1 E) (xS x)) (hv : ws[qk]? = some (v, .inr (ci, vs))) (hc : clL[ci]? = some r) (hin : vp_in i n) (hw' : ws.set q0 (a, .inl (cA, n, .inr (.inr (.inr (.inr (va_up f i.toNatClampNeg (some v))))))) = ws') (d : decode cc pc = .ok (.aastore, 1)) (k : J x cells slots ws' (pc + 1) lv st) : J x cells slots ws pc lv (va_rf (some v) :: .int i :: .ref a :: st) := by
  subst hw'
  exact fun H locs ls hP hD hS hl => va_astqO h.1 h.2.1 h.K hP hD hS q0 t0 qk ci ha ht hca hv hc hin d (fun H1 l1 hP1 hD1 hS1 => k H1 l1 ls hP1 hD1 hS1 hl)
end JL
def CQ (g : Gy) (ws : va_W) (Po : Option Value → va_W → Prop) (sz : Nat) : Array Value → State → Outcome → State → Prop := fun _ s1 oc t => ∃ (r : Option Value) (ws' : va_W), oc = .returned r ∧ Po r ws' ∧ va_P g.1 clL ws' t.heap ∧ va_D (va_A ws sz) ws' ∧ va_F (va_A ws sz) s1 t
/-- a method's contract: from the world ws, with arguments As, it returns; Po says what, and the world behind it -/
def Con (l : Launch) (g : Gy) (y : MethodName) (cc : ByteArray) (nL : Nat) (ret : Option FieldType) (rm : Room) (As : List Value) (ws : va_W) (Po : Option Value → va_W → Prop) : Prop :=
  ∀ sz : Nat, Met l y (Cond.code y cc nL ret :: gd_tbl) rm (va_Pc As (fun U => U.heap.size = sz ∧ va_P g.1 clL ws U.heap ∧ Wk g U ∧ va_D (fun _ => True) ws))
    (CQ g ws Po sz) rm.cells rm.slots (va_A ws sz)
theorem Con.of {l : Launch} {g : Gy} {y : MethodName} {cc : ByteArray} {nL : Nat} {ret : Option FieldType} {rm : Room} {As : List Value} {ws : va_W} {Po : Option Value → va_W → Prop} (hy : plainName y.cls = true) (hn : (lg_sl As).length ≤ nL)
    (body : ∀ x : Cx, Ok x cc y.cls ret → xL x = l → xG x = g → xR x = rm → xN x = nL → ((xT x).name = y.name) → Rt x rm.cells rm.slots Po → J x 0 0 ws 0 (lv_args 0 As) []) : Con l g y cc nL ret rm As ws Po := by
  intro sz
  refine Met.ofW (cc := cc) (maxL := nL) (ret := ret) hy rfl ?_
  intro p e s m args below meth c s₁ B hml hv
  obtain ⟨rfl, hsz, hP, hK, hD0⟩ := hv
  subst hsz
  have hts := atoms_spec (ws := Cond.code y cc nL ret :: gd_tbl) B.pre
  have hl := lv_entry As (n := nL) hn
  rw [lg_entry_eq]
  refine body (p, l, e, rm, s, m, As.toArray, below, meth, c, g, va_A ws s.heap.size, MQ below (CQ g ws Po s.heap.size) As.toArray s rm.cells rm.slots (va_A ws s.heap.size), nL) ⟨B.exec, B.bytes, B.returns, hml, findClass_of_methodNamed B.named, fun w hw => hts w (List.mem_cons_of_mem _ hw), hK, B.notSynchronized, fun q h => Or.inr h⟩ rfl rfl rfl rfl (name_of_methodNamed B.named B.method).1 ⟨CQ g ws Po s.heap.size, rfl, ?_⟩ s.heap [] _ hP hD0.self va_S.rf hl
  intro r ws' H locs t hp hP1 hD1 hS1 ht
  exact ⟨r, ws', rfl, hp, by rw [ht]; exact hP1, hD1, hS1.F ht⟩
/-- the word lists of callees are among those of callers -/
theorem gd_call {y : MethodName} {cc : ByteArray} {nL : Nat} {ret : Option FieldType} (hc : Cond.code y cc nL ret ∈ gd_tbl) : GoodIn gd_tbl (Cond.code y cc nL ret :: gd_tbl) := by
  intro w hw
  rcases List.mem_cons.mp hw with e | hw
  · subst e
    exact gd_good _ hc
  · exact gd_good w hw
theorem gd_app {pre ws : List Cond} (h1 : ∀ w ∈ pre, w ∈ gd_tbl) (h2 : GoodIn gd_tbl ws) : GoodIn gd_tbl (pre ++ ws) := by
  intro w hw
  rcases List.mem_append.mp hw with hw | hw
  · exact gd_good w (h1 w hw)
  · exact h2 w hw
