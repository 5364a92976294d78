section
-- ===== PART A: goes FIRST, ahead of the names: the tables' words, and 'selects' of the private methods out of them =====
/-- a private method of a class that the tables say can be made, by its rows of tables_1 -/
def lw_okq (q : MethodName × Nat) : Prop := (q.1.cls ≠ "java/lang/invoke/MethodHandle" ∧ q.1.cls ≠ "java/lang/invoke/VarHandle") ∧ Cond.instantiable q.1.cls q.2 ∈ tables_1 ∧ Cond.privateMethod q.1 ∈ tables_1 ∧ Cond.instanceMethod q.1 ∈ tables_1
theorem lw_p0 : lw_okq (⟨"SafeDesk", "doPlan", "(I)I"⟩, 9) := ⟨⟨by decide +kernel, by decide +kernel⟩, List.mem_of_getElem? (i := 9) (by decide +kernel), List.mem_of_getElem? (i := 179) (by decide +kernel), List.mem_of_getElem? (i := 180) (by decide +kernel)⟩
theorem lw_p1 : lw_okq (⟨"SafeDesk", "doSteps", "(LSafeDesk$Plan;II)I"⟩, 9) := ⟨⟨by decide +kernel, by decide +kernel⟩, List.mem_of_getElem? (i := 9) (by decide +kernel), List.mem_of_getElem? (i := 186) (by decide +kernel), List.mem_of_getElem? (i := 187) (by decide +kernel)⟩
theorem lw_p2 : lw_okq (⟨"SafeDesk", "doStep", "(LSafeDesk$Plan;II)I"⟩, 9) := ⟨⟨by decide +kernel, by decide +kernel⟩, List.mem_of_getElem? (i := 9) (by decide +kernel), List.mem_of_getElem? (i := 197) (by decide +kernel), List.mem_of_getElem? (i := 198) (by decide +kernel)⟩
theorem lw_p3 : lw_okq (⟨"SafeDesk", "leaveInTrace", "(I)V"⟩, 9) := ⟨⟨by decide +kernel, by decide +kernel⟩, List.mem_of_getElem? (i := 9) (by decide +kernel), List.mem_of_getElem? (i := 201) (by decide +kernel), List.mem_of_getElem? (i := 202) (by decide +kernel)⟩
theorem lw_p4 : lw_okq (⟨"SafeDesk", "safeIn", "(I)LSafeDesk$Safe;"⟩, 9) := ⟨⟨by decide +kernel, by decide +kernel⟩, List.mem_of_getElem? (i := 9) (by decide +kernel), List.mem_of_getElem? (i := 205) (by decide +kernel), List.mem_of_getElem? (i := 206) (by decide +kernel)⟩
theorem lw_p5 : lw_okq (⟨"SafeDesk", "doInside", "(LSafeDesk$Safe;LSafeDesk$Plan;II)I"⟩, 9) := ⟨⟨by decide +kernel, by decide +kernel⟩, List.mem_of_getElem? (i := 9) (by decide +kernel), List.mem_of_getElem? (i := 209) (by decide +kernel), List.mem_of_getElem? (i := 210) (by decide +kernel)⟩
theorem lw_p6 : lw_okq (⟨"SafeDesk", "doTry", "(ILSafeDesk$Plan;II)I"⟩, 9) := ⟨⟨by decide +kernel, by decide +kernel⟩, List.mem_of_getElem? (i := 9) (by decide +kernel), List.mem_of_getElem? (i := 227) (by decide +kernel), List.mem_of_getElem? (i := 228) (by decide +kernel)⟩
theorem lw_p7 : lw_okq (⟨"SafeDesk", "doWithValue", "(II)I"⟩, 9) := ⟨⟨by decide +kernel, by decide +kernel⟩, List.mem_of_getElem? (i := 9) (by decide +kernel), List.mem_of_getElem? (i := 231) (by decide +kernel), List.mem_of_getElem? (i := 232) (by decide +kernel)⟩
theorem lw_p8 : lw_okq (⟨"SafeDesk", "doWithRooms", "(III)I"⟩, 9) := ⟨⟨by decide +kernel, by decide +kernel⟩, List.mem_of_getElem? (i := 9) (by decide +kernel), List.mem_of_getElem? (i := 235) (by decide +kernel), List.mem_of_getElem? (i := 236) (by decide +kernel)⟩
theorem lw_p9 : lw_okq (⟨"SafeDesk", "setRoom", "(ILSafeDesk$Safe;)V"⟩, 9) := ⟨⟨by decide +kernel, by decide +kernel⟩, List.mem_of_getElem? (i := 9) (by decide +kernel), List.mem_of_getElem? (i := 242) (by decide +kernel), List.mem_of_getElem? (i := 243) (by decide +kernel)⟩
theorem lw_p10 : lw_okq (⟨"SafeDesk", "seek", "(II)I"⟩, 9) := ⟨⟨by decide +kernel, by decide +kernel⟩, List.mem_of_getElem? (i := 9) (by decide +kernel), List.mem_of_getElem? (i := 246) (by decide +kernel), List.mem_of_getElem? (i := 247) (by decide +kernel)⟩
theorem lw_p11 : lw_okq (⟨"SafeDesk", "doWithSafe", "(ILSafeDesk$Safe;I)I"⟩, 9) := ⟨⟨by decide +kernel, by decide +kernel⟩, List.mem_of_getElem? (i := 9) (by decide +kernel), List.mem_of_getElem? (i := 250) (by decide +kernel), List.mem_of_getElem? (i := 251) (by decide +kernel)⟩
theorem lw_p12 : lw_okq (⟨"SafeDesk", "roomsWithSafe", "()I"⟩, 9) := ⟨⟨by decide +kernel, by decide +kernel⟩, List.mem_of_getElem? (i := 9) (by decide +kernel), List.mem_of_getElem? (i := 323) (by decide +kernel), List.mem_of_getElem? (i := 324) (by decide +kernel)⟩
theorem lw_p13 : lw_okq (⟨"SafeDeskModel", "beginPlan", "(I)V"⟩, 26) := ⟨⟨by decide +kernel, by decide +kernel⟩, List.mem_of_getElem? (i := 327) (by decide +kernel), List.mem_of_getElem? (i := 440) (by decide +kernel), List.mem_of_getElem? (i := 441) (by decide +kernel)⟩
theorem lw_p14 : lw_okq (⟨"SafeDeskModel", "push", "(IIIII)V"⟩, 26) := ⟨⟨by decide +kernel, by decide +kernel⟩, List.mem_of_getElem? (i := 327) (by decide +kernel), List.mem_of_getElem? (i := 444) (by decide +kernel), List.mem_of_getElem? (i := 445) (by decide +kernel)⟩
theorem lw_p15 : lw_okq (⟨"SafeDeskModel", "pop", "()V"⟩, 26) := ⟨⟨by decide +kernel, by decide +kernel⟩, List.mem_of_getElem? (i := 327) (by decide +kernel), List.mem_of_getElem? (i := 448) (by decide +kernel), List.mem_of_getElem? (i := 449) (by decide +kernel)⟩
def lw_privs_1 : List (MethodName × Nat) := [(⟨"SafeDesk", "doPlan", "(I)I"⟩, 9), (⟨"SafeDesk", "doSteps", "(LSafeDesk$Plan;II)I"⟩, 9), (⟨"SafeDesk", "doStep", "(LSafeDesk$Plan;II)I"⟩, 9), (⟨"SafeDesk", "leaveInTrace", "(I)V"⟩, 9), (⟨"SafeDesk", "safeIn", "(I)LSafeDesk$Safe;"⟩, 9), (⟨"SafeDesk", "doInside", "(LSafeDesk$Safe;LSafeDesk$Plan;II)I"⟩, 9), (⟨"SafeDesk", "doTry", "(ILSafeDesk$Plan;II)I"⟩, 9), (⟨"SafeDesk", "doWithValue", "(II)I"⟩, 9), (⟨"SafeDesk", "doWithRooms", "(III)I"⟩, 9), (⟨"SafeDesk", "setRoom", "(ILSafeDesk$Safe;)V"⟩, 9), (⟨"SafeDesk", "seek", "(II)I"⟩, 9), (⟨"SafeDesk", "doWithSafe", "(ILSafeDesk$Safe;I)I"⟩, 9), (⟨"SafeDesk", "roomsWithSafe", "()I"⟩, 9), (⟨"SafeDeskModel", "beginPlan", "(I)V"⟩, 26), (⟨"SafeDeskModel", "push", "(IIIII)V"⟩, 26), (⟨"SafeDeskModel", "pop", "()V"⟩, 26)]
theorem lw_r1 : ∀ q ∈ lw_privs_1, lw_okq q := List.forall_mem_cons.mpr ⟨lw_p0, List.forall_mem_cons.mpr ⟨lw_p1, List.forall_mem_cons.mpr ⟨lw_p2, List.forall_mem_cons.mpr ⟨lw_p3, List.forall_mem_cons.mpr ⟨lw_p4, List.forall_mem_cons.mpr ⟨lw_p5, List.forall_mem_cons.mpr ⟨lw_p6, List.forall_mem_cons.mpr ⟨lw_p7, List.forall_mem_cons.mpr ⟨lw_p8, List.forall_mem_cons.mpr ⟨lw_p9, List.forall_mem_cons.mpr ⟨lw_p10, List.forall_mem_cons.mpr ⟨lw_p11, List.forall_mem_cons.mpr ⟨lw_p12, List.forall_mem_cons.mpr ⟨lw_p13, List.forall_mem_cons.mpr ⟨lw_p14, List.forall_mem_cons.mpr ⟨lw_p15, fun _ h => absurd h List.not_mem_nil⟩⟩⟩⟩⟩⟩⟩⟩⟩⟩⟩⟩⟩⟩⟩⟩
theorem lw_p16 : lw_okq (⟨"SafeDeskModel", "leave", "(I)V"⟩, 26) := ⟨⟨by decide +kernel, by decide +kernel⟩, List.mem_of_getElem? (i := 327) (by decide +kernel), List.mem_of_getElem? (i := 452) (by decide +kernel), List.mem_of_getElem? (i := 453) (by decide +kernel)⟩
theorem lw_p17 : lw_okq (⟨"SafeDeskModel", "fails", "(I)V"⟩, 26) := ⟨⟨by decide +kernel, by decide +kernel⟩, List.mem_of_getElem? (i := 327) (by decide +kernel), List.mem_of_getElem? (i := 456) (by decide +kernel), List.mem_of_getElem? (i := 457) (by decide +kernel)⟩
theorem lw_p18 : lw_okq (⟨"SafeDeskModel", "does", "(III)V"⟩, 26) := ⟨⟨by decide +kernel, by decide +kernel⟩, List.mem_of_getElem? (i := 327) (by decide +kernel), List.mem_of_getElem? (i := 460) (by decide +kernel), List.mem_of_getElem? (i := 461) (by decide +kernel)⟩
theorem lw_p19 : lw_okq (⟨"SafeDeskModel", "within", "(III)V"⟩, 26) := ⟨⟨by decide +kernel, by decide +kernel⟩, List.mem_of_getElem? (i := 327) (by decide +kernel), List.mem_of_getElem? (i := 464) (by decide +kernel), List.mem_of_getElem? (i := 465) (by decide +kernel)⟩
theorem lw_p20 : lw_okq (⟨"SafeDeskModel", "back", "(I)V"⟩, 26) := ⟨⟨by decide +kernel, by decide +kernel⟩, List.mem_of_getElem? (i := 327) (by decide +kernel), List.mem_of_getElem? (i := 468) (by decide +kernel), List.mem_of_getElem? (i := 469) (by decide +kernel)⟩
theorem lw_p21 : lw_okq (⟨"SafeDeskModel", "seek", "(II)V"⟩, 26) := ⟨⟨by decide +kernel, by decide +kernel⟩, List.mem_of_getElem? (i := 327) (by decide +kernel), List.mem_of_getElem? (i := 472) (by decide +kernel), List.mem_of_getElem? (i := 473) (by decide +kernel)⟩
theorem lw_p22 : lw_okq (⟨"SafeDeskModel", "enter", "(I)V"⟩, 26) := ⟨⟨by decide +kernel, by decide +kernel⟩, List.mem_of_getElem? (i := 327) (by decide +kernel), List.mem_of_getElem? (i := 476) (by decide +kernel), List.mem_of_getElem? (i := 477) (by decide +kernel)⟩
theorem lw_p23 : lw_okq (⟨"SafeDeskModel", "withSafe", "(III)V"⟩, 26) := ⟨⟨by decide +kernel, by decide +kernel⟩, List.mem_of_getElem? (i := 327) (by decide +kernel), List.mem_of_getElem? (i := 480) (by decide +kernel), List.mem_of_getElem? (i := 481) (by decide +kernel)⟩
theorem lw_p24 : lw_okq (⟨"SafeDeskModel", "put", "(II)Z"⟩, 26) := ⟨⟨by decide +kernel, by decide +kernel⟩, List.mem_of_getElem? (i := 327) (by decide +kernel), List.mem_of_getElem? (i := 484) (by decide +kernel), List.mem_of_getElem? (i := 485) (by decide +kernel)⟩
theorem lw_p25 : lw_okq (⟨"SafeDeskModel", "putPlain", "(II)Z"⟩, 26) := ⟨⟨by decide +kernel, by decide +kernel⟩, List.mem_of_getElem? (i := 327) (by decide +kernel), List.mem_of_getElem? (i := 488) (by decide +kernel), List.mem_of_getElem? (i := 489) (by decide +kernel)⟩
theorem lw_p26 : lw_okq (⟨"SafeDeskModel", "putTimed", "(II)Z"⟩, 26) := ⟨⟨by decide +kernel, by decide +kernel⟩, List.mem_of_getElem? (i := 327) (by decide +kernel), List.mem_of_getElem? (i := 493) (by decide +kernel), List.mem_of_getElem? (i := 494) (by decide +kernel)⟩
theorem lw_p27 : lw_okq (⟨"SafeDeskModel", "worth", "(I)I"⟩, 26) := ⟨⟨by decide +kernel, by decide +kernel⟩, List.mem_of_getElem? (i := 327) (by decide +kernel), List.mem_of_getElem? (i := 497) (by decide +kernel), List.mem_of_getElem? (i := 498) (by decide +kernel)⟩
theorem lw_p28 : lw_okq (⟨"SafeDeskModel", "give", "(III)I"⟩, 26) := ⟨⟨by decide +kernel, by decide +kernel⟩, List.mem_of_getElem? (i := 327) (by decide +kernel), List.mem_of_getElem? (i := 501) (by decide +kernel), List.mem_of_getElem? (i := 502) (by decide +kernel)⟩
def lw_privs_2 : List (MethodName × Nat) := [(⟨"SafeDeskModel", "leave", "(I)V"⟩, 26), (⟨"SafeDeskModel", "fails", "(I)V"⟩, 26), (⟨"SafeDeskModel", "does", "(III)V"⟩, 26), (⟨"SafeDeskModel", "within", "(III)V"⟩, 26), (⟨"SafeDeskModel", "back", "(I)V"⟩, 26), (⟨"SafeDeskModel", "seek", "(II)V"⟩, 26), (⟨"SafeDeskModel", "enter", "(I)V"⟩, 26), (⟨"SafeDeskModel", "withSafe", "(III)V"⟩, 26), (⟨"SafeDeskModel", "put", "(II)Z"⟩, 26), (⟨"SafeDeskModel", "putPlain", "(II)Z"⟩, 26), (⟨"SafeDeskModel", "putTimed", "(II)Z"⟩, 26), (⟨"SafeDeskModel", "worth", "(I)I"⟩, 26), (⟨"SafeDeskModel", "give", "(III)I"⟩, 26)]
theorem lw_r2 : ∀ q ∈ lw_privs_2, lw_okq q := List.forall_mem_cons.mpr ⟨lw_p16, List.forall_mem_cons.mpr ⟨lw_p17, List.forall_mem_cons.mpr ⟨lw_p18, List.forall_mem_cons.mpr ⟨lw_p19, List.forall_mem_cons.mpr ⟨lw_p20, List.forall_mem_cons.mpr ⟨lw_p21, List.forall_mem_cons.mpr ⟨lw_p22, List.forall_mem_cons.mpr ⟨lw_p23, List.forall_mem_cons.mpr ⟨lw_p24, List.forall_mem_cons.mpr ⟨lw_p25, List.forall_mem_cons.mpr ⟨lw_p26, List.forall_mem_cons.mpr ⟨lw_p27, List.forall_mem_cons.mpr ⟨lw_p28, fun _ h => absurd h List.not_mem_nil⟩⟩⟩⟩⟩⟩⟩⟩⟩⟩⟩⟩⟩
def lw_privs : List (MethodName × Nat) := lw_privs_1 ++ (lw_privs_2)
def lw_tbl : List Cond := k2_sels lw_privs ++ tables_1
theorem lw_privs_ok : ∀ q ∈ lw_privs, lw_okq q := by
  show ∀ q ∈ lw_privs_1 ++ (lw_privs_2), lw_okq q
  exact List.forall_mem_append.mpr ⟨lw_r1, lw_r2⟩
/-- the words that ride along to a callee -/
def gd_tbl : List Cond := lw_tbl.filter goodWord
theorem gd_in {w : Cond} (i : Nat) (h : lw_tbl[i]? = some w) (hg : goodWord w = true) : w ∈ gd_tbl := List.mem_filter.mpr ⟨List.mem_of_getElem? h, hg⟩
theorem gd_good : ∀ w ∈ gd_tbl, w ∈ gd_tbl ∧ ((w.onTables && w.keeps) = true ∨ ∃ ty, w = .arrayClass ty) := fun w h => ⟨h, good_of_word (List.mem_filter.mp h).2⟩
theorem gd_lw : ∀ w ∈ gd_tbl, w ∈ lw_tbl := fun _ h => (List.mem_filter.mp h).1
end
section
/-! ===== BEGIN printed: names, fields, word lists, decode rows ===== -/
def RX0 : String := "SafeDesk$Plan"
def TX0 : u_T := fun k => match k with
  | 0 => ("SafeDesk$Plan", "kinds", "[I", true)
  | 1 => ("SafeDesk$Plan", "as", "[I", true)
  | 2 => ("SafeDesk$Plan", "bs", "[I", true)
  | _ => ("SafeDesk$Plan", "size", "I", false)
def tyX0 : Nat → FieldType := fun k => match k with
  | 0 => .array .int
  | 1 => .array .int
  | 2 => .array .int
  | _ => .int
abbrev wsX00 : List Cond := u_ws RX0 TX0 4
theorem nmX0 : ∀ a, a < 4 → ∀ b, b < 4 → a ≠ b → (TX0 a).2.1 ≠ (TX0 b).2.1 := by decide +kernel
theorem tyX0_ok : ∀ k, k < 4 → parseFieldDescriptor (TX0 k).2.2.1 = some (tyX0 k) := by decide +kernel
abbrev cX0_init : ByteArray := prog_2_method_1_code
def yX0_init : MethodName := ⟨RX0, "<init>", "()V"⟩
abbrev cX0_add : ByteArray := prog_2_method_2_code
def yX0_add : MethodName := ⟨RX0, "add", "(III)V"⟩
abbrev cX0_behind : ByteArray := prog_2_method_3_code
def yX0_behind : MethodName := ⟨RX0, "behind", "(II)I"⟩
def RX1 : String := "SafeDesk$Safe"
def TX1 : u_T := fun k => match k with
  | 0 => ("SafeDesk$Safe", "kind", "I", true)
  | 1 => ("SafeDesk$Safe", "coins", "I", false)
  | 2 => ("SafeDesk$Safe", "turn", "I", false)
  | 3 => ("SafeDesk$Safe", "entries", "I", false)
  | 4 => ("SafeDesk$Safe", "depth", "I", false)
  | _ => ("SafeDesk$Safe", "most", "I", false)
def tyX1 : Nat → FieldType := fun k => match k with
  | 0 => .int
  | 1 => .int
  | 2 => .int
  | 3 => .int
  | 4 => .int
  | _ => .int
abbrev wsX10 : List Cond := u_ws RX1 TX1 6
theorem nmX1 : ∀ a, a < 6 → ∀ b, b < 6 → a ≠ b → (TX1 a).2.1 ≠ (TX1 b).2.1 := by decide +kernel
theorem tyX1_ok : ∀ k, k < 6 → parseFieldDescriptor (TX1 k).2.2.1 = some (tyX1 k) := by decide +kernel
abbrev cX1_init : ByteArray := prog_3_method_1_code
def yX1_init : MethodName := ⟨RX1, "<init>", "(II)V"⟩
abbrev cX1_enter : ByteArray := prog_3_method_2_code
def yX1_enter : MethodName := ⟨RX1, "enter", "()V"⟩
abbrev cX1_leave : ByteArray := prog_3_method_3_code
def yX1_leave : MethodName := ⟨RX1, "leave", "()V"⟩
abbrev cX1_put : ByteArray := prog_3_method_4_code
def yX1_put : MethodName := ⟨RX1, "put", "(I)I"⟩
abbrev cX1_worth : ByteArray := prog_3_method_5_code
def yX1_worth : MethodName := ⟨RX1, "worth", "()I"⟩
abbrev cX1_give : ByteArray := prog_3_method_6_code
def yX1_give : MethodName := ⟨RX1, "give", "(ILSafeDesk$Safe;)I"⟩
def RX2 : String := "SafeDesk$Timed"
def TX2 : u_T := fun k => match k with
  | 0 => ("SafeDesk$Safe", "kind", "I", true)
  | 1 => ("SafeDesk$Safe", "coins", "I", false)
  | 2 => ("SafeDesk$Safe", "turn", "I", false)
  | 3 => ("SafeDesk$Safe", "entries", "I", false)
  | 4 => ("SafeDesk$Safe", "depth", "I", false)
  | _ => ("SafeDesk$Safe", "most", "I", false)
def tyX2 : Nat → FieldType := fun k => match k with
  | 0 => .int
  | 1 => .int
  | 2 => .int
  | 3 => .int
  | 4 => .int
  | _ => .int
abbrev wsX20 : List Cond := u_ws RX2 TX2 6
theorem nmX2 : ∀ a, a < 6 → ∀ b, b < 6 → a ≠ b → (TX2 a).2.1 ≠ (TX2 b).2.1 := by decide +kernel
theorem tyX2_ok : ∀ k, k < 6 → parseFieldDescriptor (TX2 k).2.2.1 = some (tyX2 k) := by decide +kernel
abbrev cX2_init : ByteArray := prog_4_method_1_code
def yX2_init : MethodName := ⟨RX2, "<init>", "(II)V"⟩
abbrev cX2_put : ByteArray := prog_4_method_2_code
def yX2_put : MethodName := ⟨RX2, "put", "(I)I"⟩
abbrev cX2_worth : ByteArray := prog_4_method_3_code
def yX2_worth : MethodName := ⟨RX2, "worth", "()I"⟩
def RX3 : String := "SafeDesk$Vault"
def TX3 : u_T := fun k => match k with
  | 0 => ("SafeDesk$Safe", "kind", "I", true)
  | 1 => ("SafeDesk$Safe", "coins", "I", false)
  | 2 => ("SafeDesk$Safe", "turn", "I", false)
  | 3 => ("SafeDesk$Safe", "entries", "I", false)
  | 4 => ("SafeDesk$Safe", "depth", "I", false)
  | _ => ("SafeDesk$Safe", "most", "I", false)
def tyX3 : Nat → FieldType := fun k => match k with
  | 0 => .int
  | 1 => .int
  | 2 => .int
  | 3 => .int
  | 4 => .int
  | _ => .int
abbrev wsX30 : List Cond := u_ws RX3 TX3 6
theorem nmX3 : ∀ a, a < 6 → ∀ b, b < 6 → a ≠ b → (TX3 a).2.1 ≠ (TX3 b).2.1 := by decide +kernel
theorem tyX3_ok : ∀ k, k < 6 → parseFieldDescriptor (TX3 k).2.2.1 = some (tyX3 k) := by decide +kernel
abbrev cX3_init : ByteArray := prog_5_method_1_code
def yX3_init : MethodName := ⟨RX3, "<init>", "(II)V"⟩
abbrev cX3_put : ByteArray := prog_5_method_2_code
def yX3_put : MethodName := ⟨RX3, "put", "(I)I"⟩
abbrev cX3_worth : ByteArray := prog_5_method_3_code
def yX3_worth : MethodName := ⟨RX3, "worth", "()I"⟩
def RX4 : String := "SafeDesk"
def TX4 : u_T := fun k => match k with
  | 0 => ("SafeDesk", "rooms", "[LSafeDesk$Safe;", true)
  | 1 => ("SafeDesk", "plans", "[LSafeDesk$Plan;", true)
  | 2 => ("SafeDesk", "traceNumbers", "[I", true)
  | 3 => ("SafeDesk", "traced", "I", false)
  | 4 => ("SafeDesk", "valueNow", "I", false)
  | 5 => ("SafeDesk", "begun", "I", false)
  | 6 => ("SafeDesk", "failure", "I", false)
  | 7 => ("SafeDesk", "plansAtWork", "I", false)
  | _ => ("SafeDesk", "mostPlansAtWork", "I", false)
def tyX4 : Nat → FieldType := fun k => match k with
  | 0 => .array (.object "SafeDesk$Safe")
  | 1 => .array (.object "SafeDesk$Plan")
  | 2 => .array .int
  | 3 => .int
  | 4 => .int
  | 5 => .int
  | 6 => .int
  | 7 => .int
  | _ => .int
abbrev wsX40 : List Cond := u_ws RX4 TX4 9
theorem nmX4 : ∀ a, a < 9 → ∀ b, b < 9 → a ≠ b → (TX4 a).2.1 ≠ (TX4 b).2.1 := by decide +kernel
theorem tyX4_ok : ∀ k, k < 9 → parseFieldDescriptor (TX4 k).2.2.1 = some (tyX4 k) := by decide +kernel
abbrev cX4_init : ByteArray := prog_1_method_1_code
def yX4_init : MethodName := ⟨RX4, "<init>", "()V"⟩
abbrev cX4_safe : ByteArray := prog_1_method_2_code
def yX4_safe : MethodName := ⟨RX4, "safe", "(III)I"⟩
abbrev cX4_share : ByteArray := prog_1_method_3_code
def yX4_share : MethodName := ⟨RX4, "share", "(II)I"⟩
abbrev cX4_same : ByteArray := prog_1_method_4_code
def yX4_same : MethodName := ⟨RX4, "same", "(II)I"⟩
abbrev cX4_step : ByteArray := prog_1_method_5_code
def yX4_step : MethodName := ⟨RX4, "step", "(IIII)I"⟩
abbrev cX4_clear : ByteArray := prog_1_method_6_code
def yX4_clear : MethodName := ⟨RX4, "clear", "(I)I"⟩
abbrev cX4_run : ByteArray := prog_1_method_7_code
def yX4_run : MethodName := ⟨RX4, "run", "(II)I"⟩
abbrev cX4_value : ByteArray := prog_1_method_8_code
def yX4_value : MethodName := ⟨RX4, "value", "()I"⟩
abbrev cX4_trace : ByteArray := prog_1_method_9_code
def yX4_trace : MethodName := ⟨RX4, "trace", "(I)I"⟩
abbrev cX4_told : ByteArray := prog_1_method_10_code
def yX4_told : MethodName := ⟨RX4, "told", "(II)I"⟩
abbrev cX4_count : ByteArray := prog_1_method_11_code
def yX4_count : MethodName := ⟨RX4, "count", "(I)I"⟩
abbrev cX4_isRoom : ByteArray := prog_1_method_12_code
def yX4_isRoom : MethodName := ⟨RX4, "isRoom", "(I)Z"⟩
abbrev cX4_isPlan : ByteArray := prog_1_method_13_code
def yX4_isPlan : MethodName := ⟨RX4, "isPlan", "(I)Z"⟩
abbrev cX4_isBlock : ByteArray := prog_1_method_14_code
def yX4_isBlock : MethodName := ⟨RX4, "isBlock", "(I)Z"⟩
abbrev cX4_isOwnFailure : ByteArray := prog_1_method_15_code
def yX4_isOwnFailure : MethodName := ⟨RX4, "isOwnFailure", "(I)Z"⟩
abbrev cX4_canBeHeld : ByteArray := prog_1_method_16_code
def yX4_canBeHeld : MethodName := ⟨RX4, "canBeHeld", "(I)Z"⟩
abbrev cX4_isStep : ByteArray := prog_1_method_17_code
def yX4_isStep : MethodName := ⟨RX4, "isStep", "(III)Z"⟩
abbrev cX4_newSafe : ByteArray := prog_1_method_18_code
def yX4_newSafe : MethodName := ⟨RX4, "newSafe", "(II)LSafeDesk$Safe;"⟩
abbrev cX4_safeIn : ByteArray := prog_1_method_19_code
def yX4_safeIn : MethodName := ⟨RX4, "safeIn", "(I)LSafeDesk$Safe;"⟩
abbrev cX4_setRoom : ByteArray := prog_1_method_20_code
def yX4_setRoom : MethodName := ⟨RX4, "setRoom", "(ILSafeDesk$Safe;)V"⟩
abbrev cX4_roomsWithSafe : ByteArray := prog_1_method_21_code
def yX4_roomsWithSafe : MethodName := ⟨RX4, "roomsWithSafe", "()I"⟩
abbrev cX4_leaveInTrace : ByteArray := prog_1_method_22_code
def yX4_leaveInTrace : MethodName := ⟨RX4, "leaveInTrace", "(I)V"⟩
abbrev cX4_doPlan : ByteArray := prog_1_method_23_code
def yX4_doPlan : MethodName := ⟨RX4, "doPlan", "(I)I"⟩
abbrev cX4_doSteps : ByteArray := prog_1_method_24_code
def yX4_doSteps : MethodName := ⟨RX4, "doSteps", "(LSafeDesk$Plan;II)I"⟩
abbrev cX4_doStep : ByteArray := prog_1_method_25_code
def yX4_doStep : MethodName := ⟨RX4, "doStep", "(LSafeDesk$Plan;II)I"⟩
abbrev cX4_doInside : ByteArray := prog_1_method_26_code
def yX4_doInside : MethodName := ⟨RX4, "doInside", "(LSafeDesk$Safe;LSafeDesk$Plan;II)I"⟩
abbrev cX4_doTry : ByteArray := prog_1_method_27_code
def yX4_doTry : MethodName := ⟨RX4, "doTry", "(ILSafeDesk$Plan;II)I"⟩
abbrev cX4_doWithValue : ByteArray := prog_1_method_28_code
def yX4_doWithValue : MethodName := ⟨RX4, "doWithValue", "(II)I"⟩
abbrev cX4_doWithRooms : ByteArray := prog_1_method_29_code
def yX4_doWithRooms : MethodName := ⟨RX4, "doWithRooms", "(III)I"⟩
abbrev cX4_seek : ByteArray := prog_1_method_30_code
def yX4_seek : MethodName := ⟨RX4, "seek", "(II)I"⟩
abbrev cX4_doWithSafe : ByteArray := prog_1_method_31_code
def yX4_doWithSafe : MethodName := ⟨RX4, "doWithSafe", "(ILSafeDesk$Safe;I)I"⟩
def RX5 : String := "SafeDeskModel"
def TX5 : u_T := fun k => match k with
  | 0 => ("SafeDeskModel", "safes", "I", false)
  | 1 => ("SafeDeskModel", "kinds", "[I", true)
  | 2 => ("SafeDeskModel", "coins", "[I", true)
  | 3 => ("SafeDeskModel", "turns", "[I", true)
  | 4 => ("SafeDeskModel", "entries", "[I", true)
  | 5 => ("SafeDeskModel", "depths", "[I", true)
  | 6 => ("SafeDeskModel", "mosts", "[I", true)
  | 7 => ("SafeDeskModel", "rooms", "[I", true)
  | 8 => ("SafeDeskModel", "many", "[I", true)
  | 9 => ("SafeDeskModel", "stepKind", "[I", true)
  | 10 => ("SafeDeskModel", "stepA", "[I", true)
  | 11 => ("SafeDeskModel", "stepB", "[I", true)
  | 12 => ("SafeDeskModel", "value", "I", false)
  | 13 => ("SafeDeskModel", "steps", "I", false)
  | 14 => ("SafeDeskModel", "failure", "I", false)
  | 15 => ("SafeDeskModel", "ended", "I", false)
  | 16 => ("SafeDeskModel", "atWork", "I", false)
  | 17 => ("SafeDeskModel", "mostPlans", "I", false)
  | 18 => ("SafeDeskModel", "traces", "I", false)
  | 19 => ("SafeDeskModel", "traced", "[I", true)
  | 20 => ("SafeDeskModel", "blocks", "I", false)
  | 21 => ("SafeDeskModel", "sort", "[I", true)
  | 22 => ("SafeDeskModel", "planOf", "[I", true)
  | 23 => ("SafeDeskModel", "next", "[I", true)
  | 24 => ("SafeDeskModel", "end", "[I", true)
  | _ => ("SafeDeskModel", "about", "[I", true)
def tyX5 : Nat → FieldType := fun k => match k with
  | 0 => .int
  | 1 => .array .int
  | 2 => .array .int
  | 3 => .array .int
  | 4 => .array .int
  | 5 => .array .int
  | 6 => .array .int
  | 7 => .array .int
  | 8 => .array .int
  | 9 => .array .int
  | 10 => .array .int
  | 11 => .array .int
  | 12 => .int
  | 13 => .int
  | 14 => .int
  | 15 => .int
  | 16 => .int
  | 17 => .int
  | 18 => .int
  | 19 => .array .int
  | 20 => .int
  | 21 => .array .int
  | 22 => .array .int
  | 23 => .array .int
  | 24 => .array .int
  | _ => .array .int
abbrev wsX50 : List Cond := u_ws RX5 TX5 26
theorem nmX5 : ∀ a, a < 26 → ∀ b, b < 26 → a ≠ b → (TX5 a).2.1 ≠ (TX5 b).2.1 := by decide +kernel
theorem tyX5_ok : ∀ k, k < 26 → parseFieldDescriptor (TX5 k).2.2.1 = some (tyX5 k) := by decide +kernel
abbrev cX5_init : ByteArray := prog_7_method_1_code
def yX5_init : MethodName := ⟨RX5, "<init>", "()V"⟩
abbrev cX5_in : ByteArray := prog_7_method_2_code
def yX5_in : MethodName := ⟨RX5, "in", "(III)Z"⟩
abbrev cX5_safe : ByteArray := prog_7_method_3_code
def yX5_safe : MethodName := ⟨RX5, "safe", "(III)I"⟩
abbrev cX5_share : ByteArray := prog_7_method_4_code
def yX5_share : MethodName := ⟨RX5, "share", "(II)I"⟩
abbrev cX5_same : ByteArray := prog_7_method_5_code
def yX5_same : MethodName := ⟨RX5, "same", "(II)I"⟩
abbrev cX5_enter : ByteArray := prog_7_method_6_code
def yX5_enter : MethodName := ⟨RX5, "enter", "(I)V"⟩
abbrev cX5_putPlain : ByteArray := prog_7_method_7_code
def yX5_putPlain : MethodName := ⟨RX5, "putPlain", "(II)Z"⟩
abbrev cX5_putTimed : ByteArray := prog_7_method_8_code
def yX5_putTimed : MethodName := ⟨RX5, "putTimed", "(II)Z"⟩
abbrev cX5_put : ByteArray := prog_7_method_9_code
def yX5_put : MethodName := ⟨RX5, "put", "(II)Z"⟩
abbrev cX5_worth : ByteArray := prog_7_method_10_code
def yX5_worth : MethodName := ⟨RX5, "worth", "(I)I"⟩
abbrev cX5_give : ByteArray := prog_7_method_11_code
def yX5_give : MethodName := ⟨RX5, "give", "(III)I"⟩
abbrev cX5_step : ByteArray := prog_7_method_12_code
def yX5_step : MethodName := ⟨RX5, "step", "(IIII)I"⟩
abbrev cX5_clear : ByteArray := prog_7_method_13_code
def yX5_clear : MethodName := ⟨RX5, "clear", "(I)I"⟩
abbrev cX5_leave : ByteArray := prog_7_method_14_code
def yX5_leave : MethodName := ⟨RX5, "leave", "(I)V"⟩
abbrev cX5_push : ByteArray := prog_7_method_15_code
def yX5_push : MethodName := ⟨RX5, "push", "(IIIII)V"⟩
abbrev cX5_beginPlan : ByteArray := prog_7_method_16_code
def yX5_beginPlan : MethodName := ⟨RX5, "beginPlan", "(I)V"⟩
abbrev cX5_pop : ByteArray := prog_7_method_17_code
def yX5_pop : MethodName := ⟨RX5, "pop", "()V"⟩
abbrev cX5_fails : ByteArray := prog_7_method_18_code
def yX5_fails : MethodName := ⟨RX5, "fails", "(I)V"⟩
abbrev cX5_within : ByteArray := prog_7_method_19_code
def yX5_within : MethodName := ⟨RX5, "within", "(III)V"⟩
abbrev cX5_back : ByteArray := prog_7_method_20_code
def yX5_back : MethodName := ⟨RX5, "back", "(I)V"⟩
abbrev cX5_seek : ByteArray := prog_7_method_21_code
def yX5_seek : MethodName := ⟨RX5, "seek", "(II)V"⟩
abbrev cX5_withSafe : ByteArray := prog_7_method_22_code
def yX5_withSafe : MethodName := ⟨RX5, "withSafe", "(III)V"⟩
abbrev cX5_does : ByteArray := prog_7_method_23_code
def yX5_does : MethodName := ⟨RX5, "does", "(III)V"⟩
abbrev cX5_run : ByteArray := prog_7_method_24_code
def yX5_run : MethodName := ⟨RX5, "run", "(II)I"⟩
abbrev cX5_value : ByteArray := prog_7_method_25_code
def yX5_value : MethodName := ⟨RX5, "value", "()I"⟩
abbrev cX5_trace : ByteArray := prog_7_method_26_code
def yX5_trace : MethodName := ⟨RX5, "trace", "(I)I"⟩
abbrev cX5_told : ByteArray := prog_7_method_27_code
def yX5_told : MethodName := ⟨RX5, "told", "(II)I"⟩
abbrev cX5_count : ByteArray := prog_7_method_28_code
def yX5_count : MethodName := ⟨RX5, "count", "(I)I"⟩
def RJ9 : String := "java/lang/Math"
def TJ9 : u_T := fun k => match k with
  | _ => ("", "", "", false)
def tyJ9 : Nat → FieldType := fun k => match k with
  | _ => .int
abbrev wsJ90 : List Cond := u_ws RJ9 TJ9 0
theorem nmJ9 : ∀ a, a < 0 → ∀ b, b < 0 → a ≠ b → (TJ9 a).2.1 ≠ (TJ9 b).2.1 := by decide +kernel
theorem tyJ9_ok : ∀ k, k < 0 → parseFieldDescriptor (TJ9 k).2.2.1 = some (tyJ9 k) := by decide +kernel
abbrev cJ9_floorMod_7cf53 : ByteArray := prog_8_method_50_code
def yJ9_floorMod_7cf53 : MethodName := ⟨RJ9, "floorMod", "(II)I"⟩
abbrev cJ9_max_7cf53 : ByteArray := prog_8_method_65_code
def yJ9_max_7cf53 : MethodName := ⟨RJ9, "max", "(II)I"⟩
abbrev cJ9_min_7cf53 : ByteArray := prog_8_method_69_code
def yJ9_min_7cf53 : MethodName := ⟨RJ9, "min", "(II)I"⟩
def RL : String := "SafeDeskLaw"
abbrev cL_law : ByteArray := code
def yL_law : MethodName := ⟨RL, "law", "([I)Z"⟩
end
section
theorem m_0 : (Jvm.Cond.initialized "SafeDeskLaw") ∈ gd_tbl := gd_in 29 (by decide +kernel) rfl
theorem m_1 : (Jvm.Cond.initialized "SafeDesk") ∈ gd_tbl := gd_in 30 (by decide +kernel) rfl
theorem m_2 : (Jvm.Cond.initialized "SafeDesk$Plan") ∈ gd_tbl := gd_in 31 (by decide +kernel) rfl
theorem m_3 : (Jvm.Cond.initialized "SafeDeskModel") ∈ gd_tbl := gd_in 32 (by decide +kernel) rfl
theorem m_4 : (Jvm.Cond.initialized "SafeDesk$Safe") ∈ gd_tbl := gd_in 33 (by decide +kernel) rfl
theorem m_5 : (Jvm.Cond.initialized "SafeDesk$Timed") ∈ gd_tbl := gd_in 34 (by decide +kernel) rfl
theorem m_6 : (Jvm.Cond.initialized "SafeDesk$Vault") ∈ gd_tbl := gd_in 35 (by decide +kernel) rfl
theorem m_7 : (Jvm.Cond.initialized "java/lang/Math") ∈ gd_tbl := gd_in 36 (by decide +kernel) rfl
theorem m_8 : (Jvm.Cond.classLink "SafeDeskLaw" (7 : Nat) "SafeDesk") ∈ gd_tbl := gd_in 37 (by decide +kernel) rfl
theorem m_9 : (Jvm.Cond.instantiable "SafeDesk" (9 : Nat)) ∈ gd_tbl := gd_in 38 (by decide +kernel) rfl
theorem m_10 : (Jvm.Cond.methodLink "SafeDeskLaw" (9 : Nat) ({ cls := "SafeDesk", name := "<init>", desc := "()V" } : Jvm.MethodName)) ∈ gd_tbl := gd_in 39 (by decide +kernel) rfl
theorem m_11 : (Jvm.Cond.instanceMethod ({ cls := "SafeDesk", name := "<init>", desc := "()V" } : Jvm.MethodName)) ∈ gd_tbl := gd_in 40 (by decide +kernel) rfl
theorem m_12 : (Jvm.Cond.code ({ cls := "SafeDesk", name := "<init>", desc := "()V" } : Jvm.MethodName) prog_1_method_1_code (2 : Nat) (Option.none : Option Jvm.ClassFile.FieldType)) ∈ gd_tbl := gd_in 41 (by decide +kernel) rfl
theorem m_13 : (Jvm.Cond.methodLink "SafeDesk" (1 : Nat) ({ cls := "java/lang/Object", name := "<init>", desc := "()V" } : Jvm.MethodName)) ∈ gd_tbl := gd_in 42 (by decide +kernel) rfl
theorem m_14 : (Jvm.Cond.instanceMethod ({ cls := "java/lang/Object", name := "<init>", desc := "()V" } : Jvm.MethodName)) ∈ gd_tbl := gd_in 43 (by decide +kernel) rfl
theorem m_15 : (Jvm.Cond.code ({ cls := "java/lang/Object", name := "<init>", desc := "()V" } : Jvm.MethodName) object_method_1_code (1 : Nat) (Option.none : Option Jvm.ClassFile.FieldType)) ∈ gd_tbl := gd_in 44 (by decide +kernel) rfl
theorem m_16 : (Jvm.Cond.classLink "SafeDesk" (9 : Nat) "SafeDesk$Safe") ∈ gd_tbl := gd_in 45 (by decide +kernel) rfl
theorem m_18 : (Jvm.Cond.classLink "SafeDesk" (15 : Nat) "SafeDesk$Plan") ∈ gd_tbl := gd_in 47 (by decide +kernel) rfl
theorem m_20 : (Jvm.Cond.instantiable "SafeDesk$Plan" (4 : Nat)) ∈ gd_tbl := gd_in 49 (by decide +kernel) rfl
theorem m_22 : (Jvm.Cond.instanceMethod ({ cls := "SafeDesk$Plan", name := "<init>", desc := "()V" } : Jvm.MethodName)) ∈ gd_tbl := gd_in 51 (by decide +kernel) rfl
theorem m_23 : (Jvm.Cond.code ({ cls := "SafeDesk$Plan", name := "<init>", desc := "()V" } : Jvm.MethodName) prog_2_method_1_code (1 : Nat) (Option.none : Option Jvm.ClassFile.FieldType)) ∈ gd_tbl := gd_in 52 (by decide +kernel) rfl
theorem m_24 : (Jvm.Cond.methodLink "SafeDesk$Plan" (3 : Nat) ({ cls := "java/lang/Object", name := "<init>", desc := "()V" } : Jvm.MethodName)) ∈ gd_tbl := gd_in 53 (by decide +kernel) rfl
theorem m_25 : (Jvm.Cond.fieldLink "SafeDesk$Plan" (9 : Nat) "SafeDesk$Plan" "kinds" "[I") ∈ gd_tbl := gd_in 54 (by decide +kernel) rfl
theorem m_26 : (Jvm.Cond.fieldLink "SafeDesk" (132 : Nat) "SafeDesk$Plan" "kinds" "[I") ∈ gd_tbl := gd_in 55 (by decide +kernel) rfl
theorem m_27 : (Jvm.Cond.fieldLink "SafeDesk$Plan" (15 : Nat) "SafeDesk$Plan" "as" "[I") ∈ gd_tbl := gd_in 56 (by decide +kernel) rfl
theorem m_28 : (Jvm.Cond.fieldLink "SafeDesk" (135 : Nat) "SafeDesk$Plan" "as" "[I") ∈ gd_tbl := gd_in 57 (by decide +kernel) rfl
theorem m_29 : (Jvm.Cond.fieldLink "SafeDesk$Plan" (18 : Nat) "SafeDesk$Plan" "bs" "[I") ∈ gd_tbl := gd_in 58 (by decide +kernel) rfl
theorem m_30 : (Jvm.Cond.fieldLink "SafeDesk" (153 : Nat) "SafeDesk$Plan" "bs" "[I") ∈ gd_tbl := gd_in 59 (by decide +kernel) rfl
theorem m_31 : (Jvm.Cond.fieldLink "SafeDesk$Plan" (21 : Nat) "SafeDesk$Plan" "size" "I") ∈ gd_tbl := gd_in 60 (by decide +kernel) rfl
theorem m_32 : (Jvm.Cond.fieldLink "SafeDesk" (42 : Nat) "SafeDesk$Plan" "size" "I") ∈ gd_tbl := gd_in 61 (by decide +kernel) rfl
theorem m_33 : (Jvm.Cond.laysFinal "SafeDesk$Plan" "SafeDesk$Plan" "kinds" "[I") ∈ gd_tbl := gd_in 62 (by decide +kernel) rfl
theorem m_34 : (Jvm.Cond.soleField "SafeDesk$Plan" "kinds") ∈ gd_tbl := gd_in 63 (by decide +kernel) rfl
theorem m_35 : (Jvm.Cond.laysFinal "SafeDesk$Plan" "SafeDesk$Plan" "as" "[I") ∈ gd_tbl := gd_in 64 (by decide +kernel) rfl
theorem m_36 : (Jvm.Cond.soleField "SafeDesk$Plan" "as") ∈ gd_tbl := gd_in 65 (by decide +kernel) rfl
theorem m_37 : (Jvm.Cond.laysFinal "SafeDesk$Plan" "SafeDesk$Plan" "bs" "[I") ∈ gd_tbl := gd_in 66 (by decide +kernel) rfl
theorem m_38 : (Jvm.Cond.soleField "SafeDesk$Plan" "bs") ∈ gd_tbl := gd_in 67 (by decide +kernel) rfl
theorem m_39 : (Jvm.Cond.lays "SafeDesk$Plan" "SafeDesk$Plan" "size" "I") ∈ gd_tbl := gd_in 68 (by decide +kernel) rfl
theorem m_40 : (Jvm.Cond.soleField "SafeDesk$Plan" "size") ∈ gd_tbl := gd_in 69 (by decide +kernel) rfl
theorem m_41 : (Jvm.Cond.superclass "SafeDesk$Plan" "java/lang/Object") ∈ gd_tbl := gd_in 70 (by decide +kernel) rfl
theorem m_42 : (Jvm.Cond.arrayClass Jvm.ClassFile.FieldType.int) ∈ gd_tbl := gd_in 71 (by decide +kernel) rfl
theorem m_43 : (Jvm.Cond.fieldLink "SafeDesk" (11 : Nat) "SafeDesk" "rooms" "[LSafeDesk$Safe;") ∈ gd_tbl := gd_in 72 (by decide +kernel) rfl
theorem m_44 : (Jvm.Cond.fieldLink "SafeDesk" (17 : Nat) "SafeDesk" "plans" "[LSafeDesk$Plan;") ∈ gd_tbl := gd_in 73 (by decide +kernel) rfl
theorem m_45 : (Jvm.Cond.fieldLink "SafeDesk" (21 : Nat) "SafeDesk" "traceNumbers" "[I") ∈ gd_tbl := gd_in 74 (by decide +kernel) rfl
theorem m_46 : (Jvm.Cond.fieldLink "SafeDesk" (56 : Nat) "SafeDesk" "traced" "I") ∈ gd_tbl := gd_in 75 (by decide +kernel) rfl
theorem m_47 : (Jvm.Cond.fieldLink "SafeDesk" (50 : Nat) "SafeDesk" "valueNow" "I") ∈ gd_tbl := gd_in 76 (by decide +kernel) rfl
theorem m_48 : (Jvm.Cond.fieldLink "SafeDesk" (53 : Nat) "SafeDesk" "begun" "I") ∈ gd_tbl := gd_in 77 (by decide +kernel) rfl
theorem m_49 : (Jvm.Cond.fieldLink "SafeDesk" (66 : Nat) "SafeDesk" "failure" "I") ∈ gd_tbl := gd_in 78 (by decide +kernel) rfl
theorem m_50 : (Jvm.Cond.fieldLink "SafeDesk" (113 : Nat) "SafeDesk" "plansAtWork" "I") ∈ gd_tbl := gd_in 79 (by decide +kernel) rfl
theorem m_51 : (Jvm.Cond.fieldLink "SafeDesk" (59 : Nat) "SafeDesk" "mostPlansAtWork" "I") ∈ gd_tbl := gd_in 80 (by decide +kernel) rfl
theorem m_52 : (Jvm.Cond.laysFinal "SafeDesk" "SafeDesk" "rooms" "[LSafeDesk$Safe;") ∈ gd_tbl := gd_in 81 (by decide +kernel) rfl
theorem m_53 : (Jvm.Cond.soleField "SafeDesk" "rooms") ∈ gd_tbl := gd_in 82 (by decide +kernel) rfl
theorem m_54 : (Jvm.Cond.laysFinal "SafeDesk" "SafeDesk" "plans" "[LSafeDesk$Plan;") ∈ gd_tbl := gd_in 83 (by decide +kernel) rfl
theorem m_55 : (Jvm.Cond.soleField "SafeDesk" "plans") ∈ gd_tbl := gd_in 84 (by decide +kernel) rfl
theorem m_56 : (Jvm.Cond.laysFinal "SafeDesk" "SafeDesk" "traceNumbers" "[I") ∈ gd_tbl := gd_in 85 (by decide +kernel) rfl
theorem m_57 : (Jvm.Cond.soleField "SafeDesk" "traceNumbers") ∈ gd_tbl := gd_in 86 (by decide +kernel) rfl
theorem m_58 : (Jvm.Cond.lays "SafeDesk" "SafeDesk" "traced" "I") ∈ gd_tbl := gd_in 87 (by decide +kernel) rfl
theorem m_59 : (Jvm.Cond.soleField "SafeDesk" "traced") ∈ gd_tbl := gd_in 88 (by decide +kernel) rfl
theorem m_60 : (Jvm.Cond.lays "SafeDesk" "SafeDesk" "valueNow" "I") ∈ gd_tbl := gd_in 89 (by decide +kernel) rfl
theorem m_61 : (Jvm.Cond.soleField "SafeDesk" "valueNow") ∈ gd_tbl := gd_in 90 (by decide +kernel) rfl
theorem m_62 : (Jvm.Cond.lays "SafeDesk" "SafeDesk" "begun" "I") ∈ gd_tbl := gd_in 91 (by decide +kernel) rfl
theorem m_63 : (Jvm.Cond.soleField "SafeDesk" "begun") ∈ gd_tbl := gd_in 92 (by decide +kernel) rfl
theorem m_64 : (Jvm.Cond.lays "SafeDesk" "SafeDesk" "failure" "I") ∈ gd_tbl := gd_in 93 (by decide +kernel) rfl
theorem m_65 : (Jvm.Cond.soleField "SafeDesk" "failure") ∈ gd_tbl := gd_in 94 (by decide +kernel) rfl
theorem m_66 : (Jvm.Cond.lays "SafeDesk" "SafeDesk" "plansAtWork" "I") ∈ gd_tbl := gd_in 95 (by decide +kernel) rfl
theorem m_67 : (Jvm.Cond.soleField "SafeDesk" "plansAtWork") ∈ gd_tbl := gd_in 96 (by decide +kernel) rfl
theorem m_68 : (Jvm.Cond.lays "SafeDesk" "SafeDesk" "mostPlansAtWork" "I") ∈ gd_tbl := gd_in 97 (by decide +kernel) rfl
theorem m_69 : (Jvm.Cond.soleField "SafeDesk" "mostPlansAtWork") ∈ gd_tbl := gd_in 98 (by decide +kernel) rfl
theorem m_70 : (Jvm.Cond.superclass "SafeDesk" "java/lang/Object") ∈ gd_tbl := gd_in 99 (by decide +kernel) rfl
theorem m_71 : (Jvm.Cond.methodLink "SafeDeskLaw" (13 : Nat) ({ cls := "SafeDesk", name := "safe", desc := "(III)I" } : Jvm.MethodName)) ∈ gd_tbl := gd_in 100 (by decide +kernel) rfl
theorem m_72 : (Jvm.Cond.instanceMethod ({ cls := "SafeDesk", name := "safe", desc := "(III)I" } : Jvm.MethodName)) ∈ gd_tbl := gd_in 101 (by decide +kernel) rfl
theorem m_73 : (Jvm.Cond.selects "SafeDesk" ({ cls := "SafeDesk", name := "safe", desc := "(III)I" } : Jvm.MethodName) ({ cls := "SafeDesk", name := "safe", desc := "(III)I" } : Jvm.MethodName)) ∈ gd_tbl := gd_in 102 (by decide +kernel) rfl
theorem m_74 : (Jvm.Cond.code ({ cls := "SafeDesk", name := "safe", desc := "(III)I" } : Jvm.MethodName) prog_1_method_2_code (4 : Nat) (Option.some Jvm.ClassFile.FieldType.int)) ∈ gd_tbl := gd_in 103 (by decide +kernel) rfl
theorem m_75 : (Jvm.Cond.methodLink "SafeDesk" (26 : Nat) ({ cls := "SafeDesk", name := "isRoom", desc := "(I)Z" } : Jvm.MethodName)) ∈ gd_tbl := gd_in 104 (by decide +kernel) rfl
theorem m_76 : (Jvm.Cond.static ({ cls := "SafeDesk", name := "isRoom", desc := "(I)Z" } : Jvm.MethodName)) ∈ gd_tbl := gd_in 105 (by decide +kernel) rfl
theorem m_77 : (Jvm.Cond.code ({ cls := "SafeDesk", name := "isRoom", desc := "(I)Z" } : Jvm.MethodName) prog_1_method_12_code (1 : Nat) (Option.some Jvm.ClassFile.FieldType.boolean)) ∈ gd_tbl := gd_in 106 (by decide +kernel) rfl
theorem m_78 : (Jvm.Cond.constant "SafeDesk" (30 : Nat) (1000000 : Int32)) ∈ gd_tbl := gd_in 107 (by decide +kernel) rfl
theorem m_79 : (Jvm.Cond.methodLink "SafeDesk" (31 : Nat) ({ cls := "SafeDesk", name := "newSafe", desc := "(II)LSafeDesk$Safe;" } : Jvm.MethodName)) ∈ gd_tbl := gd_in 108 (by decide +kernel) rfl
theorem m_80 : (Jvm.Cond.static ({ cls := "SafeDesk", name := "newSafe", desc := "(II)LSafeDesk$Safe;" } : Jvm.MethodName)) ∈ gd_tbl := gd_in 109 (by decide +kernel) rfl
theorem m_81 : (Jvm.Cond.code ({ cls := "SafeDesk", name := "newSafe", desc := "(II)LSafeDesk$Safe;" } : Jvm.MethodName) prog_1_method_18_code (2 : Nat) (Option.some (Jvm.ClassFile.FieldType.object "SafeDesk$Safe"))) ∈ gd_tbl := gd_in 110 (by decide +kernel) rfl
theorem m_82 : (Jvm.Cond.classLink "SafeDesk" (104 : Nat) "SafeDesk$Vault") ∈ gd_tbl := gd_in 111 (by decide +kernel) rfl
theorem m_83 : (Jvm.Cond.instantiable "SafeDesk$Vault" (6 : Nat)) ∈ gd_tbl := gd_in 112 (by decide +kernel) rfl
theorem m_84 : (Jvm.Cond.methodLink "SafeDesk" (106 : Nat) ({ cls := "SafeDesk$Vault", name := "<init>", desc := "(II)V" } : Jvm.MethodName)) ∈ gd_tbl := gd_in 113 (by decide +kernel) rfl
theorem m_85 : (Jvm.Cond.instanceMethod ({ cls := "SafeDesk$Vault", name := "<init>", desc := "(II)V" } : Jvm.MethodName)) ∈ gd_tbl := gd_in 114 (by decide +kernel) rfl
theorem m_86 : (Jvm.Cond.code ({ cls := "SafeDesk$Vault", name := "<init>", desc := "(II)V" } : Jvm.MethodName) prog_5_method_1_code (3 : Nat) (Option.none : Option Jvm.ClassFile.FieldType)) ∈ gd_tbl := gd_in 115 (by decide +kernel) rfl
theorem m_87 : (Jvm.Cond.methodLink "SafeDesk$Vault" (3 : Nat) ({ cls := "SafeDesk$Timed", name := "<init>", desc := "(II)V" } : Jvm.MethodName)) ∈ gd_tbl := gd_in 116 (by decide +kernel) rfl
theorem m_88 : (Jvm.Cond.instanceMethod ({ cls := "SafeDesk$Timed", name := "<init>", desc := "(II)V" } : Jvm.MethodName)) ∈ gd_tbl := gd_in 117 (by decide +kernel) rfl
theorem m_89 : (Jvm.Cond.code ({ cls := "SafeDesk$Timed", name := "<init>", desc := "(II)V" } : Jvm.MethodName) prog_4_method_1_code (3 : Nat) (Option.none : Option Jvm.ClassFile.FieldType)) ∈ gd_tbl := gd_in 118 (by decide +kernel) rfl
theorem m_90 : (Jvm.Cond.methodLink "SafeDesk$Timed" (1 : Nat) ({ cls := "SafeDesk$Safe", name := "<init>", desc := "(II)V" } : Jvm.MethodName)) ∈ gd_tbl := gd_in 119 (by decide +kernel) rfl
theorem m_91 : (Jvm.Cond.instanceMethod ({ cls := "SafeDesk$Safe", name := "<init>", desc := "(II)V" } : Jvm.MethodName)) ∈ gd_tbl := gd_in 120 (by decide +kernel) rfl
theorem m_92 : (Jvm.Cond.code ({ cls := "SafeDesk$Safe", name := "<init>", desc := "(II)V" } : Jvm.MethodName) prog_3_method_1_code (3 : Nat) (Option.none : Option Jvm.ClassFile.FieldType)) ∈ gd_tbl := gd_in 121 (by decide +kernel) rfl
theorem m_93 : (Jvm.Cond.methodLink "SafeDesk$Safe" (3 : Nat) ({ cls := "java/lang/Object", name := "<init>", desc := "()V" } : Jvm.MethodName)) ∈ gd_tbl := gd_in 122 (by decide +kernel) rfl
theorem m_94 : (Jvm.Cond.fieldLink "SafeDesk$Safe" (9 : Nat) "SafeDesk$Safe" "kind" "I") ∈ gd_tbl := gd_in 123 (by decide +kernel) rfl
theorem m_95 : (Jvm.Cond.fieldLink "SafeDesk" (73 : Nat) "SafeDesk$Safe" "kind" "I") ∈ gd_tbl := gd_in 124 (by decide +kernel) rfl
theorem m_96 : (Jvm.Cond.fieldLink "SafeDesk$Safe" (15 : Nat) "SafeDesk$Safe" "coins" "I") ∈ gd_tbl := gd_in 125 (by decide +kernel) rfl
theorem m_97 : (Jvm.Cond.fieldLink "SafeDesk" (76 : Nat) "SafeDesk$Safe" "coins" "I") ∈ gd_tbl := gd_in 126 (by decide +kernel) rfl
theorem m_98 : (Jvm.Cond.fieldLink "SafeDesk$Timed" (13 : Nat) "SafeDesk$Timed" "turn" "I") ∈ gd_tbl := gd_in 127 (by decide +kernel) rfl
theorem m_99 : (Jvm.Cond.sameField "SafeDesk$Timed" "SafeDesk$Safe" "turn" "I") ∈ gd_tbl := gd_in 128 (by decide +kernel) rfl
theorem m_100 : (Jvm.Cond.fieldLink "SafeDesk" (79 : Nat) "SafeDesk$Safe" "turn" "I") ∈ gd_tbl := gd_in 129 (by decide +kernel) rfl
theorem m_101 : (Jvm.Cond.fieldLink "SafeDesk$Safe" (21 : Nat) "SafeDesk$Safe" "entries" "I") ∈ gd_tbl := gd_in 130 (by decide +kernel) rfl
theorem m_102 : (Jvm.Cond.fieldLink "SafeDesk" (82 : Nat) "SafeDesk$Safe" "entries" "I") ∈ gd_tbl := gd_in 131 (by decide +kernel) rfl
theorem m_103 : (Jvm.Cond.fieldLink "SafeDesk$Safe" (18 : Nat) "SafeDesk$Safe" "depth" "I") ∈ gd_tbl := gd_in 132 (by decide +kernel) rfl
theorem m_104 : (Jvm.Cond.fieldLink "SafeDesk" (85 : Nat) "SafeDesk$Safe" "depth" "I") ∈ gd_tbl := gd_in 133 (by decide +kernel) rfl
theorem m_105 : (Jvm.Cond.fieldLink "SafeDesk$Safe" (24 : Nat) "SafeDesk$Safe" "most" "I") ∈ gd_tbl := gd_in 134 (by decide +kernel) rfl
theorem m_106 : (Jvm.Cond.fieldLink "SafeDesk" (88 : Nat) "SafeDesk$Safe" "most" "I") ∈ gd_tbl := gd_in 135 (by decide +kernel) rfl
theorem m_107 : (Jvm.Cond.laysFinal "SafeDesk$Vault" "SafeDesk$Safe" "kind" "I") ∈ gd_tbl := gd_in 136 (by decide +kernel) rfl
theorem m_108 : (Jvm.Cond.soleField "SafeDesk$Safe" "kind") ∈ gd_tbl := gd_in 137 (by decide +kernel) rfl
theorem m_109 : (Jvm.Cond.lays "SafeDesk$Vault" "SafeDesk$Safe" "coins" "I") ∈ gd_tbl := gd_in 138 (by decide +kernel) rfl
theorem m_110 : (Jvm.Cond.soleField "SafeDesk$Safe" "coins") ∈ gd_tbl := gd_in 139 (by decide +kernel) rfl
theorem m_111 : (Jvm.Cond.lays "SafeDesk$Vault" "SafeDesk$Safe" "turn" "I") ∈ gd_tbl := gd_in 140 (by decide +kernel) rfl
theorem m_112 : (Jvm.Cond.soleField "SafeDesk$Safe" "turn") ∈ gd_tbl := gd_in 141 (by decide +kernel) rfl
theorem m_113 : (Jvm.Cond.lays "SafeDesk$Vault" "SafeDesk$Safe" "entries" "I") ∈ gd_tbl := gd_in 142 (by decide +kernel) rfl
theorem m_114 : (Jvm.Cond.soleField "SafeDesk$Safe" "entries") ∈ gd_tbl := gd_in 143 (by decide +kernel) rfl
theorem m_115 : (Jvm.Cond.lays "SafeDesk$Vault" "SafeDesk$Safe" "depth" "I") ∈ gd_tbl := gd_in 144 (by decide +kernel) rfl
theorem m_116 : (Jvm.Cond.soleField "SafeDesk$Safe" "depth") ∈ gd_tbl := gd_in 145 (by decide +kernel) rfl
theorem m_117 : (Jvm.Cond.lays "SafeDesk$Vault" "SafeDesk$Safe" "most" "I") ∈ gd_tbl := gd_in 146 (by decide +kernel) rfl
theorem m_118 : (Jvm.Cond.soleField "SafeDesk$Safe" "most") ∈ gd_tbl := gd_in 147 (by decide +kernel) rfl
theorem m_119 : (Jvm.Cond.superclass "SafeDesk$Vault" "SafeDesk$Timed") ∈ gd_tbl := gd_in 148 (by decide +kernel) rfl
theorem m_120 : (Jvm.Cond.classLink "SafeDesk" (109 : Nat) "SafeDesk$Timed") ∈ gd_tbl := gd_in 149 (by decide +kernel) rfl
theorem m_121 : (Jvm.Cond.instantiable "SafeDesk$Timed" (6 : Nat)) ∈ gd_tbl := gd_in 150 (by decide +kernel) rfl
theorem m_122 : (Jvm.Cond.methodLink "SafeDesk" (111 : Nat) ({ cls := "SafeDesk$Timed", name := "<init>", desc := "(II)V" } : Jvm.MethodName)) ∈ gd_tbl := gd_in 151 (by decide +kernel) rfl
theorem m_123 : (Jvm.Cond.laysFinal "SafeDesk$Timed" "SafeDesk$Safe" "kind" "I") ∈ gd_tbl := gd_in 152 (by decide +kernel) rfl
theorem m_124 : (Jvm.Cond.lays "SafeDesk$Timed" "SafeDesk$Safe" "coins" "I") ∈ gd_tbl := gd_in 153 (by decide +kernel) rfl
theorem m_125 : (Jvm.Cond.lays "SafeDesk$Timed" "SafeDesk$Safe" "turn" "I") ∈ gd_tbl := gd_in 154 (by decide +kernel) rfl
theorem m_126 : (Jvm.Cond.lays "SafeDesk$Timed" "SafeDesk$Safe" "entries" "I") ∈ gd_tbl := gd_in 155 (by decide +kernel) rfl
theorem m_127 : (Jvm.Cond.lays "SafeDesk$Timed" "SafeDesk$Safe" "depth" "I") ∈ gd_tbl := gd_in 156 (by decide +kernel) rfl
theorem m_128 : (Jvm.Cond.lays "SafeDesk$Timed" "SafeDesk$Safe" "most" "I") ∈ gd_tbl := gd_in 157 (by decide +kernel) rfl
theorem m_129 : (Jvm.Cond.superclass "SafeDesk$Timed" "SafeDesk$Safe") ∈ gd_tbl := gd_in 158 (by decide +kernel) rfl
theorem m_130 : (Jvm.Cond.instantiable "SafeDesk$Safe" (6 : Nat)) ∈ gd_tbl := gd_in 159 (by decide +kernel) rfl
theorem m_131 : (Jvm.Cond.methodLink "SafeDesk" (112 : Nat) ({ cls := "SafeDesk$Safe", name := "<init>", desc := "(II)V" } : Jvm.MethodName)) ∈ gd_tbl := gd_in 160 (by decide +kernel) rfl
theorem m_132 : (Jvm.Cond.laysFinal "SafeDesk$Safe" "SafeDesk$Safe" "kind" "I") ∈ gd_tbl := gd_in 161 (by decide +kernel) rfl
theorem m_133 : (Jvm.Cond.lays "SafeDesk$Safe" "SafeDesk$Safe" "coins" "I") ∈ gd_tbl := gd_in 162 (by decide +kernel) rfl
theorem m_134 : (Jvm.Cond.lays "SafeDesk$Safe" "SafeDesk$Safe" "turn" "I") ∈ gd_tbl := gd_in 163 (by decide +kernel) rfl
theorem m_135 : (Jvm.Cond.lays "SafeDesk$Safe" "SafeDesk$Safe" "entries" "I") ∈ gd_tbl := gd_in 164 (by decide +kernel) rfl
theorem m_136 : (Jvm.Cond.lays "SafeDesk$Safe" "SafeDesk$Safe" "depth" "I") ∈ gd_tbl := gd_in 165 (by decide +kernel) rfl
theorem m_137 : (Jvm.Cond.lays "SafeDesk$Safe" "SafeDesk$Safe" "most" "I") ∈ gd_tbl := gd_in 166 (by decide +kernel) rfl
theorem m_138 : (Jvm.Cond.superclass "SafeDesk$Safe" "java/lang/Object") ∈ gd_tbl := gd_in 167 (by decide +kernel) rfl
theorem m_139 : (Jvm.Cond.methodLink "SafeDeskLaw" (18 : Nat) ({ cls := "SafeDesk", name := "share", desc := "(II)I" } : Jvm.MethodName)) ∈ gd_tbl := gd_in 168 (by decide +kernel) rfl
theorem m_140 : (Jvm.Cond.instanceMethod ({ cls := "SafeDesk", name := "share", desc := "(II)I" } : Jvm.MethodName)) ∈ gd_tbl := gd_in 169 (by decide +kernel) rfl
theorem m_141 : (Jvm.Cond.selects "SafeDesk" ({ cls := "SafeDesk", name := "share", desc := "(II)I" } : Jvm.MethodName) ({ cls := "SafeDesk", name := "share", desc := "(II)I" } : Jvm.MethodName)) ∈ gd_tbl := gd_in 170 (by decide +kernel) rfl
theorem m_142 : (Jvm.Cond.code ({ cls := "SafeDesk", name := "share", desc := "(II)I" } : Jvm.MethodName) prog_1_method_3_code (3 : Nat) (Option.some Jvm.ClassFile.FieldType.int)) ∈ gd_tbl := gd_in 171 (by decide +kernel) rfl
theorem m_143 : (Jvm.Cond.methodLink "SafeDeskLaw" (23 : Nat) ({ cls := "SafeDesk", name := "same", desc := "(II)I" } : Jvm.MethodName)) ∈ gd_tbl := gd_in 172 (by decide +kernel) rfl
theorem m_144 : (Jvm.Cond.instanceMethod ({ cls := "SafeDesk", name := "same", desc := "(II)I" } : Jvm.MethodName)) ∈ gd_tbl := gd_in 173 (by decide +kernel) rfl
theorem m_145 : (Jvm.Cond.selects "SafeDesk" ({ cls := "SafeDesk", name := "same", desc := "(II)I" } : Jvm.MethodName) ({ cls := "SafeDesk", name := "same", desc := "(II)I" } : Jvm.MethodName)) ∈ gd_tbl := gd_in 174 (by decide +kernel) rfl
theorem m_146 : (Jvm.Cond.code ({ cls := "SafeDesk", name := "same", desc := "(II)I" } : Jvm.MethodName) prog_1_method_4_code (3 : Nat) (Option.some Jvm.ClassFile.FieldType.int)) ∈ gd_tbl := gd_in 175 (by decide +kernel) rfl
theorem m_147 : (Jvm.Cond.methodLink "SafeDeskLaw" (27 : Nat) ({ cls := "SafeDesk", name := "step", desc := "(IIII)I" } : Jvm.MethodName)) ∈ gd_tbl := gd_in 176 (by decide +kernel) rfl
theorem m_148 : (Jvm.Cond.instanceMethod ({ cls := "SafeDesk", name := "step", desc := "(IIII)I" } : Jvm.MethodName)) ∈ gd_tbl := gd_in 177 (by decide +kernel) rfl
theorem m_149 : (Jvm.Cond.selects "SafeDesk" ({ cls := "SafeDesk", name := "step", desc := "(IIII)I" } : Jvm.MethodName) ({ cls := "SafeDesk", name := "step", desc := "(IIII)I" } : Jvm.MethodName)) ∈ gd_tbl := gd_in 178 (by decide +kernel) rfl
theorem m_150 : (Jvm.Cond.code ({ cls := "SafeDesk", name := "step", desc := "(IIII)I" } : Jvm.MethodName) prog_1_method_5_code (6 : Nat) (Option.some Jvm.ClassFile.FieldType.int)) ∈ gd_tbl := gd_in 179 (by decide +kernel) rfl
theorem m_151 : (Jvm.Cond.methodLink "SafeDesk" (35 : Nat) ({ cls := "SafeDesk", name := "isPlan", desc := "(I)Z" } : Jvm.MethodName)) ∈ gd_tbl := gd_in 180 (by decide +kernel) rfl
theorem m_152 : (Jvm.Cond.static ({ cls := "SafeDesk", name := "isPlan", desc := "(I)Z" } : Jvm.MethodName)) ∈ gd_tbl := gd_in 181 (by decide +kernel) rfl
theorem m_153 : (Jvm.Cond.code ({ cls := "SafeDesk", name := "isPlan", desc := "(I)Z" } : Jvm.MethodName) prog_1_method_13_code (1 : Nat) (Option.some Jvm.ClassFile.FieldType.boolean)) ∈ gd_tbl := gd_in 182 (by decide +kernel) rfl
theorem m_154 : (Jvm.Cond.methodLink "SafeDesk" (38 : Nat) ({ cls := "SafeDesk", name := "isStep", desc := "(III)Z" } : Jvm.MethodName)) ∈ gd_tbl := gd_in 183 (by decide +kernel) rfl
theorem m_155 : (Jvm.Cond.static ({ cls := "SafeDesk", name := "isStep", desc := "(III)Z" } : Jvm.MethodName)) ∈ gd_tbl := gd_in 184 (by decide +kernel) rfl
theorem m_156 : (Jvm.Cond.code ({ cls := "SafeDesk", name := "isStep", desc := "(III)Z" } : Jvm.MethodName) prog_1_method_17_code (3 : Nat) (Option.some Jvm.ClassFile.FieldType.boolean)) ∈ gd_tbl := gd_in 185 (by decide +kernel) rfl
theorem m_157 : (Jvm.Cond.methodLink "SafeDesk" (98 : Nat) ({ cls := "SafeDesk", name := "isBlock", desc := "(I)Z" } : Jvm.MethodName)) ∈ gd_tbl := gd_in 186 (by decide +kernel) rfl
theorem m_158 : (Jvm.Cond.static ({ cls := "SafeDesk", name := "isBlock", desc := "(I)Z" } : Jvm.MethodName)) ∈ gd_tbl := gd_in 187 (by decide +kernel) rfl
theorem m_159 : (Jvm.Cond.code ({ cls := "SafeDesk", name := "isBlock", desc := "(I)Z" } : Jvm.MethodName) prog_1_method_14_code (1 : Nat) (Option.some Jvm.ClassFile.FieldType.boolean)) ∈ gd_tbl := gd_in 188 (by decide +kernel) rfl
theorem m_160 : (Jvm.Cond.methodLink "SafeDesk" (101 : Nat) ({ cls := "SafeDesk", name := "canBeHeld", desc := "(I)Z" } : Jvm.MethodName)) ∈ gd_tbl := gd_in 189 (by decide +kernel) rfl
theorem m_161 : (Jvm.Cond.static ({ cls := "SafeDesk", name := "canBeHeld", desc := "(I)Z" } : Jvm.MethodName)) ∈ gd_tbl := gd_in 190 (by decide +kernel) rfl
theorem m_162 : (Jvm.Cond.code ({ cls := "SafeDesk", name := "canBeHeld", desc := "(I)Z" } : Jvm.MethodName) prog_1_method_16_code (1 : Nat) (Option.some Jvm.ClassFile.FieldType.boolean)) ∈ gd_tbl := gd_in 191 (by decide +kernel) rfl
theorem m_163 : (Jvm.Cond.methodLink "SafeDesk" (95 : Nat) ({ cls := "SafeDesk", name := "isOwnFailure", desc := "(I)Z" } : Jvm.MethodName)) ∈ gd_tbl := gd_in 192 (by decide +kernel) rfl
theorem m_164 : (Jvm.Cond.static ({ cls := "SafeDesk", name := "isOwnFailure", desc := "(I)Z" } : Jvm.MethodName)) ∈ gd_tbl := gd_in 193 (by decide +kernel) rfl
theorem m_165 : (Jvm.Cond.code ({ cls := "SafeDesk", name := "isOwnFailure", desc := "(I)Z" } : Jvm.MethodName) prog_1_method_15_code (1 : Nat) (Option.some Jvm.ClassFile.FieldType.boolean)) ∈ gd_tbl := gd_in 194 (by decide +kernel) rfl
theorem m_166 : (Jvm.Cond.methodLink "SafeDesk" (46 : Nat) ({ cls := "SafeDesk$Plan", name := "add", desc := "(III)V" } : Jvm.MethodName)) ∈ gd_tbl := gd_in 195 (by decide +kernel) rfl
theorem m_167 : (Jvm.Cond.instanceMethod ({ cls := "SafeDesk$Plan", name := "add", desc := "(III)V" } : Jvm.MethodName)) ∈ gd_tbl := gd_in 196 (by decide +kernel) rfl
theorem m_168 : (Jvm.Cond.selects "SafeDesk$Plan" ({ cls := "SafeDesk$Plan", name := "add", desc := "(III)V" } : Jvm.MethodName) ({ cls := "SafeDesk$Plan", name := "add", desc := "(III)V" } : Jvm.MethodName)) ∈ gd_tbl := gd_in 197 (by decide +kernel) rfl
theorem m_169 : (Jvm.Cond.code ({ cls := "SafeDesk$Plan", name := "add", desc := "(III)V" } : Jvm.MethodName) prog_2_method_2_code (4 : Nat) (Option.none : Option Jvm.ClassFile.FieldType)) ∈ gd_tbl := gd_in 198 (by decide +kernel) rfl
theorem m_170 : (Jvm.Cond.methodLink "SafeDeskLaw" (32 : Nat) ({ cls := "SafeDesk", name := "clear", desc := "(I)I" } : Jvm.MethodName)) ∈ gd_tbl := gd_in 199 (by decide +kernel) rfl
theorem m_171 : (Jvm.Cond.instanceMethod ({ cls := "SafeDesk", name := "clear", desc := "(I)I" } : Jvm.MethodName)) ∈ gd_tbl := gd_in 200 (by decide +kernel) rfl
theorem m_172 : (Jvm.Cond.selects "SafeDesk" ({ cls := "SafeDesk", name := "clear", desc := "(I)I" } : Jvm.MethodName) ({ cls := "SafeDesk", name := "clear", desc := "(I)I" } : Jvm.MethodName)) ∈ gd_tbl := gd_in 201 (by decide +kernel) rfl
theorem m_173 : (Jvm.Cond.code ({ cls := "SafeDesk", name := "clear", desc := "(I)I" } : Jvm.MethodName) prog_1_method_6_code (3 : Nat) (Option.some Jvm.ClassFile.FieldType.int)) ∈ gd_tbl := gd_in 202 (by decide +kernel) rfl
theorem m_174 : (Jvm.Cond.methodLink "SafeDeskLaw" (37 : Nat) ({ cls := "SafeDesk", name := "run", desc := "(II)I" } : Jvm.MethodName)) ∈ gd_tbl := gd_in 203 (by decide +kernel) rfl
theorem m_175 : (Jvm.Cond.instanceMethod ({ cls := "SafeDesk", name := "run", desc := "(II)I" } : Jvm.MethodName)) ∈ gd_tbl := gd_in 204 (by decide +kernel) rfl
theorem m_176 : (Jvm.Cond.selects "SafeDesk" ({ cls := "SafeDesk", name := "run", desc := "(II)I" } : Jvm.MethodName) ({ cls := "SafeDesk", name := "run", desc := "(II)I" } : Jvm.MethodName)) ∈ gd_tbl := gd_in 205 (by decide +kernel) rfl
theorem m_177 : (Jvm.Cond.code ({ cls := "SafeDesk", name := "run", desc := "(II)I" } : Jvm.MethodName) prog_1_method_7_code (3 : Nat) (Option.some Jvm.ClassFile.FieldType.int)) ∈ gd_tbl := gd_in 206 (by decide +kernel) rfl
theorem m_178 : (Jvm.Cond.methodLink "SafeDesk" (62 : Nat) ({ cls := "SafeDesk", name := "doPlan", desc := "(I)I" } : Jvm.MethodName)) ∈ gd_tbl := gd_in 207 (by decide +kernel) rfl
theorem m_180 : (Jvm.Cond.instanceMethod ({ cls := "SafeDesk", name := "doPlan", desc := "(I)I" } : Jvm.MethodName)) ∈ gd_tbl := gd_in 209 (by decide +kernel) rfl
theorem m_181 : (Jvm.Cond.code ({ cls := "SafeDesk", name := "doPlan", desc := "(I)I" } : Jvm.MethodName) prog_1_method_23_code (3 : Nat) (Option.some Jvm.ClassFile.FieldType.int)) ∈ gd_tbl := gd_in 210 (by decide +kernel) rfl
theorem m_182 : (Jvm.Cond.methodLink "SafeDesk" (116 : Nat) ({ cls := "java/lang/Math", name := "max", desc := "(II)I" } : Jvm.MethodName)) ∈ gd_tbl := gd_in 211 (by decide +kernel) rfl
theorem m_183 : (Jvm.Cond.static ({ cls := "java/lang/Math", name := "max", desc := "(II)I" } : Jvm.MethodName)) ∈ gd_tbl := gd_in 212 (by decide +kernel) rfl
theorem m_184 : (Jvm.Cond.code ({ cls := "java/lang/Math", name := "max", desc := "(II)I" } : Jvm.MethodName) prog_8_method_65_code (2 : Nat) (Option.some Jvm.ClassFile.FieldType.int)) ∈ gd_tbl := gd_in 213 (by decide +kernel) rfl
theorem m_185 : (Jvm.Cond.methodLink "SafeDesk" (122 : Nat) ({ cls := "SafeDesk", name := "doSteps", desc := "(LSafeDesk$Plan;II)I" } : Jvm.MethodName)) ∈ gd_tbl := gd_in 214 (by decide +kernel) rfl
theorem m_187 : (Jvm.Cond.instanceMethod ({ cls := "SafeDesk", name := "doSteps", desc := "(LSafeDesk$Plan;II)I" } : Jvm.MethodName)) ∈ gd_tbl := gd_in 216 (by decide +kernel) rfl
theorem m_188 : (Jvm.Cond.code ({ cls := "SafeDesk", name := "doSteps", desc := "(LSafeDesk$Plan;II)I" } : Jvm.MethodName) prog_1_method_24_code (7 : Nat) (Option.some Jvm.ClassFile.FieldType.int)) ∈ gd_tbl := gd_in 217 (by decide +kernel) rfl
theorem m_189 : (Jvm.Cond.methodLink "SafeDesk" (126 : Nat) ({ cls := "SafeDesk$Plan", name := "behind", desc := "(II)I" } : Jvm.MethodName)) ∈ gd_tbl := gd_in 218 (by decide +kernel) rfl
theorem m_190 : (Jvm.Cond.instanceMethod ({ cls := "SafeDesk$Plan", name := "behind", desc := "(II)I" } : Jvm.MethodName)) ∈ gd_tbl := gd_in 219 (by decide +kernel) rfl
theorem m_191 : (Jvm.Cond.selects "SafeDesk$Plan" ({ cls := "SafeDesk$Plan", name := "behind", desc := "(II)I" } : Jvm.MethodName) ({ cls := "SafeDesk$Plan", name := "behind", desc := "(II)I" } : Jvm.MethodName)) ∈ gd_tbl := gd_in 220 (by decide +kernel) rfl
theorem m_192 : (Jvm.Cond.code ({ cls := "SafeDesk$Plan", name := "behind", desc := "(II)I" } : Jvm.MethodName) prog_2_method_3_code (4 : Nat) (Option.some Jvm.ClassFile.FieldType.int)) ∈ gd_tbl := gd_in 221 (by decide +kernel) rfl
theorem m_193 : (Jvm.Cond.methodLink "SafeDesk$Plan" (25 : Nat) ({ cls := "java/lang/Math", name := "min", desc := "(II)I" } : Jvm.MethodName)) ∈ gd_tbl := gd_in 222 (by decide +kernel) rfl
theorem m_194 : (Jvm.Cond.static ({ cls := "java/lang/Math", name := "min", desc := "(II)I" } : Jvm.MethodName)) ∈ gd_tbl := gd_in 223 (by decide +kernel) rfl
theorem m_195 : (Jvm.Cond.code ({ cls := "java/lang/Math", name := "min", desc := "(II)I" } : Jvm.MethodName) prog_8_method_69_code (2 : Nat) (Option.some Jvm.ClassFile.FieldType.int)) ∈ gd_tbl := gd_in 224 (by decide +kernel) rfl
theorem m_196 : (Jvm.Cond.methodLink "SafeDesk" (129 : Nat) ({ cls := "SafeDesk", name := "doStep", desc := "(LSafeDesk$Plan;II)I" } : Jvm.MethodName)) ∈ gd_tbl := gd_in 225 (by decide +kernel) rfl
theorem m_198 : (Jvm.Cond.instanceMethod ({ cls := "SafeDesk", name := "doStep", desc := "(LSafeDesk$Plan;II)I" } : Jvm.MethodName)) ∈ gd_tbl := gd_in 227 (by decide +kernel) rfl
theorem m_199 : (Jvm.Cond.code ({ cls := "SafeDesk", name := "doStep", desc := "(LSafeDesk$Plan;II)I" } : Jvm.MethodName) prog_1_method_25_code (6 : Nat) (Option.some Jvm.ClassFile.FieldType.int)) ∈ gd_tbl := gd_in 228 (by decide +kernel) rfl
theorem m_200 : (Jvm.Cond.methodLink "SafeDesk" (138 : Nat) ({ cls := "SafeDesk", name := "leaveInTrace", desc := "(I)V" } : Jvm.MethodName)) ∈ gd_tbl := gd_in 229 (by decide +kernel) rfl
theorem m_202 : (Jvm.Cond.instanceMethod ({ cls := "SafeDesk", name := "leaveInTrace", desc := "(I)V" } : Jvm.MethodName)) ∈ gd_tbl := gd_in 231 (by decide +kernel) rfl
theorem m_203 : (Jvm.Cond.code ({ cls := "SafeDesk", name := "leaveInTrace", desc := "(I)V" } : Jvm.MethodName) prog_1_method_22_code (2 : Nat) (Option.none : Option Jvm.ClassFile.FieldType)) ∈ gd_tbl := gd_in 232 (by decide +kernel) rfl
theorem m_204 : (Jvm.Cond.methodLink "SafeDesk" (69 : Nat) ({ cls := "SafeDesk", name := "safeIn", desc := "(I)LSafeDesk$Safe;" } : Jvm.MethodName)) ∈ gd_tbl := gd_in 233 (by decide +kernel) rfl
theorem m_206 : (Jvm.Cond.instanceMethod ({ cls := "SafeDesk", name := "safeIn", desc := "(I)LSafeDesk$Safe;" } : Jvm.MethodName)) ∈ gd_tbl := gd_in 235 (by decide +kernel) rfl
theorem m_207 : (Jvm.Cond.code ({ cls := "SafeDesk", name := "safeIn", desc := "(I)LSafeDesk$Safe;" } : Jvm.MethodName) prog_1_method_19_code (2 : Nat) (Option.some (Jvm.ClassFile.FieldType.object "SafeDesk$Safe"))) ∈ gd_tbl := gd_in 236 (by decide +kernel) rfl
theorem m_208 : (Jvm.Cond.methodLink "SafeDesk" (142 : Nat) ({ cls := "SafeDesk", name := "doInside", desc := "(LSafeDesk$Safe;LSafeDesk$Plan;II)I" } : Jvm.MethodName)) ∈ gd_tbl := gd_in 237 (by decide +kernel) rfl
theorem m_210 : (Jvm.Cond.instanceMethod ({ cls := "SafeDesk", name := "doInside", desc := "(LSafeDesk$Safe;LSafeDesk$Plan;II)I" } : Jvm.MethodName)) ∈ gd_tbl := gd_in 239 (by decide +kernel) rfl
theorem m_211 : (Jvm.Cond.code ({ cls := "SafeDesk", name := "doInside", desc := "(LSafeDesk$Safe;LSafeDesk$Plan;II)I" } : Jvm.MethodName) prog_1_method_26_code (6 : Nat) (Option.some Jvm.ClassFile.FieldType.int)) ∈ gd_tbl := gd_in 240 (by decide +kernel) rfl
theorem m_212 : (Jvm.Cond.methodLink "SafeDesk" (164 : Nat) ({ cls := "SafeDesk$Safe", name := "enter", desc := "()V" } : Jvm.MethodName)) ∈ gd_tbl := gd_in 241 (by decide +kernel) rfl
theorem m_213 : (Jvm.Cond.instanceMethod ({ cls := "SafeDesk$Safe", name := "enter", desc := "()V" } : Jvm.MethodName)) ∈ gd_tbl := gd_in 242 (by decide +kernel) rfl
theorem m_214 : (Jvm.Cond.selects "SafeDesk$Safe" ({ cls := "SafeDesk$Safe", name := "enter", desc := "()V" } : Jvm.MethodName) ({ cls := "SafeDesk$Safe", name := "enter", desc := "()V" } : Jvm.MethodName)) ∈ gd_tbl := gd_in 243 (by decide +kernel) rfl
theorem m_215 : (Jvm.Cond.sameMethod "SafeDesk$Safe" "SafeDesk$Safe" "enter" "()V") ∈ gd_tbl := gd_in 244 (by decide +kernel) rfl
theorem m_216 : (Jvm.Cond.selects "SafeDesk$Timed" ({ cls := "SafeDesk$Safe", name := "enter", desc := "()V" } : Jvm.MethodName) ({ cls := "SafeDesk$Safe", name := "enter", desc := "()V" } : Jvm.MethodName)) ∈ gd_tbl := gd_in 245 (by decide +kernel) rfl
theorem m_217 : (Jvm.Cond.selects "SafeDesk$Vault" ({ cls := "SafeDesk$Safe", name := "enter", desc := "()V" } : Jvm.MethodName) ({ cls := "SafeDesk$Safe", name := "enter", desc := "()V" } : Jvm.MethodName)) ∈ gd_tbl := gd_in 246 (by decide +kernel) rfl
theorem m_218 : (Jvm.Cond.code ({ cls := "SafeDesk$Safe", name := "enter", desc := "()V" } : Jvm.MethodName) prog_3_method_2_code (1 : Nat) (Option.none : Option Jvm.ClassFile.FieldType)) ∈ gd_tbl := gd_in 247 (by decide +kernel) rfl
theorem m_219 : (Jvm.Cond.methodLink "SafeDesk" (167 : Nat) ({ cls := "SafeDesk$Safe", name := "leave", desc := "()V" } : Jvm.MethodName)) ∈ gd_tbl := gd_in 248 (by decide +kernel) rfl
theorem m_220 : (Jvm.Cond.instanceMethod ({ cls := "SafeDesk$Safe", name := "leave", desc := "()V" } : Jvm.MethodName)) ∈ gd_tbl := gd_in 249 (by decide +kernel) rfl
theorem m_221 : (Jvm.Cond.selects "SafeDesk$Safe" ({ cls := "SafeDesk$Safe", name := "leave", desc := "()V" } : Jvm.MethodName) ({ cls := "SafeDesk$Safe", name := "leave", desc := "()V" } : Jvm.MethodName)) ∈ gd_tbl := gd_in 250 (by decide +kernel) rfl
theorem m_222 : (Jvm.Cond.sameMethod "SafeDesk$Safe" "SafeDesk$Safe" "leave" "()V") ∈ gd_tbl := gd_in 251 (by decide +kernel) rfl
theorem m_223 : (Jvm.Cond.selects "SafeDesk$Timed" ({ cls := "SafeDesk$Safe", name := "leave", desc := "()V" } : Jvm.MethodName) ({ cls := "SafeDesk$Safe", name := "leave", desc := "()V" } : Jvm.MethodName)) ∈ gd_tbl := gd_in 252 (by decide +kernel) rfl
theorem m_224 : (Jvm.Cond.selects "SafeDesk$Vault" ({ cls := "SafeDesk$Safe", name := "leave", desc := "()V" } : Jvm.MethodName) ({ cls := "SafeDesk$Safe", name := "leave", desc := "()V" } : Jvm.MethodName)) ∈ gd_tbl := gd_in 253 (by decide +kernel) rfl
theorem m_225 : (Jvm.Cond.code ({ cls := "SafeDesk$Safe", name := "leave", desc := "()V" } : Jvm.MethodName) prog_3_method_3_code (1 : Nat) (Option.none : Option Jvm.ClassFile.FieldType)) ∈ gd_tbl := gd_in 254 (by decide +kernel) rfl
theorem m_226 : (Jvm.Cond.methodLink "SafeDesk" (146 : Nat) ({ cls := "SafeDesk", name := "doTry", desc := "(ILSafeDesk$Plan;II)I" } : Jvm.MethodName)) ∈ gd_tbl := gd_in 255 (by decide +kernel) rfl
theorem m_228 : (Jvm.Cond.instanceMethod ({ cls := "SafeDesk", name := "doTry", desc := "(ILSafeDesk$Plan;II)I" } : Jvm.MethodName)) ∈ gd_tbl := gd_in 257 (by decide +kernel) rfl
theorem m_229 : (Jvm.Cond.code ({ cls := "SafeDesk", name := "doTry", desc := "(ILSafeDesk$Plan;II)I" } : Jvm.MethodName) prog_1_method_27_code (6 : Nat) (Option.some Jvm.ClassFile.FieldType.int)) ∈ gd_tbl := gd_in 258 (by decide +kernel) rfl
theorem m_230 : (Jvm.Cond.methodLink "SafeDesk" (150 : Nat) ({ cls := "SafeDesk", name := "doWithValue", desc := "(II)I" } : Jvm.MethodName)) ∈ gd_tbl := gd_in 259 (by decide +kernel) rfl
theorem m_232 : (Jvm.Cond.instanceMethod ({ cls := "SafeDesk", name := "doWithValue", desc := "(II)I" } : Jvm.MethodName)) ∈ gd_tbl := gd_in 261 (by decide +kernel) rfl
theorem m_233 : (Jvm.Cond.code ({ cls := "SafeDesk", name := "doWithValue", desc := "(II)I" } : Jvm.MethodName) prog_1_method_28_code (3 : Nat) (Option.some Jvm.ClassFile.FieldType.int)) ∈ gd_tbl := gd_in 262 (by decide +kernel) rfl
theorem m_234 : (Jvm.Cond.methodLink "SafeDesk" (156 : Nat) ({ cls := "SafeDesk", name := "doWithRooms", desc := "(III)I" } : Jvm.MethodName)) ∈ gd_tbl := gd_in 263 (by decide +kernel) rfl
theorem m_236 : (Jvm.Cond.instanceMethod ({ cls := "SafeDesk", name := "doWithRooms", desc := "(III)I" } : Jvm.MethodName)) ∈ gd_tbl := gd_in 265 (by decide +kernel) rfl
theorem m_237 : (Jvm.Cond.code ({ cls := "SafeDesk", name := "doWithRooms", desc := "(III)I" } : Jvm.MethodName) prog_1_method_29_code (4 : Nat) (Option.some Jvm.ClassFile.FieldType.int)) ∈ gd_tbl := gd_in 266 (by decide +kernel) rfl
theorem m_238 : (Jvm.Cond.methodLink "SafeDesk" (170 : Nat) ({ cls := "java/lang/Math", name := "floorMod", desc := "(II)I" } : Jvm.MethodName)) ∈ gd_tbl := gd_in 267 (by decide +kernel) rfl
theorem m_239 : (Jvm.Cond.static ({ cls := "java/lang/Math", name := "floorMod", desc := "(II)I" } : Jvm.MethodName)) ∈ gd_tbl := gd_in 268 (by decide +kernel) rfl
theorem m_240 : (Jvm.Cond.code ({ cls := "java/lang/Math", name := "floorMod", desc := "(II)I" } : Jvm.MethodName) prog_8_method_50_code (3 : Nat) (Option.some Jvm.ClassFile.FieldType.int)) ∈ gd_tbl := gd_in 269 (by decide +kernel) rfl
theorem m_241 : (Jvm.Cond.methodLink "SafeDesk" (173 : Nat) ({ cls := "SafeDesk", name := "setRoom", desc := "(ILSafeDesk$Safe;)V" } : Jvm.MethodName)) ∈ gd_tbl := gd_in 270 (by decide +kernel) rfl
theorem m_243 : (Jvm.Cond.instanceMethod ({ cls := "SafeDesk", name := "setRoom", desc := "(ILSafeDesk$Safe;)V" } : Jvm.MethodName)) ∈ gd_tbl := gd_in 272 (by decide +kernel) rfl
theorem m_244 : (Jvm.Cond.code ({ cls := "SafeDesk", name := "setRoom", desc := "(ILSafeDesk$Safe;)V" } : Jvm.MethodName) prog_1_method_20_code (3 : Nat) (Option.none : Option Jvm.ClassFile.FieldType)) ∈ gd_tbl := gd_in 273 (by decide +kernel) rfl
theorem m_245 : (Jvm.Cond.methodLink "SafeDesk" (177 : Nat) ({ cls := "SafeDesk", name := "seek", desc := "(II)I" } : Jvm.MethodName)) ∈ gd_tbl := gd_in 274 (by decide +kernel) rfl
theorem m_247 : (Jvm.Cond.instanceMethod ({ cls := "SafeDesk", name := "seek", desc := "(II)I" } : Jvm.MethodName)) ∈ gd_tbl := gd_in 276 (by decide +kernel) rfl
theorem m_248 : (Jvm.Cond.code ({ cls := "SafeDesk", name := "seek", desc := "(II)I" } : Jvm.MethodName) prog_1_method_30_code (6 : Nat) (Option.some Jvm.ClassFile.FieldType.int)) ∈ gd_tbl := gd_in 277 (by decide +kernel) rfl
theorem m_249 : (Jvm.Cond.methodLink "SafeDesk" (160 : Nat) ({ cls := "SafeDesk", name := "doWithSafe", desc := "(ILSafeDesk$Safe;I)I" } : Jvm.MethodName)) ∈ gd_tbl := gd_in 278 (by decide +kernel) rfl
theorem m_251 : (Jvm.Cond.instanceMethod ({ cls := "SafeDesk", name := "doWithSafe", desc := "(ILSafeDesk$Safe;I)I" } : Jvm.MethodName)) ∈ gd_tbl := gd_in 280 (by decide +kernel) rfl
theorem m_252 : (Jvm.Cond.code ({ cls := "SafeDesk", name := "doWithSafe", desc := "(ILSafeDesk$Safe;I)I" } : Jvm.MethodName) prog_1_method_31_code (4 : Nat) (Option.some Jvm.ClassFile.FieldType.int)) ∈ gd_tbl := gd_in 281 (by decide +kernel) rfl
theorem m_253 : (Jvm.Cond.methodLink "SafeDesk" (180 : Nat) ({ cls := "SafeDesk$Safe", name := "put", desc := "(I)I" } : Jvm.MethodName)) ∈ gd_tbl := gd_in 282 (by decide +kernel) rfl
theorem m_254 : (Jvm.Cond.instanceMethod ({ cls := "SafeDesk$Safe", name := "put", desc := "(I)I" } : Jvm.MethodName)) ∈ gd_tbl := gd_in 283 (by decide +kernel) rfl
theorem m_255 : (Jvm.Cond.selects "SafeDesk$Safe" ({ cls := "SafeDesk$Safe", name := "put", desc := "(I)I" } : Jvm.MethodName) ({ cls := "SafeDesk$Safe", name := "put", desc := "(I)I" } : Jvm.MethodName)) ∈ gd_tbl := gd_in 284 (by decide +kernel) rfl
theorem m_256 : (Jvm.Cond.sameMethod "SafeDesk$Safe" "SafeDesk$Safe" "put" "(I)I") ∈ gd_tbl := gd_in 285 (by decide +kernel) rfl
theorem m_257 : (Jvm.Cond.selects "SafeDesk$Timed" ({ cls := "SafeDesk$Safe", name := "put", desc := "(I)I" } : Jvm.MethodName) ({ cls := "SafeDesk$Timed", name := "put", desc := "(I)I" } : Jvm.MethodName)) ∈ gd_tbl := gd_in 286 (by decide +kernel) rfl
theorem m_258 : (Jvm.Cond.instanceMethod ({ cls := "SafeDesk$Timed", name := "put", desc := "(I)I" } : Jvm.MethodName)) ∈ gd_tbl := gd_in 287 (by decide +kernel) rfl
theorem m_259 : (Jvm.Cond.code ({ cls := "SafeDesk$Timed", name := "put", desc := "(I)I" } : Jvm.MethodName) prog_4_method_2_code (3 : Nat) (Option.some Jvm.ClassFile.FieldType.int)) ∈ gd_tbl := gd_in 288 (by decide +kernel) rfl
theorem m_260 : (Jvm.Cond.methodLink "SafeDesk$Timed" (7 : Nat) ({ cls := "SafeDesk$Timed", name := "enter", desc := "()V" } : Jvm.MethodName)) ∈ gd_tbl := gd_in 289 (by decide +kernel) rfl
theorem m_261 : (Jvm.Cond.sameMethod "SafeDesk$Timed" "SafeDesk$Safe" "enter" "()V") ∈ gd_tbl := gd_in 290 (by decide +kernel) rfl
theorem m_263 : (Jvm.Cond.selects "SafeDesk$Timed" ({ cls := "SafeDesk$Timed", name := "enter", desc := "()V" } : Jvm.MethodName) ({ cls := "SafeDesk$Safe", name := "enter", desc := "()V" } : Jvm.MethodName)) ∈ gd_tbl := gd_in 292 (by decide +kernel) rfl
theorem m_264 : (Jvm.Cond.selects "SafeDesk$Vault" ({ cls := "SafeDesk$Timed", name := "enter", desc := "()V" } : Jvm.MethodName) ({ cls := "SafeDesk$Safe", name := "enter", desc := "()V" } : Jvm.MethodName)) ∈ gd_tbl := gd_in 293 (by decide +kernel) rfl
theorem m_265 : (Jvm.Cond.methodLink "SafeDesk$Timed" (17 : Nat) ({ cls := "SafeDesk$Safe", name := "put", desc := "(I)I" } : Jvm.MethodName)) ∈ gd_tbl := gd_in 294 (by decide +kernel) rfl
theorem m_266 : (Jvm.Cond.methodLink "SafeDesk$Timed" (21 : Nat) ({ cls := "SafeDesk$Timed", name := "leave", desc := "()V" } : Jvm.MethodName)) ∈ gd_tbl := gd_in 295 (by decide +kernel) rfl
theorem m_267 : (Jvm.Cond.sameMethod "SafeDesk$Timed" "SafeDesk$Safe" "leave" "()V") ∈ gd_tbl := gd_in 296 (by decide +kernel) rfl
theorem m_269 : (Jvm.Cond.selects "SafeDesk$Timed" ({ cls := "SafeDesk$Timed", name := "leave", desc := "()V" } : Jvm.MethodName) ({ cls := "SafeDesk$Safe", name := "leave", desc := "()V" } : Jvm.MethodName)) ∈ gd_tbl := gd_in 298 (by decide +kernel) rfl
theorem m_270 : (Jvm.Cond.selects "SafeDesk$Vault" ({ cls := "SafeDesk$Timed", name := "leave", desc := "()V" } : Jvm.MethodName) ({ cls := "SafeDesk$Safe", name := "leave", desc := "()V" } : Jvm.MethodName)) ∈ gd_tbl := gd_in 299 (by decide +kernel) rfl
theorem m_271 : (Jvm.Cond.selects "SafeDesk$Vault" ({ cls := "SafeDesk$Safe", name := "put", desc := "(I)I" } : Jvm.MethodName) ({ cls := "SafeDesk$Vault", name := "put", desc := "(I)I" } : Jvm.MethodName)) ∈ gd_tbl := gd_in 300 (by decide +kernel) rfl
theorem m_272 : (Jvm.Cond.instanceMethod ({ cls := "SafeDesk$Vault", name := "put", desc := "(I)I" } : Jvm.MethodName)) ∈ gd_tbl := gd_in 301 (by decide +kernel) rfl
theorem m_273 : (Jvm.Cond.code ({ cls := "SafeDesk$Vault", name := "put", desc := "(I)I" } : Jvm.MethodName) prog_5_method_2_code (3 : Nat) (Option.some Jvm.ClassFile.FieldType.int)) ∈ gd_tbl := gd_in 302 (by decide +kernel) rfl
theorem m_274 : (Jvm.Cond.methodLink "SafeDesk$Vault" (9 : Nat) ({ cls := "SafeDesk$Vault", name := "enter", desc := "()V" } : Jvm.MethodName)) ∈ gd_tbl := gd_in 303 (by decide +kernel) rfl
theorem m_275 : (Jvm.Cond.sameMethod "SafeDesk$Vault" "SafeDesk$Safe" "enter" "()V") ∈ gd_tbl := gd_in 304 (by decide +kernel) rfl
theorem m_276 : (Jvm.Cond.selects "SafeDesk$Vault" ({ cls := "SafeDesk$Vault", name := "enter", desc := "()V" } : Jvm.MethodName) ({ cls := "SafeDesk$Safe", name := "enter", desc := "()V" } : Jvm.MethodName)) ∈ gd_tbl := gd_in 305 (by decide +kernel) rfl
theorem m_277 : (Jvm.Cond.methodLink "SafeDesk$Vault" (15 : Nat) ({ cls := "SafeDesk$Timed", name := "put", desc := "(I)I" } : Jvm.MethodName)) ∈ gd_tbl := gd_in 306 (by decide +kernel) rfl
theorem m_278 : (Jvm.Cond.methodLink "SafeDesk$Vault" (19 : Nat) ({ cls := "SafeDesk$Vault", name := "leave", desc := "()V" } : Jvm.MethodName)) ∈ gd_tbl := gd_in 307 (by decide +kernel) rfl
theorem m_279 : (Jvm.Cond.sameMethod "SafeDesk$Vault" "SafeDesk$Safe" "leave" "()V") ∈ gd_tbl := gd_in 308 (by decide +kernel) rfl
theorem m_280 : (Jvm.Cond.selects "SafeDesk$Vault" ({ cls := "SafeDesk$Vault", name := "leave", desc := "()V" } : Jvm.MethodName) ({ cls := "SafeDesk$Safe", name := "leave", desc := "()V" } : Jvm.MethodName)) ∈ gd_tbl := gd_in 309 (by decide +kernel) rfl
theorem m_281 : (Jvm.Cond.code ({ cls := "SafeDesk$Safe", name := "put", desc := "(I)I" } : Jvm.MethodName) prog_3_method_4_code (5 : Nat) (Option.some Jvm.ClassFile.FieldType.int)) ∈ gd_tbl := gd_in 310 (by decide +kernel) rfl
theorem m_282 : (Jvm.Cond.methodLink "SafeDesk$Safe" (27 : Nat) ({ cls := "SafeDesk$Safe", name := "enter", desc := "()V" } : Jvm.MethodName)) ∈ gd_tbl := gd_in 311 (by decide +kernel) rfl
theorem m_283 : (Jvm.Cond.constantLong "SafeDesk$Safe" (30 : Nat) (1000000 : Int64)) ∈ gd_tbl := gd_in 312 (by decide +kernel) rfl
theorem m_284 : (Jvm.Cond.methodLink "SafeDesk$Safe" (32 : Nat) ({ cls := "SafeDesk$Safe", name := "leave", desc := "()V" } : Jvm.MethodName)) ∈ gd_tbl := gd_in 313 (by decide +kernel) rfl
theorem m_285 : (Jvm.Cond.methodLink "SafeDesk" (183 : Nat) ({ cls := "SafeDesk$Safe", name := "give", desc := "(ILSafeDesk$Safe;)I" } : Jvm.MethodName)) ∈ gd_tbl := gd_in 314 (by decide +kernel) rfl
theorem m_286 : (Jvm.Cond.instanceMethod ({ cls := "SafeDesk$Safe", name := "give", desc := "(ILSafeDesk$Safe;)I" } : Jvm.MethodName)) ∈ gd_tbl := gd_in 315 (by decide +kernel) rfl
theorem m_287 : (Jvm.Cond.selects "SafeDesk$Safe" ({ cls := "SafeDesk$Safe", name := "give", desc := "(ILSafeDesk$Safe;)I" } : Jvm.MethodName) ({ cls := "SafeDesk$Safe", name := "give", desc := "(ILSafeDesk$Safe;)I" } : Jvm.MethodName)) ∈ gd_tbl := gd_in 316 (by decide +kernel) rfl
theorem m_288 : (Jvm.Cond.sameMethod "SafeDesk$Safe" "SafeDesk$Safe" "give" "(ILSafeDesk$Safe;)I") ∈ gd_tbl := gd_in 317 (by decide +kernel) rfl
theorem m_289 : (Jvm.Cond.selects "SafeDesk$Timed" ({ cls := "SafeDesk$Safe", name := "give", desc := "(ILSafeDesk$Safe;)I" } : Jvm.MethodName) ({ cls := "SafeDesk$Safe", name := "give", desc := "(ILSafeDesk$Safe;)I" } : Jvm.MethodName)) ∈ gd_tbl := gd_in 318 (by decide +kernel) rfl
theorem m_290 : (Jvm.Cond.selects "SafeDesk$Vault" ({ cls := "SafeDesk$Safe", name := "give", desc := "(ILSafeDesk$Safe;)I" } : Jvm.MethodName) ({ cls := "SafeDesk$Safe", name := "give", desc := "(ILSafeDesk$Safe;)I" } : Jvm.MethodName)) ∈ gd_tbl := gd_in 319 (by decide +kernel) rfl
theorem m_291 : (Jvm.Cond.code ({ cls := "SafeDesk$Safe", name := "give", desc := "(ILSafeDesk$Safe;)I" } : Jvm.MethodName) prog_3_method_6_code (4 : Nat) (Option.some Jvm.ClassFile.FieldType.int)) ∈ gd_tbl := gd_in 320 (by decide +kernel) rfl
theorem m_292 : (Jvm.Cond.methodLink "SafeDesk$Safe" (35 : Nat) ({ cls := "SafeDesk$Safe", name := "put", desc := "(I)I" } : Jvm.MethodName)) ∈ gd_tbl := gd_in 321 (by decide +kernel) rfl
theorem m_293 : (Jvm.Cond.methodLink "SafeDesk" (187 : Nat) ({ cls := "SafeDesk$Safe", name := "worth", desc := "()I" } : Jvm.MethodName)) ∈ gd_tbl := gd_in 322 (by decide +kernel) rfl
theorem m_294 : (Jvm.Cond.instanceMethod ({ cls := "SafeDesk$Safe", name := "worth", desc := "()I" } : Jvm.MethodName)) ∈ gd_tbl := gd_in 323 (by decide +kernel) rfl
theorem m_295 : (Jvm.Cond.selects "SafeDesk$Safe" ({ cls := "SafeDesk$Safe", name := "worth", desc := "()I" } : Jvm.MethodName) ({ cls := "SafeDesk$Safe", name := "worth", desc := "()I" } : Jvm.MethodName)) ∈ gd_tbl := gd_in 324 (by decide +kernel) rfl
theorem m_296 : (Jvm.Cond.sameMethod "SafeDesk$Safe" "SafeDesk$Safe" "worth" "()I") ∈ gd_tbl := gd_in 325 (by decide +kernel) rfl
theorem m_297 : (Jvm.Cond.selects "SafeDesk$Timed" ({ cls := "SafeDesk$Safe", name := "worth", desc := "()I" } : Jvm.MethodName) ({ cls := "SafeDesk$Timed", name := "worth", desc := "()I" } : Jvm.MethodName)) ∈ gd_tbl := gd_in 326 (by decide +kernel) rfl
theorem m_298 : (Jvm.Cond.instanceMethod ({ cls := "SafeDesk$Timed", name := "worth", desc := "()I" } : Jvm.MethodName)) ∈ gd_tbl := gd_in 327 (by decide +kernel) rfl
theorem m_299 : (Jvm.Cond.code ({ cls := "SafeDesk$Timed", name := "worth", desc := "()I" } : Jvm.MethodName) prog_4_method_3_code (2 : Nat) (Option.some Jvm.ClassFile.FieldType.int)) ∈ gd_tbl := gd_in 328 (by decide +kernel) rfl
theorem m_300 : (Jvm.Cond.methodLink "SafeDesk$Timed" (24 : Nat) ({ cls := "SafeDesk$Safe", name := "worth", desc := "()I" } : Jvm.MethodName)) ∈ gd_tbl := gd_in 329 (by decide +kernel) rfl
theorem m_301 : (Jvm.Cond.selects "SafeDesk$Vault" ({ cls := "SafeDesk$Safe", name := "worth", desc := "()I" } : Jvm.MethodName) ({ cls := "SafeDesk$Vault", name := "worth", desc := "()I" } : Jvm.MethodName)) ∈ gd_tbl := gd_in 330 (by decide +kernel) rfl
theorem m_302 : (Jvm.Cond.instanceMethod ({ cls := "SafeDesk$Vault", name := "worth", desc := "()I" } : Jvm.MethodName)) ∈ gd_tbl := gd_in 331 (by decide +kernel) rfl
theorem m_303 : (Jvm.Cond.code ({ cls := "SafeDesk$Vault", name := "worth", desc := "()I" } : Jvm.MethodName) prog_5_method_3_code (2 : Nat) (Option.some Jvm.ClassFile.FieldType.int)) ∈ gd_tbl := gd_in 332 (by decide +kernel) rfl
theorem m_304 : (Jvm.Cond.methodLink "SafeDesk$Vault" (22 : Nat) ({ cls := "SafeDesk$Timed", name := "worth", desc := "()I" } : Jvm.MethodName)) ∈ gd_tbl := gd_in 333 (by decide +kernel) rfl
theorem m_305 : (Jvm.Cond.code ({ cls := "SafeDesk$Safe", name := "worth", desc := "()I" } : Jvm.MethodName) prog_3_method_5_code (2 : Nat) (Option.some Jvm.ClassFile.FieldType.int)) ∈ gd_tbl := gd_in 334 (by decide +kernel) rfl
theorem m_306 : (Jvm.Cond.methodLink "SafeDeskLaw" (41 : Nat) ({ cls := "SafeDesk", name := "value", desc := "()I" } : Jvm.MethodName)) ∈ gd_tbl := gd_in 335 (by decide +kernel) rfl
theorem m_307 : (Jvm.Cond.instanceMethod ({ cls := "SafeDesk", name := "value", desc := "()I" } : Jvm.MethodName)) ∈ gd_tbl := gd_in 336 (by decide +kernel) rfl
theorem m_308 : (Jvm.Cond.selects "SafeDesk" ({ cls := "SafeDesk", name := "value", desc := "()I" } : Jvm.MethodName) ({ cls := "SafeDesk", name := "value", desc := "()I" } : Jvm.MethodName)) ∈ gd_tbl := gd_in 337 (by decide +kernel) rfl
theorem m_309 : (Jvm.Cond.code ({ cls := "SafeDesk", name := "value", desc := "()I" } : Jvm.MethodName) prog_1_method_8_code (1 : Nat) (Option.some Jvm.ClassFile.FieldType.int)) ∈ gd_tbl := gd_in 338 (by decide +kernel) rfl
theorem m_310 : (Jvm.Cond.methodLink "SafeDeskLaw" (46 : Nat) ({ cls := "SafeDesk", name := "trace", desc := "(I)I" } : Jvm.MethodName)) ∈ gd_tbl := gd_in 339 (by decide +kernel) rfl
theorem m_311 : (Jvm.Cond.instanceMethod ({ cls := "SafeDesk", name := "trace", desc := "(I)I" } : Jvm.MethodName)) ∈ gd_tbl := gd_in 340 (by decide +kernel) rfl
theorem m_312 : (Jvm.Cond.selects "SafeDesk" ({ cls := "SafeDesk", name := "trace", desc := "(I)I" } : Jvm.MethodName) ({ cls := "SafeDesk", name := "trace", desc := "(I)I" } : Jvm.MethodName)) ∈ gd_tbl := gd_in 341 (by decide +kernel) rfl
theorem m_313 : (Jvm.Cond.code ({ cls := "SafeDesk", name := "trace", desc := "(I)I" } : Jvm.MethodName) prog_1_method_9_code (2 : Nat) (Option.some Jvm.ClassFile.FieldType.int)) ∈ gd_tbl := gd_in 342 (by decide +kernel) rfl
theorem m_314 : (Jvm.Cond.methodLink "SafeDeskLaw" (50 : Nat) ({ cls := "SafeDesk", name := "told", desc := "(II)I" } : Jvm.MethodName)) ∈ gd_tbl := gd_in 343 (by decide +kernel) rfl
theorem m_315 : (Jvm.Cond.instanceMethod ({ cls := "SafeDesk", name := "told", desc := "(II)I" } : Jvm.MethodName)) ∈ gd_tbl := gd_in 344 (by decide +kernel) rfl
theorem m_316 : (Jvm.Cond.selects "SafeDesk" ({ cls := "SafeDesk", name := "told", desc := "(II)I" } : Jvm.MethodName) ({ cls := "SafeDesk", name := "told", desc := "(II)I" } : Jvm.MethodName)) ∈ gd_tbl := gd_in 345 (by decide +kernel) rfl
theorem m_317 : (Jvm.Cond.code ({ cls := "SafeDesk", name := "told", desc := "(II)I" } : Jvm.MethodName) prog_1_method_10_code (4 : Nat) (Option.some Jvm.ClassFile.FieldType.int)) ∈ gd_tbl := gd_in 346 (by decide +kernel) rfl
theorem m_318 : (Jvm.Cond.methodLink "SafeDeskLaw" (54 : Nat) ({ cls := "SafeDesk", name := "count", desc := "(I)I" } : Jvm.MethodName)) ∈ gd_tbl := gd_in 347 (by decide +kernel) rfl
theorem m_319 : (Jvm.Cond.instanceMethod ({ cls := "SafeDesk", name := "count", desc := "(I)I" } : Jvm.MethodName)) ∈ gd_tbl := gd_in 348 (by decide +kernel) rfl
theorem m_320 : (Jvm.Cond.selects "SafeDesk" ({ cls := "SafeDesk", name := "count", desc := "(I)I" } : Jvm.MethodName) ({ cls := "SafeDesk", name := "count", desc := "(I)I" } : Jvm.MethodName)) ∈ gd_tbl := gd_in 349 (by decide +kernel) rfl
theorem m_321 : (Jvm.Cond.code ({ cls := "SafeDesk", name := "count", desc := "(I)I" } : Jvm.MethodName) prog_1_method_11_code (2 : Nat) (Option.some Jvm.ClassFile.FieldType.int)) ∈ gd_tbl := gd_in 350 (by decide +kernel) rfl
theorem m_322 : (Jvm.Cond.methodLink "SafeDesk" (91 : Nat) ({ cls := "SafeDesk", name := "roomsWithSafe", desc := "()I" } : Jvm.MethodName)) ∈ gd_tbl := gd_in 351 (by decide +kernel) rfl
theorem m_324 : (Jvm.Cond.instanceMethod ({ cls := "SafeDesk", name := "roomsWithSafe", desc := "()I" } : Jvm.MethodName)) ∈ gd_tbl := gd_in 353 (by decide +kernel) rfl
theorem m_325 : (Jvm.Cond.code ({ cls := "SafeDesk", name := "roomsWithSafe", desc := "()I" } : Jvm.MethodName) prog_1_method_21_code (3 : Nat) (Option.some Jvm.ClassFile.FieldType.int)) ∈ gd_tbl := gd_in 354 (by decide +kernel) rfl
theorem m_326 : (Jvm.Cond.classLink "SafeDeskLaw" (10 : Nat) "SafeDeskModel") ∈ gd_tbl := gd_in 355 (by decide +kernel) rfl
theorem m_327 : (Jvm.Cond.instantiable "SafeDeskModel" (26 : Nat)) ∈ gd_tbl := gd_in 356 (by decide +kernel) rfl
theorem m_328 : (Jvm.Cond.methodLink "SafeDeskLaw" (12 : Nat) ({ cls := "SafeDeskModel", name := "<init>", desc := "()V" } : Jvm.MethodName)) ∈ gd_tbl := gd_in 357 (by decide +kernel) rfl
theorem m_329 : (Jvm.Cond.instanceMethod ({ cls := "SafeDeskModel", name := "<init>", desc := "()V" } : Jvm.MethodName)) ∈ gd_tbl := gd_in 358 (by decide +kernel) rfl
theorem m_330 : (Jvm.Cond.code ({ cls := "SafeDeskModel", name := "<init>", desc := "()V" } : Jvm.MethodName) prog_7_method_1_code (1 : Nat) (Option.none : Option Jvm.ClassFile.FieldType)) ∈ gd_tbl := gd_in 359 (by decide +kernel) rfl
theorem m_331 : (Jvm.Cond.methodLink "SafeDeskModel" (1 : Nat) ({ cls := "java/lang/Object", name := "<init>", desc := "()V" } : Jvm.MethodName)) ∈ gd_tbl := gd_in 360 (by decide +kernel) rfl
theorem m_332 : (Jvm.Cond.fieldLink "SafeDeskModel" (66 : Nat) "SafeDeskModel" "safes" "I") ∈ gd_tbl := gd_in 361 (by decide +kernel) rfl
theorem m_333 : (Jvm.Cond.fieldLink "SafeDeskModel" (7 : Nat) "SafeDeskModel" "kinds" "[I") ∈ gd_tbl := gd_in 362 (by decide +kernel) rfl
theorem m_334 : (Jvm.Cond.fieldLink "SafeDeskModel" (13 : Nat) "SafeDeskModel" "coins" "[I") ∈ gd_tbl := gd_in 363 (by decide +kernel) rfl
theorem m_335 : (Jvm.Cond.fieldLink "SafeDeskModel" (16 : Nat) "SafeDeskModel" "turns" "[I") ∈ gd_tbl := gd_in 364 (by decide +kernel) rfl
theorem m_336 : (Jvm.Cond.fieldLink "SafeDeskModel" (19 : Nat) "SafeDeskModel" "entries" "[I") ∈ gd_tbl := gd_in 365 (by decide +kernel) rfl
theorem m_337 : (Jvm.Cond.fieldLink "SafeDeskModel" (22 : Nat) "SafeDeskModel" "depths" "[I") ∈ gd_tbl := gd_in 366 (by decide +kernel) rfl
theorem m_338 : (Jvm.Cond.fieldLink "SafeDeskModel" (25 : Nat) "SafeDeskModel" "mosts" "[I") ∈ gd_tbl := gd_in 367 (by decide +kernel) rfl
theorem m_339 : (Jvm.Cond.fieldLink "SafeDeskModel" (28 : Nat) "SafeDeskModel" "rooms" "[I") ∈ gd_tbl := gd_in 368 (by decide +kernel) rfl
theorem m_340 : (Jvm.Cond.fieldLink "SafeDeskModel" (31 : Nat) "SafeDeskModel" "many" "[I") ∈ gd_tbl := gd_in 369 (by decide +kernel) rfl
theorem m_341 : (Jvm.Cond.fieldLink "SafeDeskModel" (34 : Nat) "SafeDeskModel" "stepKind" "[I") ∈ gd_tbl := gd_in 370 (by decide +kernel) rfl
theorem m_342 : (Jvm.Cond.fieldLink "SafeDeskModel" (37 : Nat) "SafeDeskModel" "stepA" "[I") ∈ gd_tbl := gd_in 371 (by decide +kernel) rfl
theorem m_343 : (Jvm.Cond.fieldLink "SafeDeskModel" (40 : Nat) "SafeDeskModel" "stepB" "[I") ∈ gd_tbl := gd_in 372 (by decide +kernel) rfl
theorem m_344 : (Jvm.Cond.fieldLink "SafeDeskModel" (108 : Nat) "SafeDeskModel" "value" "I") ∈ gd_tbl := gd_in 373 (by decide +kernel) rfl
theorem m_345 : (Jvm.Cond.fieldLink "SafeDeskModel" (142 : Nat) "SafeDeskModel" "steps" "I") ∈ gd_tbl := gd_in 374 (by decide +kernel) rfl
theorem m_346 : (Jvm.Cond.fieldLink "SafeDeskModel" (111 : Nat) "SafeDeskModel" "failure" "I") ∈ gd_tbl := gd_in 375 (by decide +kernel) rfl
theorem m_347 : (Jvm.Cond.fieldLink "SafeDeskModel" (148 : Nat) "SafeDeskModel" "ended" "I") ∈ gd_tbl := gd_in 376 (by decide +kernel) rfl
theorem m_348 : (Jvm.Cond.fieldLink "SafeDeskModel" (92 : Nat) "SafeDeskModel" "atWork" "I") ∈ gd_tbl := gd_in 377 (by decide +kernel) rfl
theorem m_349 : (Jvm.Cond.fieldLink "SafeDeskModel" (95 : Nat) "SafeDeskModel" "mostPlans" "I") ∈ gd_tbl := gd_in 378 (by decide +kernel) rfl
theorem m_350 : (Jvm.Cond.fieldLink "SafeDeskModel" (86 : Nat) "SafeDeskModel" "traces" "I") ∈ gd_tbl := gd_in 379 (by decide +kernel) rfl
theorem m_351 : (Jvm.Cond.fieldLink "SafeDeskModel" (43 : Nat) "SafeDeskModel" "traced" "[I") ∈ gd_tbl := gd_in 380 (by decide +kernel) rfl
theorem m_352 : (Jvm.Cond.fieldLink "SafeDeskModel" (89 : Nat) "SafeDeskModel" "blocks" "I") ∈ gd_tbl := gd_in 381 (by decide +kernel) rfl
theorem m_353 : (Jvm.Cond.fieldLink "SafeDeskModel" (46 : Nat) "SafeDeskModel" "sort" "[I") ∈ gd_tbl := gd_in 382 (by decide +kernel) rfl
theorem m_354 : (Jvm.Cond.fieldLink "SafeDeskModel" (49 : Nat) "SafeDeskModel" "planOf" "[I") ∈ gd_tbl := gd_in 383 (by decide +kernel) rfl
theorem m_355 : (Jvm.Cond.fieldLink "SafeDeskModel" (52 : Nat) "SafeDeskModel" "next" "[I") ∈ gd_tbl := gd_in 384 (by decide +kernel) rfl
theorem m_356 : (Jvm.Cond.fieldLink "SafeDeskModel" (55 : Nat) "SafeDeskModel" "end" "[I") ∈ gd_tbl := gd_in 385 (by decide +kernel) rfl
theorem m_357 : (Jvm.Cond.fieldLink "SafeDeskModel" (58 : Nat) "SafeDeskModel" "about" "[I") ∈ gd_tbl := gd_in 386 (by decide +kernel) rfl
theorem m_358 : (Jvm.Cond.lays "SafeDeskModel" "SafeDeskModel" "safes" "I") ∈ gd_tbl := gd_in 387 (by decide +kernel) rfl
theorem m_359 : (Jvm.Cond.soleField "SafeDeskModel" "safes") ∈ gd_tbl := gd_in 388 (by decide +kernel) rfl
theorem m_360 : (Jvm.Cond.laysFinal "SafeDeskModel" "SafeDeskModel" "kinds" "[I") ∈ gd_tbl := gd_in 389 (by decide +kernel) rfl
theorem m_361 : (Jvm.Cond.soleField "SafeDeskModel" "kinds") ∈ gd_tbl := gd_in 390 (by decide +kernel) rfl
theorem m_362 : (Jvm.Cond.laysFinal "SafeDeskModel" "SafeDeskModel" "coins" "[I") ∈ gd_tbl := gd_in 391 (by decide +kernel) rfl
theorem m_363 : (Jvm.Cond.soleField "SafeDeskModel" "coins") ∈ gd_tbl := gd_in 392 (by decide +kernel) rfl
theorem m_364 : (Jvm.Cond.laysFinal "SafeDeskModel" "SafeDeskModel" "turns" "[I") ∈ gd_tbl := gd_in 393 (by decide +kernel) rfl
theorem m_365 : (Jvm.Cond.soleField "SafeDeskModel" "turns") ∈ gd_tbl := gd_in 394 (by decide +kernel) rfl
theorem m_366 : (Jvm.Cond.laysFinal "SafeDeskModel" "SafeDeskModel" "entries" "[I") ∈ gd_tbl := gd_in 395 (by decide +kernel) rfl
theorem m_367 : (Jvm.Cond.soleField "SafeDeskModel" "entries") ∈ gd_tbl := gd_in 396 (by decide +kernel) rfl
theorem m_368 : (Jvm.Cond.laysFinal "SafeDeskModel" "SafeDeskModel" "depths" "[I") ∈ gd_tbl := gd_in 397 (by decide +kernel) rfl
theorem m_369 : (Jvm.Cond.soleField "SafeDeskModel" "depths") ∈ gd_tbl := gd_in 398 (by decide +kernel) rfl
theorem m_370 : (Jvm.Cond.laysFinal "SafeDeskModel" "SafeDeskModel" "mosts" "[I") ∈ gd_tbl := gd_in 399 (by decide +kernel) rfl
theorem m_371 : (Jvm.Cond.soleField "SafeDeskModel" "mosts") ∈ gd_tbl := gd_in 400 (by decide +kernel) rfl
theorem m_372 : (Jvm.Cond.laysFinal "SafeDeskModel" "SafeDeskModel" "rooms" "[I") ∈ gd_tbl := gd_in 401 (by decide +kernel) rfl
theorem m_373 : (Jvm.Cond.soleField "SafeDeskModel" "rooms") ∈ gd_tbl := gd_in 402 (by decide +kernel) rfl
theorem m_374 : (Jvm.Cond.laysFinal "SafeDeskModel" "SafeDeskModel" "many" "[I") ∈ gd_tbl := gd_in 403 (by decide +kernel) rfl
theorem m_375 : (Jvm.Cond.soleField "SafeDeskModel" "many") ∈ gd_tbl := gd_in 404 (by decide +kernel) rfl
theorem m_376 : (Jvm.Cond.laysFinal "SafeDeskModel" "SafeDeskModel" "stepKind" "[I") ∈ gd_tbl := gd_in 405 (by decide +kernel) rfl
theorem m_377 : (Jvm.Cond.soleField "SafeDeskModel" "stepKind") ∈ gd_tbl := gd_in 406 (by decide +kernel) rfl
theorem m_378 : (Jvm.Cond.laysFinal "SafeDeskModel" "SafeDeskModel" "stepA" "[I") ∈ gd_tbl := gd_in 407 (by decide +kernel) rfl
theorem m_379 : (Jvm.Cond.soleField "SafeDeskModel" "stepA") ∈ gd_tbl := gd_in 408 (by decide +kernel) rfl
theorem m_380 : (Jvm.Cond.laysFinal "SafeDeskModel" "SafeDeskModel" "stepB" "[I") ∈ gd_tbl := gd_in 409 (by decide +kernel) rfl
theorem m_381 : (Jvm.Cond.soleField "SafeDeskModel" "stepB") ∈ gd_tbl := gd_in 410 (by decide +kernel) rfl
theorem m_382 : (Jvm.Cond.lays "SafeDeskModel" "SafeDeskModel" "value" "I") ∈ gd_tbl := gd_in 411 (by decide +kernel) rfl
theorem m_383 : (Jvm.Cond.soleField "SafeDeskModel" "value") ∈ gd_tbl := gd_in 412 (by decide +kernel) rfl
theorem m_384 : (Jvm.Cond.lays "SafeDeskModel" "SafeDeskModel" "steps" "I") ∈ gd_tbl := gd_in 413 (by decide +kernel) rfl
theorem m_385 : (Jvm.Cond.soleField "SafeDeskModel" "steps") ∈ gd_tbl := gd_in 414 (by decide +kernel) rfl
theorem m_386 : (Jvm.Cond.lays "SafeDeskModel" "SafeDeskModel" "failure" "I") ∈ gd_tbl := gd_in 415 (by decide +kernel) rfl
theorem m_387 : (Jvm.Cond.soleField "SafeDeskModel" "failure") ∈ gd_tbl := gd_in 416 (by decide +kernel) rfl
theorem m_388 : (Jvm.Cond.lays "SafeDeskModel" "SafeDeskModel" "ended" "I") ∈ gd_tbl := gd_in 417 (by decide +kernel) rfl
theorem m_389 : (Jvm.Cond.soleField "SafeDeskModel" "ended") ∈ gd_tbl := gd_in 418 (by decide +kernel) rfl
theorem m_390 : (Jvm.Cond.lays "SafeDeskModel" "SafeDeskModel" "atWork" "I") ∈ gd_tbl := gd_in 419 (by decide +kernel) rfl
theorem m_391 : (Jvm.Cond.soleField "SafeDeskModel" "atWork") ∈ gd_tbl := gd_in 420 (by decide +kernel) rfl
theorem m_392 : (Jvm.Cond.lays "SafeDeskModel" "SafeDeskModel" "mostPlans" "I") ∈ gd_tbl := gd_in 421 (by decide +kernel) rfl
theorem m_393 : (Jvm.Cond.soleField "SafeDeskModel" "mostPlans") ∈ gd_tbl := gd_in 422 (by decide +kernel) rfl
theorem m_394 : (Jvm.Cond.lays "SafeDeskModel" "SafeDeskModel" "traces" "I") ∈ gd_tbl := gd_in 423 (by decide +kernel) rfl
theorem m_395 : (Jvm.Cond.soleField "SafeDeskModel" "traces") ∈ gd_tbl := gd_in 424 (by decide +kernel) rfl
theorem m_396 : (Jvm.Cond.laysFinal "SafeDeskModel" "SafeDeskModel" "traced" "[I") ∈ gd_tbl := gd_in 425 (by decide +kernel) rfl
theorem m_397 : (Jvm.Cond.soleField "SafeDeskModel" "traced") ∈ gd_tbl := gd_in 426 (by decide +kernel) rfl
theorem m_398 : (Jvm.Cond.lays "SafeDeskModel" "SafeDeskModel" "blocks" "I") ∈ gd_tbl := gd_in 427 (by decide +kernel) rfl
theorem m_399 : (Jvm.Cond.soleField "SafeDeskModel" "blocks") ∈ gd_tbl := gd_in 428 (by decide +kernel) rfl
theorem m_400 : (Jvm.Cond.laysFinal "SafeDeskModel" "SafeDeskModel" "sort" "[I") ∈ gd_tbl := gd_in 429 (by decide +kernel) rfl
theorem m_401 : (Jvm.Cond.soleField "SafeDeskModel" "sort") ∈ gd_tbl := gd_in 430 (by decide +kernel) rfl
theorem m_402 : (Jvm.Cond.laysFinal "SafeDeskModel" "SafeDeskModel" "planOf" "[I") ∈ gd_tbl := gd_in 431 (by decide +kernel) rfl
theorem m_403 : (Jvm.Cond.soleField "SafeDeskModel" "planOf") ∈ gd_tbl := gd_in 432 (by decide +kernel) rfl
theorem m_404 : (Jvm.Cond.laysFinal "SafeDeskModel" "SafeDeskModel" "next" "[I") ∈ gd_tbl := gd_in 433 (by decide +kernel) rfl
theorem m_405 : (Jvm.Cond.soleField "SafeDeskModel" "next") ∈ gd_tbl := gd_in 434 (by decide +kernel) rfl
theorem m_406 : (Jvm.Cond.laysFinal "SafeDeskModel" "SafeDeskModel" "end" "[I") ∈ gd_tbl := gd_in 435 (by decide +kernel) rfl
theorem m_407 : (Jvm.Cond.soleField "SafeDeskModel" "end") ∈ gd_tbl := gd_in 436 (by decide +kernel) rfl
theorem m_408 : (Jvm.Cond.laysFinal "SafeDeskModel" "SafeDeskModel" "about" "[I") ∈ gd_tbl := gd_in 437 (by decide +kernel) rfl
theorem m_409 : (Jvm.Cond.soleField "SafeDeskModel" "about") ∈ gd_tbl := gd_in 438 (by decide +kernel) rfl
theorem m_410 : (Jvm.Cond.superclass "SafeDeskModel" "java/lang/Object") ∈ gd_tbl := gd_in 439 (by decide +kernel) rfl
theorem m_411 : (Jvm.Cond.methodLink "SafeDeskLaw" (17 : Nat) ({ cls := "SafeDeskModel", name := "safe", desc := "(III)I" } : Jvm.MethodName)) ∈ gd_tbl := gd_in 440 (by decide +kernel) rfl
theorem m_412 : (Jvm.Cond.instanceMethod ({ cls := "SafeDeskModel", name := "safe", desc := "(III)I" } : Jvm.MethodName)) ∈ gd_tbl := gd_in 441 (by decide +kernel) rfl
theorem m_413 : (Jvm.Cond.selects "SafeDeskModel" ({ cls := "SafeDeskModel", name := "safe", desc := "(III)I" } : Jvm.MethodName) ({ cls := "SafeDeskModel", name := "safe", desc := "(III)I" } : Jvm.MethodName)) ∈ gd_tbl := gd_in 442 (by decide +kernel) rfl
theorem m_414 : (Jvm.Cond.code ({ cls := "SafeDeskModel", name := "safe", desc := "(III)I" } : Jvm.MethodName) prog_7_method_3_code (4 : Nat) (Option.some Jvm.ClassFile.FieldType.int)) ∈ gd_tbl := gd_in 443 (by decide +kernel) rfl
theorem m_415 : (Jvm.Cond.methodLink "SafeDeskModel" (61 : Nat) ({ cls := "SafeDeskModel", name := "in", desc := "(III)Z" } : Jvm.MethodName)) ∈ gd_tbl := gd_in 444 (by decide +kernel) rfl
theorem m_416 : (Jvm.Cond.static ({ cls := "SafeDeskModel", name := "in", desc := "(III)Z" } : Jvm.MethodName)) ∈ gd_tbl := gd_in 445 (by decide +kernel) rfl
theorem m_417 : (Jvm.Cond.code ({ cls := "SafeDeskModel", name := "in", desc := "(III)Z" } : Jvm.MethodName) prog_7_method_2_code (3 : Nat) (Option.some Jvm.ClassFile.FieldType.boolean)) ∈ gd_tbl := gd_in 446 (by decide +kernel) rfl
theorem m_418 : (Jvm.Cond.constant "SafeDeskModel" (65 : Nat) (1000000 : Int32)) ∈ gd_tbl := gd_in 447 (by decide +kernel) rfl
theorem m_419 : (Jvm.Cond.methodLink "SafeDeskLaw" (22 : Nat) ({ cls := "SafeDeskModel", name := "share", desc := "(II)I" } : Jvm.MethodName)) ∈ gd_tbl := gd_in 448 (by decide +kernel) rfl
theorem m_420 : (Jvm.Cond.instanceMethod ({ cls := "SafeDeskModel", name := "share", desc := "(II)I" } : Jvm.MethodName)) ∈ gd_tbl := gd_in 449 (by decide +kernel) rfl
theorem m_421 : (Jvm.Cond.selects "SafeDeskModel" ({ cls := "SafeDeskModel", name := "share", desc := "(II)I" } : Jvm.MethodName) ({ cls := "SafeDeskModel", name := "share", desc := "(II)I" } : Jvm.MethodName)) ∈ gd_tbl := gd_in 450 (by decide +kernel) rfl
theorem m_422 : (Jvm.Cond.code ({ cls := "SafeDeskModel", name := "share", desc := "(II)I" } : Jvm.MethodName) prog_7_method_4_code (3 : Nat) (Option.some Jvm.ClassFile.FieldType.int)) ∈ gd_tbl := gd_in 451 (by decide +kernel) rfl
theorem m_423 : (Jvm.Cond.methodLink "SafeDeskLaw" (26 : Nat) ({ cls := "SafeDeskModel", name := "same", desc := "(II)I" } : Jvm.MethodName)) ∈ gd_tbl := gd_in 452 (by decide +kernel) rfl
theorem m_424 : (Jvm.Cond.instanceMethod ({ cls := "SafeDeskModel", name := "same", desc := "(II)I" } : Jvm.MethodName)) ∈ gd_tbl := gd_in 453 (by decide +kernel) rfl
theorem m_425 : (Jvm.Cond.selects "SafeDeskModel" ({ cls := "SafeDeskModel", name := "same", desc := "(II)I" } : Jvm.MethodName) ({ cls := "SafeDeskModel", name := "same", desc := "(II)I" } : Jvm.MethodName)) ∈ gd_tbl := gd_in 454 (by decide +kernel) rfl
theorem m_426 : (Jvm.Cond.code ({ cls := "SafeDeskModel", name := "same", desc := "(II)I" } : Jvm.MethodName) prog_7_method_5_code (3 : Nat) (Option.some Jvm.ClassFile.FieldType.int)) ∈ gd_tbl := gd_in 455 (by decide +kernel) rfl
theorem m_427 : (Jvm.Cond.methodLink "SafeDeskLaw" (31 : Nat) ({ cls := "SafeDeskModel", name := "step", desc := "(IIII)I" } : Jvm.MethodName)) ∈ gd_tbl := gd_in 456 (by decide +kernel) rfl
theorem m_428 : (Jvm.Cond.instanceMethod ({ cls := "SafeDeskModel", name := "step", desc := "(IIII)I" } : Jvm.MethodName)) ∈ gd_tbl := gd_in 457 (by decide +kernel) rfl
theorem m_429 : (Jvm.Cond.selects "SafeDeskModel" ({ cls := "SafeDeskModel", name := "step", desc := "(IIII)I" } : Jvm.MethodName) ({ cls := "SafeDeskModel", name := "step", desc := "(IIII)I" } : Jvm.MethodName)) ∈ gd_tbl := gd_in 458 (by decide +kernel) rfl
theorem m_430 : (Jvm.Cond.code ({ cls := "SafeDeskModel", name := "step", desc := "(IIII)I" } : Jvm.MethodName) prog_7_method_12_code (6 : Nat) (Option.some Jvm.ClassFile.FieldType.int)) ∈ gd_tbl := gd_in 459 (by decide +kernel) rfl
theorem m_431 : (Jvm.Cond.methodLink "SafeDeskLaw" (36 : Nat) ({ cls := "SafeDeskModel", name := "clear", desc := "(I)I" } : Jvm.MethodName)) ∈ gd_tbl := gd_in 460 (by decide +kernel) rfl
theorem m_432 : (Jvm.Cond.instanceMethod ({ cls := "SafeDeskModel", name := "clear", desc := "(I)I" } : Jvm.MethodName)) ∈ gd_tbl := gd_in 461 (by decide +kernel) rfl
theorem m_433 : (Jvm.Cond.selects "SafeDeskModel" ({ cls := "SafeDeskModel", name := "clear", desc := "(I)I" } : Jvm.MethodName) ({ cls := "SafeDeskModel", name := "clear", desc := "(I)I" } : Jvm.MethodName)) ∈ gd_tbl := gd_in 462 (by decide +kernel) rfl
theorem m_434 : (Jvm.Cond.code ({ cls := "SafeDeskModel", name := "clear", desc := "(I)I" } : Jvm.MethodName) prog_7_method_13_code (3 : Nat) (Option.some Jvm.ClassFile.FieldType.int)) ∈ gd_tbl := gd_in 463 (by decide +kernel) rfl
theorem m_435 : (Jvm.Cond.methodLink "SafeDeskLaw" (40 : Nat) ({ cls := "SafeDeskModel", name := "run", desc := "(II)I" } : Jvm.MethodName)) ∈ gd_tbl := gd_in 464 (by decide +kernel) rfl
theorem m_436 : (Jvm.Cond.instanceMethod ({ cls := "SafeDeskModel", name := "run", desc := "(II)I" } : Jvm.MethodName)) ∈ gd_tbl := gd_in 465 (by decide +kernel) rfl
theorem m_437 : (Jvm.Cond.selects "SafeDeskModel" ({ cls := "SafeDeskModel", name := "run", desc := "(II)I" } : Jvm.MethodName) ({ cls := "SafeDeskModel", name := "run", desc := "(II)I" } : Jvm.MethodName)) ∈ gd_tbl := gd_in 466 (by decide +kernel) rfl
theorem m_438 : (Jvm.Cond.code ({ cls := "SafeDeskModel", name := "run", desc := "(II)I" } : Jvm.MethodName) prog_7_method_24_code (5 : Nat) (Option.some Jvm.ClassFile.FieldType.int)) ∈ gd_tbl := gd_in 467 (by decide +kernel) rfl
theorem m_439 : (Jvm.Cond.methodLink "SafeDeskModel" (132 : Nat) ({ cls := "SafeDeskModel", name := "beginPlan", desc := "(I)V" } : Jvm.MethodName)) ∈ gd_tbl := gd_in 468 (by decide +kernel) rfl
theorem m_441 : (Jvm.Cond.instanceMethod ({ cls := "SafeDeskModel", name := "beginPlan", desc := "(I)V" } : Jvm.MethodName)) ∈ gd_tbl := gd_in 470 (by decide +kernel) rfl
theorem m_442 : (Jvm.Cond.code ({ cls := "SafeDeskModel", name := "beginPlan", desc := "(I)V" } : Jvm.MethodName) prog_7_method_16_code (2 : Nat) (Option.none : Option Jvm.ClassFile.FieldType)) ∈ gd_tbl := gd_in 471 (by decide +kernel) rfl
theorem m_443 : (Jvm.Cond.methodLink "SafeDeskModel" (98 : Nat) ({ cls := "SafeDeskModel", name := "push", desc := "(IIIII)V" } : Jvm.MethodName)) ∈ gd_tbl := gd_in 472 (by decide +kernel) rfl
theorem m_445 : (Jvm.Cond.instanceMethod ({ cls := "SafeDeskModel", name := "push", desc := "(IIIII)V" } : Jvm.MethodName)) ∈ gd_tbl := gd_in 474 (by decide +kernel) rfl
theorem m_446 : (Jvm.Cond.code ({ cls := "SafeDeskModel", name := "push", desc := "(IIIII)V" } : Jvm.MethodName) prog_7_method_15_code (6 : Nat) (Option.none : Option Jvm.ClassFile.FieldType)) ∈ gd_tbl := gd_in 475 (by decide +kernel) rfl
theorem m_447 : (Jvm.Cond.methodLink "SafeDeskModel" (105 : Nat) ({ cls := "SafeDeskModel", name := "pop", desc := "()V" } : Jvm.MethodName)) ∈ gd_tbl := gd_in 476 (by decide +kernel) rfl
theorem m_449 : (Jvm.Cond.instanceMethod ({ cls := "SafeDeskModel", name := "pop", desc := "()V" } : Jvm.MethodName)) ∈ gd_tbl := gd_in 478 (by decide +kernel) rfl
theorem m_450 : (Jvm.Cond.code ({ cls := "SafeDeskModel", name := "pop", desc := "()V" } : Jvm.MethodName) prog_7_method_17_code (1 : Nat) (Option.none : Option Jvm.ClassFile.FieldType)) ∈ gd_tbl := gd_in 479 (by decide +kernel) rfl
theorem m_451 : (Jvm.Cond.methodLink "SafeDeskModel" (102 : Nat) ({ cls := "SafeDeskModel", name := "leave", desc := "(I)V" } : Jvm.MethodName)) ∈ gd_tbl := gd_in 480 (by decide +kernel) rfl
theorem m_453 : (Jvm.Cond.instanceMethod ({ cls := "SafeDeskModel", name := "leave", desc := "(I)V" } : Jvm.MethodName)) ∈ gd_tbl := gd_in 482 (by decide +kernel) rfl
theorem m_454 : (Jvm.Cond.code ({ cls := "SafeDeskModel", name := "leave", desc := "(I)V" } : Jvm.MethodName) prog_7_method_14_code (2 : Nat) (Option.none : Option Jvm.ClassFile.FieldType)) ∈ gd_tbl := gd_in 483 (by decide +kernel) rfl
theorem m_455 : (Jvm.Cond.methodLink "SafeDeskModel" (114 : Nat) ({ cls := "SafeDeskModel", name := "fails", desc := "(I)V" } : Jvm.MethodName)) ∈ gd_tbl := gd_in 484 (by decide +kernel) rfl
theorem m_457 : (Jvm.Cond.instanceMethod ({ cls := "SafeDeskModel", name := "fails", desc := "(I)V" } : Jvm.MethodName)) ∈ gd_tbl := gd_in 486 (by decide +kernel) rfl
theorem m_458 : (Jvm.Cond.code ({ cls := "SafeDeskModel", name := "fails", desc := "(I)V" } : Jvm.MethodName) prog_7_method_18_code (3 : Nat) (Option.none : Option Jvm.ClassFile.FieldType)) ∈ gd_tbl := gd_in 487 (by decide +kernel) rfl
theorem m_459 : (Jvm.Cond.methodLink "SafeDeskModel" (145 : Nat) ({ cls := "SafeDeskModel", name := "does", desc := "(III)V" } : Jvm.MethodName)) ∈ gd_tbl := gd_in 488 (by decide +kernel) rfl
theorem m_461 : (Jvm.Cond.instanceMethod ({ cls := "SafeDeskModel", name := "does", desc := "(III)V" } : Jvm.MethodName)) ∈ gd_tbl := gd_in 490 (by decide +kernel) rfl
theorem m_462 : (Jvm.Cond.code ({ cls := "SafeDeskModel", name := "does", desc := "(III)V" } : Jvm.MethodName) prog_7_method_23_code (4 : Nat) (Option.none : Option Jvm.ClassFile.FieldType)) ∈ gd_tbl := gd_in 491 (by decide +kernel) rfl
theorem m_463 : (Jvm.Cond.methodLink "SafeDeskModel" (117 : Nat) ({ cls := "SafeDeskModel", name := "within", desc := "(III)V" } : Jvm.MethodName)) ∈ gd_tbl := gd_in 492 (by decide +kernel) rfl
theorem m_465 : (Jvm.Cond.instanceMethod ({ cls := "SafeDeskModel", name := "within", desc := "(III)V" } : Jvm.MethodName)) ∈ gd_tbl := gd_in 494 (by decide +kernel) rfl
theorem m_466 : (Jvm.Cond.code ({ cls := "SafeDeskModel", name := "within", desc := "(III)V" } : Jvm.MethodName) prog_7_method_19_code (7 : Nat) (Option.none : Option Jvm.ClassFile.FieldType)) ∈ gd_tbl := gd_in 495 (by decide +kernel) rfl
theorem m_467 : (Jvm.Cond.methodLink "SafeDeskModel" (129 : Nat) ({ cls := "SafeDeskModel", name := "back", desc := "(I)V" } : Jvm.MethodName)) ∈ gd_tbl := gd_in 496 (by decide +kernel) rfl
theorem m_469 : (Jvm.Cond.instanceMethod ({ cls := "SafeDeskModel", name := "back", desc := "(I)V" } : Jvm.MethodName)) ∈ gd_tbl := gd_in 498 (by decide +kernel) rfl
theorem m_470 : (Jvm.Cond.code ({ cls := "SafeDeskModel", name := "back", desc := "(I)V" } : Jvm.MethodName) prog_7_method_20_code (2 : Nat) (Option.none : Option Jvm.ClassFile.FieldType)) ∈ gd_tbl := gd_in 499 (by decide +kernel) rfl
theorem m_471 : (Jvm.Cond.methodLink "SafeDeskModel" (135 : Nat) ({ cls := "SafeDeskModel", name := "seek", desc := "(II)V" } : Jvm.MethodName)) ∈ gd_tbl := gd_in 500 (by decide +kernel) rfl
theorem m_473 : (Jvm.Cond.instanceMethod ({ cls := "SafeDeskModel", name := "seek", desc := "(II)V" } : Jvm.MethodName)) ∈ gd_tbl := gd_in 502 (by decide +kernel) rfl
theorem m_474 : (Jvm.Cond.code ({ cls := "SafeDeskModel", name := "seek", desc := "(II)V" } : Jvm.MethodName) prog_7_method_21_code (5 : Nat) (Option.none : Option Jvm.ClassFile.FieldType)) ∈ gd_tbl := gd_in 503 (by decide +kernel) rfl
theorem m_475 : (Jvm.Cond.methodLink "SafeDeskModel" (70 : Nat) ({ cls := "SafeDeskModel", name := "enter", desc := "(I)V" } : Jvm.MethodName)) ∈ gd_tbl := gd_in 504 (by decide +kernel) rfl
theorem m_477 : (Jvm.Cond.instanceMethod ({ cls := "SafeDeskModel", name := "enter", desc := "(I)V" } : Jvm.MethodName)) ∈ gd_tbl := gd_in 506 (by decide +kernel) rfl
theorem m_478 : (Jvm.Cond.code ({ cls := "SafeDeskModel", name := "enter", desc := "(I)V" } : Jvm.MethodName) prog_7_method_6_code (2 : Nat) (Option.none : Option Jvm.ClassFile.FieldType)) ∈ gd_tbl := gd_in 507 (by decide +kernel) rfl
theorem m_479 : (Jvm.Cond.methodLink "SafeDeskModel" (139 : Nat) ({ cls := "SafeDeskModel", name := "withSafe", desc := "(III)V" } : Jvm.MethodName)) ∈ gd_tbl := gd_in 508 (by decide +kernel) rfl
theorem m_481 : (Jvm.Cond.instanceMethod ({ cls := "SafeDeskModel", name := "withSafe", desc := "(III)V" } : Jvm.MethodName)) ∈ gd_tbl := gd_in 510 (by decide +kernel) rfl
theorem m_482 : (Jvm.Cond.code ({ cls := "SafeDeskModel", name := "withSafe", desc := "(III)V" } : Jvm.MethodName) prog_7_method_22_code (5 : Nat) (Option.none : Option Jvm.ClassFile.FieldType)) ∈ gd_tbl := gd_in 511 (by decide +kernel) rfl
theorem m_483 : (Jvm.Cond.methodLink "SafeDeskModel" (83 : Nat) ({ cls := "SafeDeskModel", name := "put", desc := "(II)Z" } : Jvm.MethodName)) ∈ gd_tbl := gd_in 512 (by decide +kernel) rfl
theorem m_485 : (Jvm.Cond.instanceMethod ({ cls := "SafeDeskModel", name := "put", desc := "(II)Z" } : Jvm.MethodName)) ∈ gd_tbl := gd_in 514 (by decide +kernel) rfl
theorem m_486 : (Jvm.Cond.code ({ cls := "SafeDeskModel", name := "put", desc := "(II)Z" } : Jvm.MethodName) prog_7_method_9_code (4 : Nat) (Option.some Jvm.ClassFile.FieldType.boolean)) ∈ gd_tbl := gd_in 515 (by decide +kernel) rfl
theorem m_487 : (Jvm.Cond.methodLink "SafeDeskModel" (76 : Nat) ({ cls := "SafeDeskModel", name := "putPlain", desc := "(II)Z" } : Jvm.MethodName)) ∈ gd_tbl := gd_in 516 (by decide +kernel) rfl
theorem m_489 : (Jvm.Cond.instanceMethod ({ cls := "SafeDeskModel", name := "putPlain", desc := "(II)Z" } : Jvm.MethodName)) ∈ gd_tbl := gd_in 518 (by decide +kernel) rfl
theorem m_490 : (Jvm.Cond.code ({ cls := "SafeDeskModel", name := "putPlain", desc := "(II)Z" } : Jvm.MethodName) prog_7_method_7_code (6 : Nat) (Option.some Jvm.ClassFile.FieldType.boolean)) ∈ gd_tbl := gd_in 519 (by decide +kernel) rfl
theorem m_491 : (Jvm.Cond.constantLong "SafeDeskModel" (74 : Nat) (1000000 : Int64)) ∈ gd_tbl := gd_in 520 (by decide +kernel) rfl
theorem m_492 : (Jvm.Cond.methodLink "SafeDeskModel" (80 : Nat) ({ cls := "SafeDeskModel", name := "putTimed", desc := "(II)Z" } : Jvm.MethodName)) ∈ gd_tbl := gd_in 521 (by decide +kernel) rfl
theorem m_494 : (Jvm.Cond.instanceMethod ({ cls := "SafeDeskModel", name := "putTimed", desc := "(II)Z" } : Jvm.MethodName)) ∈ gd_tbl := gd_in 523 (by decide +kernel) rfl
theorem m_495 : (Jvm.Cond.code ({ cls := "SafeDeskModel", name := "putTimed", desc := "(II)Z" } : Jvm.MethodName) prog_7_method_8_code (4 : Nat) (Option.some Jvm.ClassFile.FieldType.boolean)) ∈ gd_tbl := gd_in 524 (by decide +kernel) rfl
theorem m_496 : (Jvm.Cond.methodLink "SafeDeskModel" (121 : Nat) ({ cls := "SafeDeskModel", name := "worth", desc := "(I)I" } : Jvm.MethodName)) ∈ gd_tbl := gd_in 525 (by decide +kernel) rfl
theorem m_498 : (Jvm.Cond.instanceMethod ({ cls := "SafeDeskModel", name := "worth", desc := "(I)I" } : Jvm.MethodName)) ∈ gd_tbl := gd_in 527 (by decide +kernel) rfl
theorem m_499 : (Jvm.Cond.code ({ cls := "SafeDeskModel", name := "worth", desc := "(I)I" } : Jvm.MethodName) prog_7_method_10_code (3 : Nat) (Option.some Jvm.ClassFile.FieldType.int)) ∈ gd_tbl := gd_in 528 (by decide +kernel) rfl
theorem m_500 : (Jvm.Cond.methodLink "SafeDeskModel" (125 : Nat) ({ cls := "SafeDeskModel", name := "give", desc := "(III)I" } : Jvm.MethodName)) ∈ gd_tbl := gd_in 529 (by decide +kernel) rfl
theorem m_502 : (Jvm.Cond.instanceMethod ({ cls := "SafeDeskModel", name := "give", desc := "(III)I" } : Jvm.MethodName)) ∈ gd_tbl := gd_in 531 (by decide +kernel) rfl
theorem m_503 : (Jvm.Cond.code ({ cls := "SafeDeskModel", name := "give", desc := "(III)I" } : Jvm.MethodName) prog_7_method_11_code (6 : Nat) (Option.some Jvm.ClassFile.FieldType.int)) ∈ gd_tbl := gd_in 532 (by decide +kernel) rfl
theorem m_504 : (Jvm.Cond.methodLink "SafeDeskLaw" (45 : Nat) ({ cls := "SafeDeskModel", name := "value", desc := "()I" } : Jvm.MethodName)) ∈ gd_tbl := gd_in 533 (by decide +kernel) rfl
theorem m_505 : (Jvm.Cond.instanceMethod ({ cls := "SafeDeskModel", name := "value", desc := "()I" } : Jvm.MethodName)) ∈ gd_tbl := gd_in 534 (by decide +kernel) rfl
theorem m_506 : (Jvm.Cond.selects "SafeDeskModel" ({ cls := "SafeDeskModel", name := "value", desc := "()I" } : Jvm.MethodName) ({ cls := "SafeDeskModel", name := "value", desc := "()I" } : Jvm.MethodName)) ∈ gd_tbl := gd_in 535 (by decide +kernel) rfl
theorem m_507 : (Jvm.Cond.code ({ cls := "SafeDeskModel", name := "value", desc := "()I" } : Jvm.MethodName) prog_7_method_25_code (1 : Nat) (Option.some Jvm.ClassFile.FieldType.int)) ∈ gd_tbl := gd_in 536 (by decide +kernel) rfl
theorem m_508 : (Jvm.Cond.methodLink "SafeDeskLaw" (49 : Nat) ({ cls := "SafeDeskModel", name := "trace", desc := "(I)I" } : Jvm.MethodName)) ∈ gd_tbl := gd_in 537 (by decide +kernel) rfl
theorem m_509 : (Jvm.Cond.instanceMethod ({ cls := "SafeDeskModel", name := "trace", desc := "(I)I" } : Jvm.MethodName)) ∈ gd_tbl := gd_in 538 (by decide +kernel) rfl
theorem m_510 : (Jvm.Cond.selects "SafeDeskModel" ({ cls := "SafeDeskModel", name := "trace", desc := "(I)I" } : Jvm.MethodName) ({ cls := "SafeDeskModel", name := "trace", desc := "(I)I" } : Jvm.MethodName)) ∈ gd_tbl := gd_in 539 (by decide +kernel) rfl
theorem m_511 : (Jvm.Cond.code ({ cls := "SafeDeskModel", name := "trace", desc := "(I)I" } : Jvm.MethodName) prog_7_method_26_code (2 : Nat) (Option.some Jvm.ClassFile.FieldType.int)) ∈ gd_tbl := gd_in 540 (by decide +kernel) rfl
theorem m_512 : (Jvm.Cond.methodLink "SafeDeskLaw" (53 : Nat) ({ cls := "SafeDeskModel", name := "told", desc := "(II)I" } : Jvm.MethodName)) ∈ gd_tbl := gd_in 541 (by decide +kernel) rfl
theorem m_513 : (Jvm.Cond.instanceMethod ({ cls := "SafeDeskModel", name := "told", desc := "(II)I" } : Jvm.MethodName)) ∈ gd_tbl := gd_in 542 (by decide +kernel) rfl
theorem m_514 : (Jvm.Cond.selects "SafeDeskModel" ({ cls := "SafeDeskModel", name := "told", desc := "(II)I" } : Jvm.MethodName) ({ cls := "SafeDeskModel", name := "told", desc := "(II)I" } : Jvm.MethodName)) ∈ gd_tbl := gd_in 543 (by decide +kernel) rfl
theorem m_515 : (Jvm.Cond.code ({ cls := "SafeDeskModel", name := "told", desc := "(II)I" } : Jvm.MethodName) prog_7_method_27_code (4 : Nat) (Option.some Jvm.ClassFile.FieldType.int)) ∈ gd_tbl := gd_in 544 (by decide +kernel) rfl
theorem m_516 : (Jvm.Cond.methodLink "SafeDeskLaw" (57 : Nat) ({ cls := "SafeDeskModel", name := "count", desc := "(I)I" } : Jvm.MethodName)) ∈ gd_tbl := gd_in 545 (by decide +kernel) rfl
theorem m_517 : (Jvm.Cond.instanceMethod ({ cls := "SafeDeskModel", name := "count", desc := "(I)I" } : Jvm.MethodName)) ∈ gd_tbl := gd_in 546 (by decide +kernel) rfl
theorem m_518 : (Jvm.Cond.selects "SafeDeskModel" ({ cls := "SafeDeskModel", name := "count", desc := "(I)I" } : Jvm.MethodName) ({ cls := "SafeDeskModel", name := "count", desc := "(I)I" } : Jvm.MethodName)) ∈ gd_tbl := gd_in 547 (by decide +kernel) rfl
theorem m_519 : (Jvm.Cond.code ({ cls := "SafeDeskModel", name := "count", desc := "(I)I" } : Jvm.MethodName) prog_7_method_28_code (4 : Nat) (Option.some Jvm.ClassFile.FieldType.int)) ∈ gd_tbl := gd_in 548 (by decide +kernel) rfl
theorem m_520 : (Jvm.Cond.sameMethod "SafeDesk$Timed" "SafeDesk$Timed" "put" "(I)I") ∈ gd_tbl := gd_in 549 (by decide +kernel) rfl
theorem m_521 : (Jvm.Cond.sameMethod "SafeDesk$Timed" "SafeDesk$Timed" "worth" "()I") ∈ gd_tbl := gd_in 550 (by decide +kernel) rfl
theorem ms_0 : Cond.selects "SafeDesk" ⟨"SafeDesk", "doPlan", "(I)I"⟩ ⟨"SafeDesk", "doPlan", "(I)I"⟩ ∈ gd_tbl := gd_in 0 (by decide +kernel) rfl
theorem ms_1 : Cond.selects "SafeDesk" ⟨"SafeDesk", "doSteps", "(LSafeDesk$Plan;II)I"⟩ ⟨"SafeDesk", "doSteps", "(LSafeDesk$Plan;II)I"⟩ ∈ gd_tbl := gd_in 1 (by decide +kernel) rfl
theorem ms_2 : Cond.selects "SafeDesk" ⟨"SafeDesk", "doStep", "(LSafeDesk$Plan;II)I"⟩ ⟨"SafeDesk", "doStep", "(LSafeDesk$Plan;II)I"⟩ ∈ gd_tbl := gd_in 2 (by decide +kernel) rfl
theorem ms_3 : Cond.selects "SafeDesk" ⟨"SafeDesk", "leaveInTrace", "(I)V"⟩ ⟨"SafeDesk", "leaveInTrace", "(I)V"⟩ ∈ gd_tbl := gd_in 3 (by decide +kernel) rfl
theorem ms_4 : Cond.selects "SafeDesk" ⟨"SafeDesk", "safeIn", "(I)LSafeDesk$Safe;"⟩ ⟨"SafeDesk", "safeIn", "(I)LSafeDesk$Safe;"⟩ ∈ gd_tbl := gd_in 4 (by decide +kernel) rfl
theorem ms_5 : Cond.selects "SafeDesk" ⟨"SafeDesk", "doInside", "(LSafeDesk$Safe;LSafeDesk$Plan;II)I"⟩ ⟨"SafeDesk", "doInside", "(LSafeDesk$Safe;LSafeDesk$Plan;II)I"⟩ ∈ gd_tbl := gd_in 5 (by decide +kernel) rfl
theorem ms_6 : Cond.selects "SafeDesk" ⟨"SafeDesk", "doTry", "(ILSafeDesk$Plan;II)I"⟩ ⟨"SafeDesk", "doTry", "(ILSafeDesk$Plan;II)I"⟩ ∈ gd_tbl := gd_in 6 (by decide +kernel) rfl
theorem ms_7 : Cond.selects "SafeDesk" ⟨"SafeDesk", "doWithValue", "(II)I"⟩ ⟨"SafeDesk", "doWithValue", "(II)I"⟩ ∈ gd_tbl := gd_in 7 (by decide +kernel) rfl
theorem ms_8 : Cond.selects "SafeDesk" ⟨"SafeDesk", "doWithRooms", "(III)I"⟩ ⟨"SafeDesk", "doWithRooms", "(III)I"⟩ ∈ gd_tbl := gd_in 8 (by decide +kernel) rfl
theorem ms_9 : Cond.selects "SafeDesk" ⟨"SafeDesk", "setRoom", "(ILSafeDesk$Safe;)V"⟩ ⟨"SafeDesk", "setRoom", "(ILSafeDesk$Safe;)V"⟩ ∈ gd_tbl := gd_in 9 (by decide +kernel) rfl
theorem ms_10 : Cond.selects "SafeDesk" ⟨"SafeDesk", "seek", "(II)I"⟩ ⟨"SafeDesk", "seek", "(II)I"⟩ ∈ gd_tbl := gd_in 10 (by decide +kernel) rfl
theorem ms_11 : Cond.selects "SafeDesk" ⟨"SafeDesk", "doWithSafe", "(ILSafeDesk$Safe;I)I"⟩ ⟨"SafeDesk", "doWithSafe", "(ILSafeDesk$Safe;I)I"⟩ ∈ gd_tbl := gd_in 11 (by decide +kernel) rfl
theorem ms_12 : Cond.selects "SafeDesk" ⟨"SafeDesk", "roomsWithSafe", "()I"⟩ ⟨"SafeDesk", "roomsWithSafe", "()I"⟩ ∈ gd_tbl := gd_in 12 (by decide +kernel) rfl
theorem ms_13 : Cond.selects "SafeDeskModel" ⟨"SafeDeskModel", "beginPlan", "(I)V"⟩ ⟨"SafeDeskModel", "beginPlan", "(I)V"⟩ ∈ gd_tbl := gd_in 13 (by decide +kernel) rfl
theorem ms_14 : Cond.selects "SafeDeskModel" ⟨"SafeDeskModel", "push", "(IIIII)V"⟩ ⟨"SafeDeskModel", "push", "(IIIII)V"⟩ ∈ gd_tbl := gd_in 14 (by decide +kernel) rfl
theorem ms_15 : Cond.selects "SafeDeskModel" ⟨"SafeDeskModel", "pop", "()V"⟩ ⟨"SafeDeskModel", "pop", "()V"⟩ ∈ gd_tbl := gd_in 15 (by decide +kernel) rfl
theorem ms_16 : Cond.selects "SafeDeskModel" ⟨"SafeDeskModel", "leave", "(I)V"⟩ ⟨"SafeDeskModel", "leave", "(I)V"⟩ ∈ gd_tbl := gd_in 16 (by decide +kernel) rfl
theorem ms_17 : Cond.selects "SafeDeskModel" ⟨"SafeDeskModel", "fails", "(I)V"⟩ ⟨"SafeDeskModel", "fails", "(I)V"⟩ ∈ gd_tbl := gd_in 17 (by decide +kernel) rfl
theorem ms_18 : Cond.selects "SafeDeskModel" ⟨"SafeDeskModel", "does", "(III)V"⟩ ⟨"SafeDeskModel", "does", "(III)V"⟩ ∈ gd_tbl := gd_in 18 (by decide +kernel) rfl
theorem ms_19 : Cond.selects "SafeDeskModel" ⟨"SafeDeskModel", "within", "(III)V"⟩ ⟨"SafeDeskModel", "within", "(III)V"⟩ ∈ gd_tbl := gd_in 19 (by decide +kernel) rfl
theorem ms_20 : Cond.selects "SafeDeskModel" ⟨"SafeDeskModel", "back", "(I)V"⟩ ⟨"SafeDeskModel", "back", "(I)V"⟩ ∈ gd_tbl := gd_in 20 (by decide +kernel) rfl
theorem ms_21 : Cond.selects "SafeDeskModel" ⟨"SafeDeskModel", "seek", "(II)V"⟩ ⟨"SafeDeskModel", "seek", "(II)V"⟩ ∈ gd_tbl := gd_in 21 (by decide +kernel) rfl
theorem ms_22 : Cond.selects "SafeDeskModel" ⟨"SafeDeskModel", "enter", "(I)V"⟩ ⟨"SafeDeskModel", "enter", "(I)V"⟩ ∈ gd_tbl := gd_in 22 (by decide +kernel) rfl
theorem ms_23 : Cond.selects "SafeDeskModel" ⟨"SafeDeskModel", "withSafe", "(III)V"⟩ ⟨"SafeDeskModel", "withSafe", "(III)V"⟩ ∈ gd_tbl := gd_in 23 (by decide +kernel) rfl
theorem ms_24 : Cond.selects "SafeDeskModel" ⟨"SafeDeskModel", "put", "(II)Z"⟩ ⟨"SafeDeskModel", "put", "(II)Z"⟩ ∈ gd_tbl := gd_in 24 (by decide +kernel) rfl
theorem ms_25 : Cond.selects "SafeDeskModel" ⟨"SafeDeskModel", "putPlain", "(II)Z"⟩ ⟨"SafeDeskModel", "putPlain", "(II)Z"⟩ ∈ gd_tbl := gd_in 25 (by decide +kernel) rfl
theorem ms_26 : Cond.selects "SafeDeskModel" ⟨"SafeDeskModel", "putTimed", "(II)Z"⟩ ⟨"SafeDeskModel", "putTimed", "(II)Z"⟩ ∈ gd_tbl := gd_in 26 (by decide +kernel) rfl
theorem ms_27 : Cond.selects "SafeDeskModel" ⟨"SafeDeskModel", "worth", "(I)I"⟩ ⟨"SafeDeskModel", "worth", "(I)I"⟩ ∈ gd_tbl := gd_in 27 (by decide +kernel) rfl
theorem ms_28 : Cond.selects "SafeDeskModel" ⟨"SafeDeskModel", "give", "(III)I"⟩ ⟨"SafeDeskModel", "give", "(III)I"⟩ ∈ gd_tbl := gd_in 28 (by decide +kernel) rfl
end
section
/-- what is fixed of the classes: the worlds' class numbers, and the three array classes -/
abbrev Gy : Type := va_G × ClassId × ClassId × ClassId
abbrev tyL (g : Gy) : List (ClassId × FieldType) := [(g.2.1, .int), (g.2.2.1, .object "SafeDesk$Safe"), (g.2.2.2, .object "SafeDesk$Plan")]
abbrev clL : List vw_C := [(RX0, TX0, 4), (RX1, TX1, 6), (RX2, TX2, 6), (RX3, TX3, 6), (RX4, TX4, 9), (RX5, TX5, 26)]
def NX (U : State) : Prop := va_AO "SafeDesk$Safe" U ∧ va_AO "SafeDesk$Plan" U ∧ va_Nw (.methodLinkNest RX4 25 yX0_init RX4) U ∧ va_Nw (.castable RX2 RX1) U ∧ va_Nw (.castable RX3 RX1) U
def Wk (g : Gy) (U : State) : Prop := va_K g.1 clL (tyL g) U ∧ NX U
theorem Wk.moved {g : Gy} {s U : State} (hW : s.WarmedH U.vm) (h : Wk g s) : Wk g U := ⟨va_K.moved hW.alike h.1, va_AO.moved hW.alike h.2.1, va_AO.moved hW.alike h.2.2.1, va_Nw.warmM hW h.2.2.2.1, va_Nw.warmC hW h.2.2.2.2.1, va_Nw.warmC hW h.2.2.2.2.2⟩
theorem Wk.same {g : Gy} {u U : State} (hv : u.vm = U.vm) (h : Wk g u) : Wk g U := ⟨va_K.moved (by rw [← hv]; exact Vm.Alike.refl _) h.1, va_AO.moved (by rw [← hv]; exact Vm.Alike.refl _) h.2.1, va_AO.moved (by rw [← hv]; exact Vm.Alike.refl _) h.2.2.1, va_Nw.same rfl hv h.2.2.2.1, va_Nw.same rfl hv h.2.2.2.2.1, va_Nw.same rfl hv h.2.2.2.2.2⟩
/-- what is fixed while a method's body runs -/
abbrev Cx := Program × Launch × Env × Room × State × MethodId × Array Value × List Frame × Method × Code × Gy × (Nat → Prop) × (State → Prop) × Nat
abbrev xP (x : Cx) : Program := x.1
abbrev xL (x : Cx) : Launch := x.2.1
abbrev xE (x : Cx) : Env := x.2.2.1
abbrev xR (x : Cx) : Room := x.2.2.2.1
abbrev xS (x : Cx) : State := x.2.2.2.2.1
abbrev xM (x : Cx) : MethodId := x.2.2.2.2.2.1
abbrev xU (x : Cx) : Array Value := x.2.2.2.2.2.2.1
abbrev xB (x : Cx) : List Frame := x.2.2.2.2.2.2.2.1
abbrev xT (x : Cx) : Method := x.2.2.2.2.2.2.2.2.1
abbrev xC (x : Cx) : Code := x.2.2.2.2.2.2.2.2.2.1
abbrev xG (x : Cx) : Gy := x.2.2.2.2.2.2.2.2.2.2.1
abbrev xA (x : Cx) : Nat → Prop := x.2.2.2.2.2.2.2.2.2.2.2.1
abbrev xQ (x : Cx) : State → Prop := x.2.2.2.2.2.2.2.2.2.2.2.2.1
abbrev xN (x : Cx) : Nat := x.2.2.2.2.2.2.2.2.2.2.2.2.2
/-- from every heap that holds the world ws, with locals lv and operands st, the machine at pc comes to its end -/
def J (x : Cx) (cells slots : Nat) (ws : va_W) (pc : Nat) (lv : List (Nat × Value)) (st : List Value) : Prop :=
  ∀ (H : Heap) (locs : List Loc) (ls : Array Slot), va_P (xG x).1 clL ws H → va_D (xA x) ws → va_S (xA x) (xS x).heap H locs → lv_has ls (xN x) lv →
    W (xP x) (xL x) (xE x) (xR x) (xS x) (xM x) (xU x) (xB x) (xT x) (xC x) H locs cells slots (xQ x) (F0 (xM x) pc ls st)
def Ok (x : Cx) (cc : ByteArray) (own : String) (ret : Option FieldType) : Prop :=
  (xP x).tables.exec = Jvm.exec ∧ (xC x).code = cc ∧ (xT x).sig.returnType = ret ∧ (xC x).maxLocals = xN x ∧ (xS x).vm.findClass own = some (xM x).cls ∧ (∀ w ∈ gd_tbl, w.before (xU x) (xS x) = true) ∧ Wk (xG x) (xS x) ∧ (xT x).locks = false ∧ (∀ q, (xS x).heap.size ≤ q → xA x q)
theorem Ok.w {x : Cx} {cc : ByteArray} {own : String} {ret : Option FieldType} (h : Ok x cc own ret) {w : Cond} (hw : w ∈ gd_tbl) : w.before (xU x) (xS x) = true := h.2.2.2.2.2.1 w hw
theorem Ok.K {x : Cx} {cc : ByteArray} {own : String} {ret : Option FieldType} (h : Ok x cc own ret) : va_K (xG x).1 clL (tyL (xG x)) (xS x) := h.2.2.2.2.2.2.1.1
/-- the method's end: what a return owes -/
def Rt (x : Cx) (mc ms : Nat) (Po : Option Value → va_W → Prop) : Prop :=
  ∃ Qc : Array Value → State → Outcome → State → Prop, xQ x = MQ (xB x) Qc (xU x) (xS x) mc ms (xA x) ∧
    ∀ (r : Option Value) (ws : va_W) (H : Heap) (locs : List Loc) (t : State), Po r ws → va_P (xG x).1 clL ws H → va_D (xA x) ws → va_S (xA x) (xS x).heap H locs → t.heap = H → Qc (xU x) (xS x) (.returned r) t
section JL
variable {x : Cx} {cc : ByteArray} {own : String} {ret : Option FieldType} {cells slots pc : Nat} {ws : va_W} {lv : List (Nat × Value)} {st : List Value}
theorem J_iconst (h : Ok x cc own ret) {n : Int} (v : Int32) (hv : Int32.ofInt n = v) (d : decode cc pc = .ok (.iconst n, 1)) (k : J x cells slots ws (pc + 1) lv (.int v :: st)) : J x cells slots ws pc lv (st) := fun H locs ls hP hD hS hl => lv_iconst h.1 h.2.1 d hv (k H locs ls hP hD hS hl)
theorem J_bipush (h : Ok x cc own ret) {n : Int} (v : Int32) (hv : (Int8.ofInt n).toInt32 = v) (d : decode cc pc = .ok (.bipush n, 2)) (k : J x cells slots ws (pc + 2) lv (.int v :: st)) : J x cells slots ws pc lv (st) := fun H locs ls hP hD hS hl => lv_bipush h.1 h.2.1 d hv (k H locs ls hP hD hS hl)
theorem J_sipush (h : Ok x cc own ret) {n : Int} (v : Int32) (hv : (Int16.ofInt n).toInt32 = v) (d : decode cc pc = .ok (.sipush n, 3)) (k : J x cells slots ws (pc + 3) lv (.int v :: st)) : J x cells slots ws pc lv (st) := fun H locs ls hP hD hS hl => lv_sipush h.1 h.2.1 d hv (k H locs ls hP hD hS hl)
theorem J_lconst (h : Ok x cc own ret) {n : Fin 2} (v : Int64) (hv : Int64.ofNat (n : Nat) = v) (d : decode cc pc = .ok (.lconst n, 1)) (k : J x cells slots ws (pc + 1) lv (.long v :: st)) : J x cells slots ws pc lv (st) := fun H locs ls hP hD hS hl => lv_lconst h.1 h.2.1 d hv (k H locs ls hP hD hS hl)
theorem J_iload_n (h : Ok x cc own ret) {n : Fin 4} (k0 : Nat) {i : Nat} {v : Int32} (hi : (n : Nat) = i) (hk : lv[k0]? = some (i, .int v)) (d : decode cc pc = .ok (.iload_n n, 1)) (k : J x cells slots ws (pc + 1) lv (.int v :: st)) : J x cells slots ws pc lv (st) := fun H locs ls hP hD hS hl => lv_iload_n h.1 h.2.1 d hi (lv_at hl k0 hk) (k H locs ls hP hD hS hl)
theorem J_iload (h : Ok x cc own ret) (k0 : Nat) {i : Nat} {v : Int32} (hk : lv[k0]? = some (i, .int v)) (d : decode cc pc = .ok (.iload i, 2)) (k : J x cells slots ws (pc + 2) lv (.int v :: st)) : J x cells slots ws pc lv (st) := fun H locs ls hP hD hS hl => lv_iload h.1 h.2.1 d (lv_at hl k0 hk) (k H locs ls hP hD hS hl)
theorem J_lload_n (h : Ok x cc own ret) {n : Fin 4} (k0 : Nat) {i : Nat} {v : Int64} (hi : (n : Nat) = i) (hk : lv[k0]? = some (i, .long v)) (d : decode cc pc = .ok (.lload_n n, 1)) (k : J x cells slots ws (pc + 1) lv (.long v :: st)) : J x cells slots ws pc lv (st) := fun H locs ls hP hD hS hl => lv_lload_n h.1 h.2.1 d hi (lv_at hl k0 hk) (k H locs ls hP hD hS hl)
theorem J_aload_n (h : Ok x cc own ret) {n : Fin 4} (k0 : Nat) {i : Nat} {v : Nat} (hi : (n : Nat) = i) (hk : lv[k0]? = some (i, .ref v)) (d : decode cc pc = .ok (.aload_n n, 1)) (k : J x cells slots ws (pc + 1) lv (.ref v :: st)) : J x cells slots ws pc lv (st) := fun H locs ls hP hD hS hl => lv_aload_n h.1 h.2.1 d hi (lv_at hl k0 hk) (k H locs ls hP hD hS hl)
theorem J_aload (h : Ok x cc own ret) (k0 : Nat) {i : Nat} {v : Nat} (hk : lv[k0]? = some (i, .ref v)) (d : decode cc pc = .ok (.aload i, 2)) (k : J x cells slots ws (pc + 2) lv (.ref v :: st)) : J x cells slots ws pc lv (st) := fun H locs ls hP hD hS hl => lv_aload h.1 h.2.1 d (lv_at hl k0 hk) (k H locs ls hP hD hS hl)
theorem J_aload_nq (h : Ok x cc own ret) {n : Fin 4} (k0 : Nat) {i : Nat} {o : Option Nat} (hi : (n : Nat) = i) (hk : lv[k0]? = some (i, va_rf o)) (d : decode cc pc = .ok (.aload_n n, 1)) (k : J x cells slots ws (pc + 1) lv (va_rf o :: st)) : J x cells slots ws pc lv st := by
  intro H locs ls hP hD hS hl
  cases o with
  | none => exact lv_aload_nN h.1 h.2.1 d hi (lv_at hl k0 hk) (k H locs ls hP hD hS hl)
  | some v => exact lv_aload_n h.1 h.2.1 d hi (lv_at hl k0 hk) (k H locs ls hP hD hS hl)
theorem J_aloadq (h : Ok x cc own ret) (k0 : Nat) {i : Nat} {o : Option Nat} (hk : lv[k0]? = some (i, va_rf o)) (d : decode cc pc = .ok (.aload i, 2)) (k : J x cells slots ws (pc + 2) lv (va_rf o :: st)) : J x cells slots ws pc lv st := by
  intro H locs ls hP hD hS hl
  cases o with
  | none => exact lv_aloadN h.1 h.2.1 d (lv_at hl k0 hk) (k H locs ls hP hD hS hl)
  | some v => exact lv_aload h.1 h.2.1 d (lv_at hl k0 hk) (k H locs ls hP hD hS hl)
theorem J_istore_n (h : Ok x cc own ret) {n : Fin 4} {i : Nat} {v : Int32} (lv' : List (Nat × Value)) (hi : (n : Nat) = i) (hn : i < xN x) (hl' : (i, Value.int v) :: lv.filter (fun q => !(q.1 == i) && !(q.1 + 1 == i && q.2.category == 2)) = lv') (d : decode cc pc = .ok (.istore_n n, 1)) (k : J x cells slots ws (pc + 1) lv' st) : J x cells slots ws pc lv (.int v :: st) := fun H locs ls hP hD hS hl => lv_istore_n h.1 h.2.1 d hi hl hn hl' (fun ls' h' => k H locs ls' hP hD hS h')
theorem J_istore (h : Ok x cc own ret) {i : Nat} {v : Int32} (lv' : List (Nat × Value)) (hn : i < xN x) (hl' : (i, Value.int v) :: lv.filter (fun q => !(q.1 == i) && !(q.1 + 1 == i && q.2.category == 2)) = lv') (d : decode cc pc = .ok (.istore i, 2)) (k : J x cells slots ws (pc + 2) lv' st) : J x cells slots ws pc lv (.int v :: st) := fun H locs ls hP hD hS hl => lv_istore h.1 h.2.1 d hl hn hl' (fun ls' h' => k H locs ls' hP hD hS h')
theorem J_lstore_n (h : Ok x cc own ret) {n : Fin 4} {i : Nat} {v : Int64} (lv' : List (Nat × Value)) (hi : (n : Nat) = i) (hn : i + 1 < xN x) (hl' : (i, Value.long v) :: lv.filter (fun q => !(q.1 == i) && (!(q.1 == i + 1) && !(q.1 + 1 == i && q.2.category == 2))) = lv') (d : decode cc pc = .ok (.lstore_n n, 1)) (k : J x cells slots ws (pc + 1) lv' st) : J x cells slots ws pc lv (.long v :: st) := fun H locs ls hP hD hS hl => lv_lstore_n h.1 h.2.1 d hi hl hn hl' (fun ls' h' => k H locs ls' hP hD hS h')
theorem J_astore_nq (h : Ok x cc own ret) {n : Fin 4} {i : Nat} {o : Option Nat} (lv' : List (Nat × Value)) (hi : (n : Nat) = i) (hn : i < xN x) (hl' : (i, va_rf o) :: lv.filter (fun q => !(q.1 == i) && !(q.1 + 1 == i && q.2.category == 2)) = lv') (d : decode cc pc = .ok (.astore_n n, 1)) (k : J x cells slots ws (pc + 1) lv' st) : J x cells slots ws pc lv (va_rf o :: st) := by
  intro H locs ls hP hD hS hl
  cases o with
  | none => exact lv_astore_nN h.1 h.2.1 d hi hl hn hl' (fun ls' h' => k H locs ls' hP hD hS h')
  | some v => exact lv_astore_n h.1 h.2.1 d hi hl hn hl' (fun ls' h' => k H locs ls' hP hD hS h')
theorem J_astoreq (h : Ok x cc own ret) {i : Nat} {o : Option Nat} (lv' : List (Nat × Value)) (hn : i < xN x) (hl' : (i, va_rf o) :: lv.filter (fun q => !(q.1 == i) && !(q.1 + 1 == i && q.2.category == 2)) = lv') (d : decode cc pc = .ok (.astore i, 2)) (k : J x cells slots ws (pc + 2) lv' st) : J x cells slots ws pc lv (va_rf o :: st) := by
  intro H locs ls hP hD hS hl
  cases o with
  | none => exact lv_astoreN h.1 h.2.1 d hl hn hl' (fun ls' h' => k H locs ls' hP hD hS h')
  | some v => exact lv_astore h.1 h.2.1 d hl hn hl' (fun ls' h' => k H locs ls' hP hD hS h')
theorem J_astore_n (h : Ok x cc own ret) {n : Fin 4} {i : Nat} {v : Nat} (lv' : List (Nat × Value)) (hi : (n : Nat) = i) (hn : i < xN x) (hl' : (i, Value.ref v) :: lv.filter (fun q => !(q.1 == i) && !(q.1 + 1 == i && q.2.category == 2)) = lv') (d : decode cc pc = .ok (.astore_n n, 1)) (k : J x cells slots ws (pc + 1) lv' st) : J x cells slots ws pc lv (.ref v :: st) := fun H locs ls hP hD hS hl => lv_astore_n h.1 h.2.1 d hi hl hn hl' (fun ls' h' => k H locs ls' hP hD hS h')
theorem J_astore (h : Ok x cc own ret) {i : Nat} {v : Nat} (lv' : List (Nat × Value)) (hn : i < xN x) (hl' : (i, Value.ref v) :: lv.filter (fun q => !(q.1 == i) && !(q.1 + 1 == i && q.2.category == 2)) = lv') (d : decode cc pc = .ok (.astore i, 2)) (k : J x cells slots ws (pc + 2) lv' st) : J x cells slots ws pc lv (.ref v :: st) := fun H locs ls hP hD hS hl => lv_astore h.1 h.2.1 d hl hn hl' (fun ls' h' => k H locs ls' hP hD hS h')
theorem J_iinc (h : Ok x cc own ret) (k0 : Nat) {i : Nat} {n : Int} {v0 : Int32} (v : Int32) (lv' : List (Nat × Value)) (hk : lv[k0]? = some (i, .int v0)) (hv : v0 + Int32.ofInt n = v) (hn : i < xN x) (hl' : (i, Value.int v) :: lv.filter (fun q => !(q.1 == i) && !(q.1 + 1 == i && q.2.category == 2)) = lv') (d : decode cc pc = .ok (.iinc i n, 3)) (k : J x cells slots ws (pc + 3) lv' st) : J x cells slots ws pc lv st := fun H locs ls hP hD hS hl => lv_iinc h.1 h.2.1 d hl hk hv hn hl' (fun ls' h' => k H locs ls' hP hD hS h')
theorem J_iadd (h : Ok x cc own ret) {a b : Int32} (d : decode cc pc = .ok (.iadd, 1)) (k : J x cells slots ws (pc + 1) lv (.int (a + b) :: st)) : J x cells slots ws pc lv (.int b :: .int a :: st) := fun H locs ls hP hD hS hl => lv_iadd h.1 h.2.1 d (k H locs ls hP hD hS hl)
theorem J_isub (h : Ok x cc own ret) {a b : Int32} (d : decode cc pc = .ok (.isub, 1)) (k : J x cells slots ws (pc + 1) lv (.int (a - b) :: st)) : J x cells slots ws pc lv (.int b :: .int a :: st) := fun H locs ls hP hD hS hl => lv_isub h.1 h.2.1 d (k H locs ls hP hD hS hl)
theorem J_imul (h : Ok x cc own ret) {a b : Int32} (d : decode cc pc = .ok (.imul, 1)) (k : J x cells slots ws (pc + 1) lv (.int (a * b) :: st)) : J x cells slots ws pc lv (.int b :: .int a :: st) := fun H locs ls hP hD hS hl => lv_imul h.1 h.2.1 d (k H locs ls hP hD hS hl)
theorem J_iand (h : Ok x cc own ret) {a b : Int32} (d : decode cc pc = .ok (.iand, 1)) (k : J x cells slots ws (pc + 1) lv (.int (a &&& b) :: st)) : J x cells slots ws pc lv (.int b :: .int a :: st) := fun H locs ls hP hD hS hl => lv_iand h.1 h.2.1 d (k H locs ls hP hD hS hl)
theorem J_ixor (h : Ok x cc own ret) {a b : Int32} (d : decode cc pc = .ok (.ixor, 1)) (k : J x cells slots ws (pc + 1) lv (.int (a ^^^ b) :: st)) : J x cells slots ws pc lv (.int b :: .int a :: st) := fun H locs ls hP hD hS hl => lv_ixor h.1 h.2.1 d (k H locs ls hP hD hS hl)
theorem J_idiv (h : Ok x cc own ret) {a b : Int32} (hne : ¬ b = 0) (d : decode cc pc = .ok (.idiv, 1)) (k : J x cells slots ws (pc + 1) lv (.int (a / b) :: st)) : J x cells slots ws pc lv (.int b :: .int a :: st) := fun H locs ls hP hD hS hl => lv_idiv h.1 h.2.1 d hne (k H locs ls hP hD hS hl)
theorem J_irem (h : Ok x cc own ret) {a b : Int32} (hne : ¬ b = 0) (d : decode cc pc = .ok (.irem, 1)) (k : J x cells slots ws (pc + 1) lv (.int (a - a / b * b) :: st)) : J x cells slots ws pc lv (.int b :: .int a :: st) := fun H locs ls hP hD hS hl => lv_irem h.1 h.2.1 d hne (k H locs ls hP hD hS hl)
theorem J_ineg (h : Ok x cc own ret) {a : Int32} (d : decode cc pc = .ok (.ineg, 1)) (k : J x cells slots ws (pc + 1) lv (.int (-a) :: st)) : J x cells slots ws pc lv (.int a :: st) := fun H locs ls hP hD hS hl => lv_ineg h.1 h.2.1 d (k H locs ls hP hD hS hl)
theorem J_ladd (h : Ok x cc own ret) {a b : Int64} (d : decode cc pc = .ok (.ladd, 1)) (k : J x cells slots ws (pc + 1) lv (.long (a + b) :: st)) : J x cells slots ws pc lv (.long b :: .long a :: st) := fun H locs ls hP hD hS hl => lv_ladd h.1 h.2.1 d (k H locs ls hP hD hS hl)
theorem J_i2l (h : Ok x cc own ret) {a : Int32} (d : decode cc pc = .ok (.i2l, 1)) (k : J x cells slots ws (pc + 1) lv (.long a.toInt64 :: st)) : J x cells slots ws pc lv (.int a :: st) := fun H locs ls hP hD hS hl => lv_i2l h.1 h.2.1 d rfl (k H locs ls hP hD hS hl)
theorem J_l2i (h : Ok x cc own ret) {a : Int64} (d : decode cc pc = .ok (.l2i, 1)) (k : J x cells slots ws (pc + 1) lv (.int a.toInt32 :: st)) : J x cells slots ws pc lv (.long a :: st) := fun H locs ls hP hD hS hl => lv_l2i h.1 h.2.1 d rfl (k H locs ls hP hD hS hl)
theorem J_lcmp (h : Ok x cc own ret) {a b : Int64} (d : decode cc pc = .ok (.lcmp, 1)) (k : J x cells slots ws (pc + 1) lv (.int (lg_cmp a b) :: st)) : J x cells slots ws pc lv (.long b :: .long a :: st) := fun H locs ls hP hD hS hl => W.lcmp h.1 h.2.1 d (k H locs ls hP hD hS hl)
theorem J_dup (h : Ok x cc own ret) {v : Value} (hv : v.category = 1) (d : decode cc pc = .ok (.dup, 1)) (k : J x cells slots ws (pc + 1) lv (v :: v :: st)) : J x cells slots ws pc lv (v :: st) := fun H locs ls hP hD hS hl => lv_dup h.1 h.2.1 d hv (k H locs ls hP hD hS hl)
theorem J_pop (h : Ok x cc own ret) {v : Value} (hv : v.category = 1) (d : decode cc pc = .ok (.pop, 1)) (k : J x cells slots ws (pc + 1) lv (st)) : J x cells slots ws pc lv (v :: st) := fun H locs ls hP hD hS hl => lv_pop h.1 h.2.1 d hv (k H locs ls hP hD hS hl)
theorem J_dup2 (h : Ok x cc own ret) {v u : Value} (hv : v.category = 1) (hu : u.category = 1) (d : decode cc pc = .ok (.dup2, 1)) (k : J x cells slots ws (pc + 1) lv (v :: u :: v :: u :: st)) : J x cells slots ws pc lv (v :: u :: st) := fun H locs ls hP hD hS hl => lv_dup2_11 h.1 h.2.1 d hv hu (k H locs ls hP hD hS hl)
theorem J_null (h : Ok x cc own ret)  (d : decode cc pc = .ok (.aconst_null, 1)) (k : J x cells slots ws (pc + 1) lv (va_rf none :: st)) : J x cells slots ws pc lv (st) := fun H locs ls hP hD hS hl => lv_null h.1 h.2.1 d (k H locs ls hP hD hS hl)
theorem J_goto (h : Ok x cc own ret) {off : Int} (tgt : Nat) (ht : (pc : Int) + off = (tgt : Int)) (d : decode cc pc = .ok (.goto off, 3)) (k : J x cells slots ws tgt lv st) : J x cells slots ws pc lv st := fun H locs ls hP hD hS hl => lv_goto h.1 h.2.1 d ht (k H locs ls hP hD hS hl)
theorem J_if_eq (h : Ok x cc own ret) {off : Int} {a : Int32} (tgt : Nat) (ht : (pc : Int) + off = (tgt : Int)) (d : decode cc pc = .ok (.ifCond .eq off, 3)) (kt : a = 0 → J x cells slots ws tgt lv st) (kf : ¬ a = 0 → J x cells slots ws (pc + 3) lv st) : J x cells slots ws pc lv (.int a :: st) := fun H locs ls hP hD hS hl => lv_if_eq h.1 h.2.1 d ht (fun c => kt c H locs ls hP hD hS hl) (fun c => kf c H locs ls hP hD hS hl)
theorem J_icmp_eq (h : Ok x cc own ret) {off : Int} {a b : Int32} (tgt : Nat) (ht : (pc : Int) + off = (tgt : Int)) (d : decode cc pc = .ok (.if_icmp .eq off, 3)) (kt : a = b → J x cells slots ws tgt lv st) (kf : ¬ a = b → J x cells slots ws (pc + 3) lv st) : J x cells slots ws pc lv (.int b :: .int a :: st) := fun H locs ls hP hD hS hl => lv_icmp_eq h.1 h.2.1 d ht (fun c => kt c H locs ls hP hD hS hl) (fun c => kf c H locs ls hP hD hS hl)
theorem J_if_ne (h : Ok x cc own ret) {off : Int} {a : Int32} (tgt : Nat) (ht : (pc : Int) + off = (tgt : Int)) (d : decode cc pc = .ok (.ifCond .ne off, 3)) (kt : ¬ a = 0 → J x cells slots ws tgt lv st) (kf : a = 0 → J x cells slots ws (pc + 3) lv st) : J x cells slots ws pc lv (.int a :: st) := fun H locs ls hP hD hS hl => lv_if_ne h.1 h.2.1 d ht (fun c => kt c H locs ls hP hD hS hl) (fun c => kf c H locs ls hP hD hS hl)
theorem J_icmp_ne (h : Ok x cc own ret) {off : Int} {a b : Int32} (tgt : Nat) (ht : (pc : Int) + off = (tgt : Int)) (d : decode cc pc = .ok (.if_icmp .ne off, 3)) (kt : ¬ a = b → J x cells slots ws tgt lv st) (kf : a = b → J x cells slots ws (pc + 3) lv st) : J x cells slots ws pc lv (.int b :: .int a :: st) := fun H locs ls hP hD hS hl => lv_icmp_ne h.1 h.2.1 d ht (fun c => kt c H locs ls hP hD hS hl) (fun c => kf c H locs ls hP hD hS hl)
theorem J_if_lt (h : Ok x cc own ret) {off : Int} {a : Int32} (tgt : Nat) (ht : (pc : Int) + off = (tgt : Int)) (d : decode cc pc = .ok (.ifCond .lt off, 3)) (kt : a < 0 → J x cells slots ws tgt lv st) (kf : ¬ a < 0 → J x cells slots ws (pc + 3) lv st) : J x cells slots ws pc lv (.int a :: st) := fun H locs ls hP hD hS hl => lv_if_lt h.1 h.2.1 d ht (fun c => kt c H locs ls hP hD hS hl) (fun c => kf c H locs ls hP hD hS hl)
theorem J_icmp_lt (h : Ok x cc own ret) {off : Int} {a b : Int32} (tgt : Nat) (ht : (pc : Int) + off = (tgt : Int)) (d : decode cc pc = .ok (.if_icmp .lt off, 3)) (kt : a < b → J x cells slots ws tgt lv st) (kf : ¬ a < b → J x cells slots ws (pc + 3) lv st) : J x cells slots ws pc lv (.int b :: .int a :: st) := fun H locs ls hP hD hS hl => lv_icmp_lt h.1 h.2.1 d ht (fun c => kt c H locs ls hP hD hS hl) (fun c => kf c H locs ls hP hD hS hl)
theorem J_if_ge (h : Ok x cc own ret) {off : Int} {a : Int32} (tgt : Nat) (ht : (pc : Int) + off = (tgt : Int)) (d : decode cc pc = .ok (.ifCond .ge off, 3)) (kt : 0 ≤ a → J x cells slots ws tgt lv st) (kf : ¬ 0 ≤ a → J x cells slots ws (pc + 3) lv st) : J x cells slots ws pc lv (.int a :: st) := fun H locs ls hP hD hS hl => lv_if_ge h.1 h.2.1 d ht (fun c => kt c H locs ls hP hD hS hl) (fun c => kf c H locs ls hP hD hS hl)
theorem J_icmp_ge (h : Ok x cc own ret) {off : Int} {a b : Int32} (tgt : Nat) (ht : (pc : Int) + off = (tgt : Int)) (d : decode cc pc = .ok (.if_icmp .ge off, 3)) (kt : b ≤ a → J x cells slots ws tgt lv st) (kf : ¬ b ≤ a → J x cells slots ws (pc + 3) lv st) : J x cells slots ws pc lv (.int b :: .int a :: st) := fun H locs ls hP hD hS hl => lv_icmp_ge h.1 h.2.1 d ht (fun c => kt c H locs ls hP hD hS hl) (fun c => kf c H locs ls hP hD hS hl)
theorem J_if_gt (h : Ok x cc own ret) {off : Int} {a : Int32} (tgt : Nat) (ht : (pc : Int) + off = (tgt : Int)) (d : decode cc pc = .ok (.ifCond .gt off, 3)) (kt : 0 < a → J x cells slots ws tgt lv st) (kf : ¬ 0 < a → J x cells slots ws (pc + 3) lv st) : J x cells slots ws pc lv (.int a :: st) := fun H locs ls hP hD hS hl => lv_if_gt h.1 h.2.1 d ht (fun c => kt c H locs ls hP hD hS hl) (fun c => kf c H locs ls hP hD hS hl)
theorem J_icmp_gt (h : Ok x cc own ret) {off : Int} {a b : Int32} (tgt : Nat) (ht : (pc : Int) + off = (tgt : Int)) (d : decode cc pc = .ok (.if_icmp .gt off, 3)) (kt : b < a → J x cells slots ws tgt lv st) (kf : ¬ b < a → J x cells slots ws (pc + 3) lv st) : J x cells slots ws pc lv (.int b :: .int a :: st) := fun H locs ls hP hD hS hl => lv_icmp_gt h.1 h.2.1 d ht (fun c => kt c H locs ls hP hD hS hl) (fun c => kf c H locs ls hP hD hS hl)
theorem J_if_le (h : Ok x cc own ret) {off : Int} {a : Int32} (tgt : Nat) (ht : (pc : Int) + off = (tgt : Int)) (d : decode cc pc = .ok (.ifCond .le off, 3)) (kt : a ≤ 0 → J x cells slots ws tgt lv st) (kf : ¬ a ≤ 0 → J x cells slots ws (pc + 3) lv st) : J x cells slots ws pc lv (.int a :: st) := fun H locs ls hP hD hS hl => lv_if_le h.1 h.2.1 d ht (fun c => kt c H locs ls hP hD hS hl) (fun c => kf c H locs ls hP hD hS hl)
theorem J_icmp_le (h : Ok x cc own ret) {off : Int} {a b : Int32} (tgt : Nat) (ht : (pc : Int) + off = (tgt : Int)) (d : decode cc pc = .ok (.if_icmp .le off, 3)) (kt : a ≤ b → J x cells slots ws tgt lv st) (kf : ¬ a ≤ b → J x cells slots ws (pc + 3) lv st) : J x cells slots ws pc lv (.int b :: .int a :: st) := fun H locs ls hP hD hS hl => lv_icmp_le h.1 h.2.1 d ht (fun c => kt c H locs ls hP hD hS hl) (fun c => kf c H locs ls hP hD hS hl)
theorem J_ifnull (h : Ok x cc own ret) {off : Int} {o : Option Nat} (tgt : Nat) (ht : (pc : Int) + off = (tgt : Int)) (d : decode cc pc = .ok (.ifnull off, 3)) (kt : o = none → J x cells slots ws tgt lv st) (kf : ¬ o = none → J x cells slots ws (pc + 3) lv st) : J x cells slots ws pc lv (va_rf o :: st) := by
  intro H locs ls hP hD hS hl
  cases o with
  | none => exact lv_ifnullN h.1 h.2.1 d ht (kt rfl H locs ls hP hD hS hl)
  | some v => exact lv_ifnull h.1 h.2.1 d (kf (fun q => by cases q) H locs ls hP hD hS hl)
theorem J_ifnonnull (h : Ok x cc own ret) {off : Int} {o : Option Nat} (tgt : Nat) (ht : (pc : Int) + off = (tgt : Int)) (d : decode cc pc = .ok (.ifnonnull off, 3)) (kt : ¬ o = none → J x cells slots ws tgt lv st) (kf : o = none → J x cells slots ws (pc + 3) lv st) : J x cells slots ws pc lv (va_rf o :: st) := by
  intro H locs ls hP hD hS hl
  cases o with
  | none => exact lv_ifnonnullN h.1 h.2.1 d (kf rfl H locs ls hP hD hS hl)
  | some v => exact lv_ifnonnull h.1 h.2.1 d ht (kt (fun q => by cases q) H locs ls hP hD hS hl)
theorem J_acmp_ne (h : Ok x cc own ret) {off : Int} {o u : Option Nat} (tgt : Nat) (ht : (pc : Int) + off = (tgt : Int)) (d : decode cc pc = .ok (.if_acmp .ne off, 3)) (kt : ¬ o = u → J x cells slots ws tgt lv st) (kf : o = u → J x cells slots ws (pc + 3) lv st) : J x cells slots ws pc lv (va_rf u :: va_rf o :: st) := fun H locs ls hP hD hS hl => lv_acmp_ne h.1 h.2.1 d ht (fun c => kt c H locs ls hP hD hS hl) (fun c => kf c H locs ls hP hD hS hl)
theorem J_ldc (h : Ok x cc own ret) {i : Nat} {v : Int32} (hw : Cond.constant own i v ∈ gd_tbl) (d : decode cc pc = .ok (.ldc i, 2)) (k : J x cells slots ws (pc + 2) lv (.int v :: st)) : J x cells slots ws pc lv st := fun H locs ls hP hD hS hl => lv_ldc h.1 h.2.1 h.2.2.2.2.1 (h.w hw) d (k H locs ls hP hD hS hl)
theorem J_ldc2 (h : Ok x cc own ret) {i : Nat} {v : Int64} (hw : Cond.constantLong own i v ∈ gd_tbl) (d : decode cc pc = .ok (.ldc2_w i, 3)) (k : J x cells slots ws (pc + 3) lv (.long v :: st)) : J x cells slots ws pc lv st := fun H locs ls hP hD hS hl => lv_ldc2 h.1 h.2.1 h.2.2.2.2.1 (h.w hw) d (k H locs ls hP hD hS hl)
theorem J_tabIn (h : Ok x cc own ret) {dflt lo hi off : Int} {offs : Array Int} {len : Nat} {a : Int32} (b : Int32) (tgt : Nat) (c : a = b) (h1 : ¬ b.toInt < lo) (h2 : ¬ hi < b.toInt) (ho : offs[(b.toInt - lo).toNat]? = some off) (ht : (pc : Int) + off = (tgt : Int)) (d : decode cc pc = .ok (.tableswitch dflt lo hi offs, len)) (k : J x cells slots ws tgt lv st) : J x cells slots ws pc lv (.int a :: st) := by
  subst c
  exact fun H locs ls hP hD hS hl => lv_tableIn h.1 h.2.1 d h1 h2 ho ht (k H locs ls hP hD hS hl)
theorem J_tabOut (h : Ok x cc own ret) {dflt lo hi : Int} {offs : Array Int} {len : Nat} {a : Int32} (tgt : Nat) (hc : a.toInt < lo ∨ hi < a.toInt) (ht : (pc : Int) + dflt = (tgt : Int)) (d : decode cc pc = .ok (.tableswitch dflt lo hi offs, len)) (k : J x cells slots ws tgt lv st) : J x cells slots ws pc lv (.int a :: st) := fun H locs ls hP hD hS hl => lv_tableOut h.1 h.2.1 d hc ht (k H locs ls hP hD hS hl)
theorem J_lookup (h : Ok x cc own ret) {dflt off : Int} {ps : Array (Int × Int)} {len : Nat} {a : Int32} (tgt : Nat) (hp : (ps.toList.zip (ps.toList.drop 1)).all (fun (a, next) => a.1 < next.1) = true) (ho : Op.lookupswitch.offset ps.toList dflt a.toInt = off) (ht : (pc : Int) + off = (tgt : Int)) (d : decode cc pc = .ok (.lookupswitch dflt ps, len)) (k : J x cells slots ws tgt lv st) : J x cells slots ws pc lv (.int a :: st) := fun H locs ls hP hD hS hl => lv_lookup h.1 h.2.1 d hp ho ht (k H locs ls hP hD hS hl)
theorem J_sub (lv' : List (Nat × Value)) (ks : List Nat) (hp : lv_pick lv ks = lv') (k : J x cells slots ws pc lv' st) : J x cells slots ws pc lv st := fun H locs ls hP hD hS hl => k H locs ls hP hD hS (lv_sub hl ks hp)
theorem J_widen {c2 s2 : Nat} (h1 : cells ≤ c2) (h2 : slots ≤ s2) (k : J x c2 s2 ws pc lv st) : J x cells slots ws pc lv st := fun H locs ls hP hD hS hl => W.widen h1 h2 (k H locs ls hP hD hS hl)
theorem J_eqw {ws2 : va_W} (e : ws = ws2) (k : J x cells slots ws2 pc lv st) : J x cells slots ws pc lv st := e ▸ k
-- returns
theorem J_iret {Po : Option Value → va_W → Prop} {v : Int32} (h : Ok x cc own (some .int)) (hr : Rt x cells slots Po) (hp : Po (some (.int v)) ws) (d : decode cc pc = .ok (.ireturn, 1)) : J x cells slots ws pc lv [.int v] := by
  intro H locs ls hP hD hS hl
  obtain ⟨Qc, e, hq⟩ := hr
  rw [e]
  exact W.iret h.1 h.2.1 h.2.2.1 (fun t ht hW => hq _ _ _ _ t hp hP hD hS ht) hS.2.2 d (hlocks := h.2.2.2.2.2.2.2.1)
theorem J_zret {Po : Option Value → va_W → Prop} {v : Int32} (h : Ok x cc own (some .boolean)) (hn : narrow .boolean (.int v) = .int v) (hr : Rt x cells slots Po) (hp : Po (some (.int v)) ws) (d : decode cc pc = .ok (.ireturn, 1)) : J x cells slots ws pc lv [.int v] := by
  intro H locs ls hP hD hS hl
  obtain ⟨Qc, e, hq⟩ := hr
  rw [e]
  exact W.zret h.1 h.2.1 h.2.2.1 hn (fun t ht hW => hq _ _ _ _ t hp hP hD hS ht) hS.2.2 d (hlocks := h.2.2.2.2.2.2.2.1)
theorem J_vret {Po : Option Value → va_W → Prop} (h : Ok x cc own none) (hr : Rt x cells slots Po) (hp : Po none ws) (d : decode cc pc = .ok (.return_, 1)) : J x cells slots ws pc lv [] := by
  intro H locs ls hP hD hS hl
  obtain ⟨Qc, e, hq⟩ := hr
  rw [e]
  exact W.vret h.1 h.2.1 h.2.2.1 (fun t ht hW => hq _ _ _ _ t hp hP hD hS ht) hS.2.2 d (hlocks := h.2.2.2.2.2.2.2.1)
theorem J_aret {Po : Option Value → va_W → Prop} {o : Option Nat} {C : String} (h : Ok x cc own (some (.object C))) (hr : Rt x cells slots Po) (hp : Po (some (va_rf o)) ws) (d : decode cc pc = .ok (.areturn, 1)) : J x cells slots ws pc lv [va_rf o] := by
  intro H locs ls hP hD hS hl
  obtain ⟨Qc, e, hq⟩ := hr
  rw [e]
  exact W.aret h.1 h.2.1 h.2.2.1 (Or.inl ⟨_, rfl⟩) (by cases o with | none => exact Or.inl rfl | some v => exact Or.inr ⟨v, rfl⟩) (fun t ht hW => hq _ _ _ _ t hp hP hD hS ht) hS.2.2 d (hlocks := h.2.2.2.2.2.2.2.1)
-- fields and arrays
theorem J_get (h : Ok x cc own ret) {a ci N index q0 kf : Nat} {C rf : String} {T : u_T} {fs : List Value} {v : Value} (hin : ∀ w ∈ u_ws C T N, w ∈ gd_tbl) (he : ws[q0]? = some (a, .inr (ci, fs))) (hc : clL[ci]? = some (C, T, N)) (hk : kf < N) (hlink : Cond.fieldLink own index rf (T kf).2.1 (T kf).2.2.1 ∈ gd_tbl) (hsame : ∀ y, (xS x).fieldFound? (T kf).1 (T kf).2.1 (T kf).2.2.1 = some y → (xS x).fieldFound? rf (T kf).2.1 (T kf).2.2.1 = some y) (hv : fs[kf]? = some v) (d : decode cc pc = .ok (.getfield index, 3)) (k : J x cells slots ws (pc + 3) lv (v :: st)) : J x cells slots ws pc lv (.ref a :: st) := fun H locs ls hP hD hS hl => va_get h.1 h.2.1 h.2.2.2.2.2.1 hin h.2.2.2.2.1 h.K hP q0 he hc kf hk (h.w hlink) hsame hv d (k H locs ls hP hD hS hl)
theorem J_put (h : Ok x cc own ret) {a ci N index q0 kf : Nat} {C rf : String} {T : u_T} {ty0 : Nat → FieldType} {ty : FieldType} {fs : List Value} {v : Value} (ws' : va_W) (hin : ∀ w ∈ u_ws C T N, w ∈ gd_tbl) (hty : ∀ k, k < N → parseFieldDescriptor (T k).2.2.1 = some (ty0 k)) (hnm : ∀ a, a < N → ∀ b, b < N → a ≠ b → (T a).2.1 ≠ (T b).2.1) (he : ws[q0]? = some (a, .inr (ci, fs))) (hc : clL[ci]? = some (C, T, N)) (hk : kf < N) (hlink : Cond.fieldLink own index rf (T kf).2.1 (T kf).2.2.1 ∈ gd_tbl) (hsame : ∀ y, (xS x).fieldFound? (T kf).1 (T kf).2.1 (T kf).2.2.1 = some y → (xS x).fieldFound? rf (T kf).2.1 (T kf).2.2.1 = some y) (hfin : (T kf).2.2.2 = false) (hd : parseFieldDescriptor (T kf).2.2.1 = some ty) (hn : narrow ty v = v) (hfit : fits ty v = true) (hl0 : kf < fs.length) (hw' : ws.set q0 (a, .inr (ci, fs.set kf v)) = ws') (d : decode cc pc = .ok (.putfield index, 3)) (k : J x cells slots ws' (pc + 3) lv st) : J x cells slots ws pc lv (v :: .ref a :: st) := by
  subst hw'
  exact fun H locs ls hP hD hS hl => va_put h.1 h.2.1 h.2.2.2.2.2.1 hin ty0 hty hnm h.2.2.2.2.1 h.K hP hD hS q0 he hc kf hk (h.w hlink) hsame hfin hd hn hfit hl0 d (fun H1 l1 hP1 hD1 hS1 => k H1 l1 ls hP1 hD1 hS1 hl)
theorem J_putF (h : Ok x cc own ret) {a ci N index q0 kf : Nat} {C rf : String} {T : u_T} {ty0 : Nat → FieldType} {ty : FieldType} {fs : List Value} {v : Value} (ws' : va_W) (hin : ∀ w ∈ u_ws C T N, w ∈ gd_tbl) (hty : ∀ k, k < N → parseFieldDescriptor (T k).2.2.1 = some (ty0 k)) (hnm : ∀ a, a < N → ∀ b, b < N → a ≠ b → (T a).2.1 ≠ (T b).2.1) (he : ws[q0]? = some (a, .inr (ci, fs))) (hc : clL[ci]? = some (C, T, N)) (hk : kf < N) (hlink : Cond.fieldLink own index rf (T kf).2.1 (T kf).2.2.1 ∈ gd_tbl) (hsame : ∀ y, (xS x).fieldFound? (T kf).1 (T kf).2.1 (T kf).2.2.1 = some y → (xS x).fieldFound? rf (T kf).2.1 (T kf).2.2.1 = some y) (hfin : (T kf).2.2.2 = true) (hin2 : (xT x).name = "<init>") (hdecl : (T kf).1 = own) (hd : parseFieldDescriptor (T kf).2.2.1 = some ty) (hn : narrow ty v = v) (hfit : fits ty v = true) (hl0 : kf < fs.length) (hw' : ws.set q0 (a, .inr (ci, fs.set kf v)) = ws') (d : decode cc pc = .ok (.putfield index, 3)) (k : J x cells slots ws' (pc + 3) lv st) : J x cells slots ws pc lv (v :: .ref a :: st) := by
  subst hw'
  exact fun H locs ls hP hD hS hl => va_putF h.1 h.2.1 h.2.2.2.2.2.1 hin ty0 hty hnm h.2.2.2.2.1 h.K hP hD hS q0 he hc kf hk (h.w hlink) hsame hfin hin2 hdecl hd hn hfit hl0 d (fun H1 l1 hP1 hD1 hS1 => k H1 l1 ls hP1 hD1 hS1 hl)
theorem J_iald (h : Ok x cc own ret) {a n q0 : Nat} {f : Nat → Int32} {i : Int32} (ha : ws[q0]? = some (a, .inl ((xG x).2.1, n, .inl f))) (hin : vp_in i n) (d : decode cc pc = .ok (.iaload, 1)) (k : J x cells slots ws (pc + 1) lv (.int (f i.toNatClampNeg) :: st)) : J x cells slots ws pc lv (.int i :: .ref a :: st) := fun H locs ls hP hD hS hl => va_iald h.1 h.2.1 h.K hP q0 0 ha rfl hin d (k H locs ls hP hD hS hl)
theorem J_iast (h : Ok x cc own ret) {a n q0 : Nat} {f : Nat → Int32} {i v : Int32} (ws' : va_W) (ha : ws[q0]? = some (a, .inl ((xG x).2.1, n, .inl f))) (hin : vp_in i n) (hw' : ws.set q0 (a, .inl ((xG x).2.1, n, .inl (upd f i.toNatClampNeg v))) = ws') (d : decode cc pc = .ok (.iastore, 1)) (k : J x cells slots ws' (pc + 1) lv st) : J x cells slots ws pc lv (.int v :: .int i :: .ref a :: st) := by
  subst hw'
  exact fun H locs ls hP hD hS hl => va_iast h.1 h.2.1 h.K hP hD hS q0 0 ha rfl hin d (fun H1 l1 hP1 hD1 hS1 => k H1 l1 ls hP1 hD1 hS1 hl)
theorem J_aald (h : Ok x cc own ret) {a n q0 t0 : Nat} {cA : ClassId} {C : String} {f : Nat → Option Nat} {i : Int32} (ha : ws[q0]? = some (a, .inl (cA, n, .inr (.inr (.inr (.inr f)))))) (ht : (tyL (xG x))[t0]? = some (cA, .object C)) (hin : vp_in i n) (d : decode cc pc = .ok (.aaload, 1)) (k : J x cells slots ws (pc + 1) lv (va_rf (f i.toNatClampNeg) :: st)) : J x cells slots ws pc lv (.int i :: .ref a :: st) := fun H locs ls hP hD hS hl => va_aldq h.1 h.2.1 h.K hP q0 t0 ha ht hin d (k H locs ls hP hD hS hl)
theorem J_aastN (h : Ok x cc own ret) {a n q0 t0 : Nat} {cA : ClassId} {C : String} {f : Nat → Option Nat} {i : Int32} (ws' : va_W) (ha : ws[q0]? = some (a, .inl (cA, n, .inr (.inr (.inr (.inr f)))))) (ht : (tyL (xG x))[t0]? = some (cA, .object C)) (hin : vp_in i n) (hw' : ws.set q0 (a, .inl (cA, n, .inr (.inr (.inr (.inr (va_up f i.toNatClampNeg none)))))) = ws') (d : decode cc pc = .ok (.aastore, 1)) (k : J x cells slots ws' (pc + 1) lv st) : J x cells slots ws pc lv (va_rf none :: .int i :: .ref a :: st) := by
  subst hw'
  exact fun H locs ls hP hD hS hl => va_astqN h.1 h.2.1 h.K hP hD hS q0 t0 ha ht hin d (fun H1 l1 hP1 hD1 hS1 => k H1 l1 ls hP1 hD1 hS1 hl)
theorem J_aast (h : Ok x cc own ret) {a n q0 t0 qk ci v : Nat} {cA : ClassId} {vs : List Value} {r : vw_C} {f : Nat → Option Nat} {i : Int32} (ws' : va_W) (ha : ws[q0]? = some (a, .inl (cA, n, .inr (.inr (.inr (.inr f)))))) (ht : (tyL (xG x))[t0]? = some (cA, .object r.1)) (hv : ws[qk]? = some (v, .inr (ci, vs))) (hc : clL[ci]? = some r) (hin : vp_in i n) (hw' : ws.set q0 (a, .inl (cA, n, .inr (.inr (.inr (.inr (va_up f i.toNatClampNeg (some v))))))) = ws') (d : decode cc pc = .ok (.aastore, 1)) (k : J x cells slots ws' (pc + 1) lv st) : J x cells slots ws pc lv (va_rf (some v) :: .int i :: .ref a :: st) := by
  subst hw'
  exact fun H locs ls hP hD hS hl => va_astq h.1 h.2.1 h.K hP hD hS q0 t0 qk ci ha ht hv hc hin d (fun H1 l1 hP1 hD1 hS1 => k H1 l1 ls hP1 hD1 hS1 hl)
theorem J_aastO (h : Ok x cc own ret) {a n q0 t0 qk ci v : Nat} {cA : ClassId} {E : String} {vs : List Value} {r : vw_C} {f : Nat → Option Nat} {i : Int32} (ws' : va_W) (ha : ws[q0]? = some (a, .inl (cA, n, .inr (.inr (.inr (.inr f)))))) (ht : (tyL (xG x))[t0]? = some (cA, .object E)) (hca : va_Nw (.castable r.1 E) (xS x)) (hv : ws[qk]? = some (v, .inr (ci, vs))) (hc : clL[ci]? = some r) (hin : vp_in i n) (hw' : ws.set q0 (a, .inl (cA, n, .inr (.inr (.inr (.inr (va_up f i.toNatClampNeg (some v))))))) = ws') (d : decode cc pc = .ok (.aastore, 1)) (k : J x cells slots ws' (pc + 1) lv st) : J x cells slots ws pc lv (va_rf (some v) :: .int i :: .ref a :: st) := by
  subst hw'
  exact fun H locs ls hP hD hS hl => va_astqO h.1 h.2.1 h.K hP hD hS q0 t0 qk ci ha ht hca hv hc hin d (fun H1 l1 hP1 hD1 hS1 => k H1 l1 ls hP1 hD1 hS1 hl)
end JL
def CQ (g : Gy) (ws : va_W) (Po : Option Value → va_W → Prop) (sz : Nat) : Array Value → State → Outcome → State → Prop := fun _ s1 oc t => ∃ (r : Option Value) (ws' : va_W), oc = .returned r ∧ Po r ws' ∧ va_P g.1 clL ws' t.heap ∧ va_D (va_A ws sz) ws' ∧ va_F (va_A ws sz) s1 t
/-- a method's contract: from the world ws, with arguments As, it returns; Po says what, and the world behind it -/
def Con (l : Launch) (g : Gy) (y : MethodName) (cc : ByteArray) (nL : Nat) (ret : Option FieldType) (rm : Room) (As : List Value) (ws : va_W) (Po : Option Value → va_W → Prop) : Prop :=
  ∀ sz : Nat, Met l y (Cond.code y cc nL ret :: gd_tbl) rm (va_Pc As (fun U => U.heap.size = sz ∧ va_P g.1 clL ws U.heap ∧ Wk g U ∧ va_D (fun _ => True) ws))
    (CQ g ws Po sz) rm.cells rm.slots (va_A ws sz)
theorem Con.of {l : Launch} {g : Gy} {y : MethodName} {cc : ByteArray} {nL : Nat} {ret : Option FieldType} {rm : Room} {As : List Value} {ws : va_W} {Po : Option Value → va_W → Prop} (hy : plainName y.cls = true) (hn : (lg_sl As).length ≤ nL)
    (body : ∀ x : Cx, Ok x cc y.cls ret → xL x = l → xG x = g → xR x = rm → xN x = nL → ((xT x).name = y.name) → Rt x rm.cells rm.slots Po → J x 0 0 ws 0 (lv_args 0 As) []) : Con l g y cc nL ret rm As ws Po := by
  intro sz
  refine Met.ofW (cc := cc) (maxL := nL) (ret := ret) hy rfl ?_
  intro p e s m args below meth c s₁ B hml hv
  obtain ⟨rfl, hsz, hP, hK, hD0⟩ := hv
  subst hsz
  have hts := atoms_spec (ws := Cond.code y cc nL ret :: gd_tbl) B.pre
  have hl := lv_entry As (n := nL) hn
  rw [lg_entry_eq]
  refine body (p, l, e, rm, s, m, As.toArray, below, meth, c, g, va_A ws s.heap.size, MQ below (CQ g ws Po s.heap.size) As.toArray s rm.cells rm.slots (va_A ws s.heap.size), nL) ⟨B.exec, B.bytes, B.returns, hml, findClass_of_methodNamed B.named, fun w hw => hts w (List.mem_cons_of_mem _ hw), hK, B.notSynchronized, fun q h => Or.inr h⟩ rfl rfl rfl rfl (name_of_methodNamed B.named B.method).1 ⟨CQ g ws Po s.heap.size, rfl, ?_⟩ s.heap [] _ hP hD0.self va_S.rf hl
  intro r ws' H locs t hp hP1 hD1 hS1 ht
  exact ⟨r, ws', rfl, hp, by rw [ht]; exact hP1, hD1, hS1.F ht⟩
/-- the word lists of callees are among those of callers -/
theorem gd_call {y : MethodName} {cc : ByteArray} {nL : Nat} {ret : Option FieldType} (hc : Cond.code y cc nL ret ∈ gd_tbl) : GoodIn gd_tbl (Cond.code y cc nL ret :: gd_tbl) := by
  intro w hw
  rcases List.mem_cons.mp hw with e | hw
  · subst e
    exact gd_good _ hc
  · exact gd_good w hw
theorem gd_app {pre ws : List Cond} (h1 : ∀ w ∈ pre, w ∈ gd_tbl) (h2 : GoodIn gd_tbl ws) : GoodIn gd_tbl (pre ++ ws) := by
  intro w hw
  rcases List.mem_append.mp hw with hw | hw
  · exact gd_good w (h1 w hw)
  · exact h2 w hw
end
section
section JC
variable {x : Cx} {cc : ByteArray} {own : String} {ret : Option FieldType} {cells slots pc : Nat} {ws : va_W} {lv : List (Nat × Value)} {st rest : List Value}
theorem J_go (h : Ok x cc own ret) {Po : Option Value → va_W → Prop} {mc ms : Nat} {arr : Array Value}
    (hr : ∀ (H : Heap) (locs : List Loc) (ls : Array Slot), va_P (xG x).1 clL ws H → va_D (xA x) ws → lv_has ls (xN x) lv → va_Run (xP x) (xL x) (xE x) (xR x) (xS x) (xM x) (xU x) (xB x) (xT x) (xC x) H locs cells slots mc ms (F0 (xM x) pc ls st) rest (CQ (xG x) ws Po H.size arr) (va_A ws H.size))
    (k : ∀ (r : Option Value) (ws' : va_W), Po r ws' → J x (cells + mc) (slots + ms) ws' (pc + 3) lv (r.toList ++ rest)) : J x cells slots ws pc lv st := by
  intro H locs ls hP hD hS hl T hT X
  obtain ⟨v, s0, t, T', L, h0, X', hL, e1, e2, ⟨r, ws', hv, hp, hP1, hD1, hz, hk⟩, go⟩ := hr H locs ls hP hD hl T hT X
  cases hv
  rw [h0] at hz hk
  have hA : ∀ q, va_A ws H.size q → xA x q := by
    rintro q (⟨i, e, hi⟩ | hi)
    · exact hD.2 i _ hi
    · exact h.2.2.2.2.2.2.2.2 q (Nat.le_trans hS.1 hi)
  obtain ⟨t2, a1, b1⟩ := k v ws' hp T'.heap (locs ++ L) ls (by rw [e1]; exact hP1) (hD1.weaken (fun _ q _ hq => hA _ hq))
    ⟨Nat.le_trans hS.1 (by rw [e1]; exact hz), fun q h1 h2 => by rw [e1, hk q (Nat.lt_of_lt_of_le h1 hS.1) (fun z => h2 (hA q z))]; exact hS.2.1 q h1 h2, fun q hq => by
      rcases List.mem_append.mp hq with hq | hq
      · exact hS.2.2 q hq
      · exact hA _ (hL q hq)⟩ hl T' rfl X'
  exact ⟨t2, go t2 a1, b1⟩
theorem Con.blind {g : Gy} {As : List Value} {ws : va_W} {sz : Nat} : FrameBlind (va_Pc As (fun U => U.heap.size = sz ∧ va_P g.1 clL ws U.heap ∧ Wk g U ∧ va_D (fun _ => True) ws)) := by
  intro a U gg mk q
  obtain ⟨q0, q1, qP, qK, qD⟩ := q
  exact ⟨q0, q1, qP, Wk.same (u := U) rfl qK, qD⟩
theorem Con.pre {g : Gy} {As : List Value} {ws : va_W} {s : State} {H : Heap} {A : Nat → Prop} (hK : Wk g s) (hP : va_P g.1 clL ws H) (hD : va_D A ws) : ∀ U : State, U.heap = H → s.WarmedH U.vm → va_Pc As (fun U => U.heap.size = H.size ∧ va_P g.1 clL ws U.heap ∧ Wk g U ∧ va_D (fun _ => True) ws) As.toArray U :=
  fun U hU hW => ⟨rfl, by rw [hU], by rw [hU]; exact hP, Wk.moved hW hK, hD.weaken (fun _ _ _ _ => trivial)⟩
variable {y z : MethodName} {cb : ByteArray} {nb index b q0 ci n : Nat} {rb : Option FieldType} {rm : Room} {As : List Value} {Po : Option Value → va_W → Prop} {C : String} {fs : List Value} {q : vw_C}
/-- a method of the receiver's own class -/
theorem J_callV (h : Ok x cc own ret) (hc : Con (xL x) (xG x) y cb nb rb rm (.ref b :: As) ws Po) (h1 : Cond.methodLink own index y ∈ gd_tbl) (h2 : Cond.instanceMethod y ∈ gd_tbl) (h3 : Cond.selects C y y ∈ gd_tbl) (h4 : Cond.initialized C ∈ gd_tbl) (h5 : Cond.code y cb nb rb ∈ gd_tbl)
    (hd : y.cls = C ∧ y.cls ≠ "java/lang/invoke/MethodHandle" ∧ y.cls ≠ "java/lang/invoke/VarHandle" ∧ (parseMethodDescriptor y.desc).map (fun d => d.parameters.length) = some n) (hR : rm.frames + 1 ≤ (xR x).frames ∧ 8 + (nb + 11) + rm.locals ≤ (xR x).locals) (hf : cells + rm.cells ≤ (xR x).cells ∧ slots + rm.slots ≤ (xR x).slots)
    (he : ws[q0]? = some (b, .inr (ci, fs))) (hci : clL[ci]? = some q) (hq : q.1 = C) (hn : As.length = n) (hst : st = As.reverse ++ .ref b :: rest) (hro : (rest.map fun v => v.category).sum ≤ 8) (d : decode cc pc = .ok (.invokevirtual index, 3))
    (k : ∀ (r : Option Value) (ws' : va_W), Po r ws' → J x (cells + rm.cells) (slots + rm.slots) ws' (pc + 3) lv (r.toList ++ rest)) : J x cells slots ws pc lv st := by
  refine J_go (arr := (Value.ref b :: As).toArray) h (fun H locs ls hP hD hl => ?_) k
  exact va_runV (C := C) (n := n) ⟨h.1, h.2.1, h.2.2.2.1, h.2.2.2.2.1, h.2.2.2.2.2.1⟩ (hc H.size) (cwV (ws' := gd_tbl) n h.2.2.2.2.2.1 (gd_app (by intro w hw; simp at hw; rcases hw with rfl | rfl | rfl | rfl <;> assumption) (gd_call h5)) rfl rfl rfl hd hR) ⟨Con.blind, by rw [← hq]; exact va_recv h.K hP hci he, Con.pre h.2.2.2.2.2.2.1 hP hD⟩ rfl hn hl.1 hst (lv_room hro) d hf
/-- a static method -/
theorem J_callS (h : Ok x cc own ret) (hc : Con (xL x) (xG x) y cb nb rb rm As ws Po) (h1 : Cond.methodLink own index y ∈ gd_tbl) (h2 : Cond.static y ∈ gd_tbl) (h4 : Cond.initialized y.cls ∈ gd_tbl) (h5 : Cond.code y cb nb rb ∈ gd_tbl)
    (hd : y.cls ≠ "java/lang/invoke/MethodHandle" ∧ y.cls ≠ "java/lang/invoke/VarHandle" ∧ (parseMethodDescriptor y.desc).map (fun d => d.parameters.length) = some n) (hR : rm.frames + 1 ≤ (xR x).frames ∧ 8 + (nb + 11) + rm.locals ≤ (xR x).locals) (hf : cells + rm.cells ≤ (xR x).cells ∧ slots + rm.slots ≤ (xR x).slots)
    (hn : As.length = n) (hst : st = As.reverse ++ rest) (hro : (rest.map fun v => v.category).sum ≤ 8) (d : decode cc pc = .ok (.invokestatic index, 3))
    (k : ∀ (r : Option Value) (ws' : va_W), Po r ws' → J x (cells + rm.cells) (slots + rm.slots) ws' (pc + 3) lv (r.toList ++ rest)) : J x cells slots ws pc lv st := by
  refine J_go (arr := As.toArray) h (fun H locs ls hP hD hl => ?_) k
  exact va_runS (n := n) ⟨h.1, h.2.1, h.2.2.2.1, h.2.2.2.2.1, h.2.2.2.2.2.1⟩ (hc H.size) (va_cwS (ws' := gd_tbl) n h.2.2.2.2.2.1 (gd_app (by intro w hw; simp at hw; rcases hw with rfl | rfl | rfl <;> assumption) (gd_call h5)) rfl rfl rfl hd hR) ⟨Con.blind, Con.pre h.2.2.2.2.2.2.1 hP hD⟩ rfl hn hl.1 hst (lv_room hro) d hf
/-- a method that the receiver's class inherits: named z, found y -/
theorem J_callU (h : Ok x cc own ret) {owner : String} (hc : Con (xL x) (xG x) y cb nb rb rm (.ref b :: As) ws Po) (h1 : Cond.methodLink own index z ∈ gd_tbl) (h2 : Cond.sameMethod z.cls owner z.name z.desc ∈ gd_tbl) (h3 : Cond.selects C z y ∈ gd_tbl) (h6 : Cond.instanceMethod y ∈ gd_tbl) (h4 : Cond.initialized y.cls ∈ gd_tbl) (h5 : Cond.code y cb nb rb ∈ gd_tbl)
    (hyx : y = ⟨owner, z.name, z.desc⟩) (hd : owner ≠ "java/lang/invoke/MethodHandle" ∧ owner ≠ "java/lang/invoke/VarHandle" ∧ (parseMethodDescriptor z.desc).map (fun d => d.parameters.length) = some n) (hR : rm.frames + 1 ≤ (xR x).frames ∧ 8 + (nb + 11) + rm.locals ≤ (xR x).locals) (hf : cells + rm.cells ≤ (xR x).cells ∧ slots + rm.slots ≤ (xR x).slots)
    (he : ws[q0]? = some (b, .inr (ci, fs))) (hci : clL[ci]? = some q) (hq : q.1 = C) (hn : As.length = n) (hst : st = As.reverse ++ .ref b :: rest) (hro : (rest.map fun v => v.category).sum ≤ 8) (d : decode cc pc = .ok (.invokevirtual index, 3))
    (k : ∀ (r : Option Value) (ws' : va_W), Po r ws' → J x (cells + rm.cells) (slots + rm.slots) ws' (pc + 3) lv (r.toList ++ rest)) : J x cells slots ws pc lv st := by
  refine J_go (arr := (Value.ref b :: As).toArray) h (fun H locs ls hP hD hl => ?_) k
  exact va_runU (C := C) (n := n) ⟨h.1, h.2.1, h.2.2.2.1, h.2.2.2.2.1, h.2.2.2.2.2.1⟩ (hc H.size) (va_cwU (owner := owner) (ws' := gd_tbl) n h.2.2.2.2.2.1 (gd_app (by intro w hw; simp at hw; rcases hw with rfl | rfl | rfl | rfl | rfl <;> assumption) (gd_call h5)) rfl rfl rfl hyx hd hR) ⟨Con.blind, by rw [← hq]; exact va_recv h.K hP hci he, Con.pre h.2.2.2.2.2.2.1 hP hD⟩ rfl hn hl.1 hst (lv_room hro) d hf
/-- a method that the receiver's class overrides: named z, of which owner has code too; found y -/
theorem J_callO (h : Ok x cc own ret) {owner : String} {b0 : ByteArray} {m0 : Nat} {r0 : Option FieldType} (hc : Con (xL x) (xG x) y cb nb rb rm (.ref b :: As) ws Po) (h1 : Cond.methodLink own index z ∈ gd_tbl) (h2 : Cond.sameMethod z.cls owner z.name z.desc ∈ gd_tbl) (h7 : Cond.instanceMethod ⟨owner, z.name, z.desc⟩ ∈ gd_tbl) (h3 : Cond.selects C z y ∈ gd_tbl) (h6 : Cond.instanceMethod y ∈ gd_tbl) (h4 : Cond.initialized y.cls ∈ gd_tbl) (h5 : Cond.code y cb nb rb ∈ gd_tbl)
    (h0 : Cond.code ⟨owner, z.name, z.desc⟩ b0 m0 r0 ∈ gd_tbl) (hd : owner ≠ "java/lang/invoke/MethodHandle" ∧ owner ≠ "java/lang/invoke/VarHandle" ∧ (parseMethodDescriptor z.desc).map (fun d => d.parameters.length) = some n) (hR : rm.frames + 1 ≤ (xR x).frames ∧ 8 + (nb + 11) + rm.locals ≤ (xR x).locals) (hf : cells + rm.cells ≤ (xR x).cells ∧ slots + rm.slots ≤ (xR x).slots)
    (he : ws[q0]? = some (b, .inr (ci, fs))) (hci : clL[ci]? = some q) (hq : q.1 = C) (hn : As.length = n) (hst : st = As.reverse ++ .ref b :: rest) (hro : (rest.map fun v => v.category).sum ≤ 8) (d : decode cc pc = .ok (.invokevirtual index, 3))
    (k : ∀ (r : Option Value) (ws' : va_W), Po r ws' → J x (cells + rm.cells) (slots + rm.slots) ws' (pc + 3) lv (r.toList ++ rest)) : J x cells slots ws pc lv st := by
  refine J_go (arr := (Value.ref b :: As).toArray) h (fun H locs ls hP hD hl => ?_) k
  exact va_runU (C := C) (n := n) ⟨h.1, h.2.1, h.2.2.2.1, h.2.2.2.2.1, h.2.2.2.2.2.1⟩ (hc H.size) (va_cwO (owner := owner) (ws' := gd_tbl) n h.2.2.2.2.2.1 (gd_app (by intro w hw; simp at hw; rcases hw with rfl | rfl | rfl | rfl | rfl | rfl <;> assumption) (gd_call h5)) rfl rfl rfl h0 hd hR) ⟨Con.blind, by rw [← hq]; exact va_recv h.K hP hci he, Con.pre h.2.2.2.2.2.2.1 hP hD⟩ rfl hn hl.1 hst (lv_room hro) d hf
/-- a method of the class above -/
theorem J_callP (h : Ok x cc own ret) (hc : Con (xL x) (xG x) y cb nb rb rm (.ref b :: As) ws Po) (h1 : Cond.methodLink own index y ∈ gd_tbl) (h2 : Cond.sameMethod y.cls y.cls y.name y.desc ∈ gd_tbl) (h3 : Cond.superclass own y.cls ∈ gd_tbl) (h6 : Cond.instanceMethod y ∈ gd_tbl) (h4 : Cond.initialized y.cls ∈ gd_tbl) (h5 : Cond.code y cb nb rb ∈ gd_tbl)
    (hd : y.name ≠ "<init>" ∧ (parseMethodDescriptor y.desc).map (fun d => d.parameters.length) = some n) (hR : rm.frames + 1 ≤ (xR x).frames ∧ 8 + (nb + 11) + rm.locals ≤ (xR x).locals) (hf : cells + rm.cells ≤ (xR x).cells ∧ slots + rm.slots ≤ (xR x).slots)
    (he : ws[q0]? = some (b, .inr (ci, fs))) (hci : clL[ci]? = some q) (hn : As.length = n) (hst : st = As.reverse ++ .ref b :: rest) (hro : (rest.map fun v => v.category).sum ≤ 8) (d : decode cc pc = .ok (.invokespecial index, 3))
    (k : ∀ (r : Option Value) (ws' : va_W), Po r ws' → J x (cells + rm.cells) (slots + rm.slots) ws' (pc + 3) lv (r.toList ++ rest)) : J x cells slots ws pc lv st := by
  refine J_go (arr := (Value.ref b :: As).toArray) h (fun H locs ls hP hD hl => ?_) k
  exact va_runSU (C := q.1) (n := n) (h.K.1 ci q hci).2 ⟨h.1, h.2.1, h.2.2.2.1, h.2.2.2.2.1, h.2.2.2.2.2.1⟩ (hc H.size) (va_cwSU (ws' := gd_tbl) n h.2.2.2.2.2.1 (gd_app (by intro w hw; simp at hw; rcases hw with rfl | rfl | rfl | rfl | rfl <;> assumption) (gd_call h5)) rfl rfl rfl hd hR) ⟨Con.blind, va_recv h.K hP hci he, Con.pre h.2.2.2.2.2.2.1 hP hD⟩ rfl hn hl.1 hst (lv_room hro) d hf
/-- a constructor -/
theorem J_callI (h : Ok x cc own ret) (hc : Con (xL x) (xG x) y cb nb none rm (.ref b :: As) ws Po) (h1 : Cond.methodLink own index y ∈ gd_tbl) (h2 : Cond.instanceMethod y ∈ gd_tbl) (h4 : Cond.initialized y.cls ∈ gd_tbl) (h5 : Cond.code y cb nb none ∈ gd_tbl) (hy : y.name = "<init>")
    (hd : y.cls ≠ "java/lang/invoke/MethodHandle" ∧ y.cls ≠ "java/lang/invoke/VarHandle" ∧ (parseMethodDescriptor y.desc).map (fun d => d.parameters.length) = some n) (hR : rm.frames + 1 ≤ (xR x).frames ∧ 8 + (nb + 11) + rm.locals ≤ (xR x).locals) (hf : cells + rm.cells ≤ (xR x).cells ∧ slots + rm.slots ≤ (xR x).slots)
    (hn : As.length = n) (hst : st = As.reverse ++ .ref b :: rest) (hro : (rest.map fun v => v.category).sum ≤ 8) (d : decode cc pc = .ok (.invokespecial index, 3))
    (k : ∀ (r : Option Value) (ws' : va_W), Po r ws' → J x (cells + rm.cells) (slots + rm.slots) ws' (pc + 3) lv (r.toList ++ rest)) : J x cells slots ws pc lv st := by
  refine J_go (arr := (Value.ref b :: As).toArray) h (fun H locs ls hP hD hl => ?_) k
  exact va_runI (n := n) ⟨h.1, h.2.1, h.2.2.2.1, h.2.2.2.2.1, h.2.2.2.2.2.1⟩ (hc H.size) (cwI (ws' := gd_tbl) n h.2.2.2.2.2.1 (gd_call h5) rfl rfl rfl (h.w h4) (h.w h1) (h.w h2) hy hd hR) ⟨Con.blind, Con.pre h.2.2.2.2.2.2.1 hP hD⟩ rfl hn hl.1 hst (lv_room hro) d hf
/-- a nest mate's private constructor -/
theorem J_callN (h : Ok x cc own ret) {host : String} (hc : Con (xL x) (xG x) y cb nb none rm (.ref b :: As) ws Po) (h1 : va_Nw (.methodLinkNest own index y host) (xS x)) (h2 : Cond.instanceMethod y ∈ gd_tbl) (h4 : Cond.initialized y.cls ∈ gd_tbl) (h5 : Cond.code y cb nb none ∈ gd_tbl) (hy : y.name = "<init>")
    (hd : y.cls ≠ "java/lang/invoke/MethodHandle" ∧ y.cls ≠ "java/lang/invoke/VarHandle" ∧ (parseMethodDescriptor y.desc).map (fun d => d.parameters.length) = some n) (hR : rm.frames + 1 ≤ (xR x).frames ∧ 8 + (nb + 11) + rm.locals ≤ (xR x).locals) (hf : cells + rm.cells ≤ (xR x).cells ∧ slots + rm.slots ≤ (xR x).slots)
    (hn : As.length = n) (hst : st = As.reverse ++ .ref b :: rest) (hro : (rest.map fun v => v.category).sum ≤ 8) (d : decode cc pc = .ok (.invokespecial index, 3))
    (k : ∀ (r : Option Value) (ws' : va_W), Po r ws' → J x (cells + rm.cells) (slots + rm.slots) ws' (pc + 3) lv (r.toList ++ rest)) : J x cells slots ws pc lv st := by
  refine J_go (arr := (Value.ref b :: As).toArray) h (fun H locs ls hP hD hl => ?_) k
  exact va_runIN (n := n) ⟨h.1, h.2.1, h.2.2.2.1, h.2.2.2.2.1, h.2.2.2.2.2.1⟩ (hc H.size) ⟨va_cnB (host := host) (ws' := gd_tbl) n h.2.2.2.2.2.1 (gd_call h5) rfl rfl rfl h1 (h.w h4) hd hR, hy, h.w h2⟩ ⟨Con.blind, Con.pre h.2.2.2.2.2.2.1 hP hD⟩ rfl hn hl.1 hst (lv_room hro) d hf
theorem J_obj (h : Ok x cc own ret) {a : Nat} (h1 : Cond.methodLink own index Lib.objectInit ∈ gd_tbl) (hf : 1 ≤ (xR x).frames) (hlo : (st.map fun v => v.category).sum + 12 ≤ (xR x).locals) (d : decode cc pc = .ok (.invokespecial index, 3)) (k : J x cells slots ws (pc + 3) lv st) : J x cells slots ws pc lv (.ref a :: st) := by
  intro H locs ls hP hD hS hl
  refine W.objInit h.1 h.2.1 h.2.2.2.2.1 (h.w h1) (h.w m_14) (h.w m_15) rfl (by rw [h.2.2.2.1]; exact hl.1) rfl d hf (by show 2 * 0 + _ + 12 ≤ _; omega) ?_
  exact k H locs ls hP hD hS hl
end JC
end
section
theorem dX0_init_0 : decode cX0_init 0 = .ok (.aload_n 0, 1) := by decide +kernel
theorem dX0_init_1 : decode cX0_init 1 = .ok (.invokespecial 3, 3) := by decide +kernel
theorem dX0_init_4 : decode cX0_init 4 = .ok (.aload_n 0, 1) := by decide +kernel
theorem dX0_init_5 : decode cX0_init 5 = .ok (.bipush 12, 2) := by decide +kernel
theorem dX0_init_7 : decode cX0_init 7 = .ok (.newarray .int, 2) := by decide +kernel
theorem dX0_init_9 : decode cX0_init 9 = .ok (.putfield 9, 3) := by decide +kernel
theorem dX0_init_12 : decode cX0_init 12 = .ok (.aload_n 0, 1) := by decide +kernel
theorem dX0_init_13 : decode cX0_init 13 = .ok (.bipush 12, 2) := by decide +kernel
theorem dX0_init_15 : decode cX0_init 15 = .ok (.newarray .int, 2) := by decide +kernel
theorem dX0_init_17 : decode cX0_init 17 = .ok (.putfield 15, 3) := by decide +kernel
theorem dX0_init_20 : decode cX0_init 20 = .ok (.aload_n 0, 1) := by decide +kernel
theorem dX0_init_21 : decode cX0_init 21 = .ok (.bipush 12, 2) := by decide +kernel
theorem dX0_init_23 : decode cX0_init 23 = .ok (.newarray .int, 2) := by decide +kernel
theorem dX0_init_25 : decode cX0_init 25 = .ok (.putfield 18, 3) := by decide +kernel
theorem dX0_init_28 : decode cX0_init 28 = .ok (.return_, 1) := by decide +kernel
theorem dX0_add_0 : decode cX0_add 0 = .ok (.aload_n 0, 1) := by decide +kernel
theorem dX0_add_1 : decode cX0_add 1 = .ok (.getfield 21, 3) := by decide +kernel
theorem dX0_add_4 : decode cX0_add 4 = .ok (.bipush 12, 2) := by decide +kernel
theorem dX0_add_6 : decode cX0_add 6 = .ok (.if_icmp .ge 43, 3) := by decide +kernel
theorem dX0_add_9 : decode cX0_add 9 = .ok (.aload_n 0, 1) := by decide +kernel
theorem dX0_add_10 : decode cX0_add 10 = .ok (.getfield 9, 3) := by decide +kernel
theorem dX0_add_13 : decode cX0_add 13 = .ok (.aload_n 0, 1) := by decide +kernel
theorem dX0_add_14 : decode cX0_add 14 = .ok (.getfield 21, 3) := by decide +kernel
theorem dX0_add_17 : decode cX0_add 17 = .ok (.iload_n 1, 1) := by decide +kernel
theorem dX0_add_18 : decode cX0_add 18 = .ok (.iastore, 1) := by decide +kernel
theorem dX0_add_19 : decode cX0_add 19 = .ok (.aload_n 0, 1) := by decide +kernel
theorem dX0_add_20 : decode cX0_add 20 = .ok (.getfield 15, 3) := by decide +kernel
theorem dX0_add_23 : decode cX0_add 23 = .ok (.aload_n 0, 1) := by decide +kernel
theorem dX0_add_24 : decode cX0_add 24 = .ok (.getfield 21, 3) := by decide +kernel
theorem dX0_add_27 : decode cX0_add 27 = .ok (.iload_n 2, 1) := by decide +kernel
theorem dX0_add_28 : decode cX0_add 28 = .ok (.iastore, 1) := by decide +kernel
theorem dX0_add_29 : decode cX0_add 29 = .ok (.aload_n 0, 1) := by decide +kernel
theorem dX0_add_30 : decode cX0_add 30 = .ok (.getfield 18, 3) := by decide +kernel
theorem dX0_add_33 : decode cX0_add 33 = .ok (.aload_n 0, 1) := by decide +kernel
theorem dX0_add_34 : decode cX0_add 34 = .ok (.getfield 21, 3) := by decide +kernel
theorem dX0_add_37 : decode cX0_add 37 = .ok (.iload_n 3, 1) := by decide +kernel
theorem dX0_add_38 : decode cX0_add 38 = .ok (.iastore, 1) := by decide +kernel
theorem dX0_add_39 : decode cX0_add 39 = .ok (.aload_n 0, 1) := by decide +kernel
theorem dX0_add_40 : decode cX0_add 40 = .ok (.dup, 1) := by decide +kernel
theorem dX0_add_41 : decode cX0_add 41 = .ok (.getfield 21, 3) := by decide +kernel
theorem dX0_add_44 : decode cX0_add 44 = .ok (.iconst 1, 1) := by decide +kernel
theorem dX0_add_45 : decode cX0_add 45 = .ok (.iadd, 1) := by decide +kernel
theorem dX0_add_46 : decode cX0_add 46 = .ok (.putfield 21, 3) := by decide +kernel
theorem dX0_add_49 : decode cX0_add 49 = .ok (.return_, 1) := by decide +kernel
theorem dX0_behind_0 : decode cX0_behind 0 = .ok (.aload_n 0, 1) := by decide +kernel
theorem dX0_behind_1 : decode cX0_behind 1 = .ok (.getfield 9, 3) := by decide +kernel
theorem dX0_behind_4 : decode cX0_behind 4 = .ok (.iload_n 1, 1) := by decide +kernel
theorem dX0_behind_5 : decode cX0_behind 5 = .ok (.iaload, 1) := by decide +kernel
theorem dX0_behind_6 : decode cX0_behind 6 = .ok (.ifCond .eq 13, 3) := by decide +kernel
theorem dX0_behind_9 : decode cX0_behind 9 = .ok (.aload_n 0, 1) := by decide +kernel
theorem dX0_behind_10 : decode cX0_behind 10 = .ok (.getfield 9, 3) := by decide +kernel
theorem dX0_behind_13 : decode cX0_behind 13 = .ok (.iload_n 1, 1) := by decide +kernel
theorem dX0_behind_14 : decode cX0_behind 14 = .ok (.iaload, 1) := by decide +kernel
theorem dX0_behind_15 : decode cX0_behind 15 = .ok (.iconst 1, 1) := by decide +kernel
theorem dX0_behind_16 : decode cX0_behind 16 = .ok (.if_icmp .ne 7, 3) := by decide +kernel
theorem dX0_behind_19 : decode cX0_behind 19 = .ok (.iconst 1, 1) := by decide +kernel
theorem dX0_behind_20 : decode cX0_behind 20 = .ok (.goto 4, 3) := by decide +kernel
theorem dX0_behind_23 : decode cX0_behind 23 = .ok (.iconst 0, 1) := by decide +kernel
theorem dX0_behind_24 : decode cX0_behind 24 = .ok (.istore_n 3, 1) := by decide +kernel
theorem dX0_behind_25 : decode cX0_behind 25 = .ok (.iload_n 3, 1) := by decide +kernel
theorem dX0_behind_26 : decode cX0_behind 26 = .ok (.ifCond .eq 20, 3) := by decide +kernel
theorem dX0_behind_29 : decode cX0_behind 29 = .ok (.iload_n 1, 1) := by decide +kernel
theorem dX0_behind_30 : decode cX0_behind 30 = .ok (.iconst 1, 1) := by decide +kernel
theorem dX0_behind_31 : decode cX0_behind 31 = .ok (.iadd, 1) := by decide +kernel
theorem dX0_behind_32 : decode cX0_behind 32 = .ok (.aload_n 0, 1) := by decide +kernel
theorem dX0_behind_33 : decode cX0_behind 33 = .ok (.getfield 18, 3) := by decide +kernel
theorem dX0_behind_36 : decode cX0_behind 36 = .ok (.iload_n 1, 1) := by decide +kernel
theorem dX0_behind_37 : decode cX0_behind 37 = .ok (.iaload, 1) := by decide +kernel
theorem dX0_behind_38 : decode cX0_behind 38 = .ok (.iadd, 1) := by decide +kernel
theorem dX0_behind_39 : decode cX0_behind 39 = .ok (.iload_n 2, 1) := by decide +kernel
theorem dX0_behind_40 : decode cX0_behind 40 = .ok (.invokestatic 25, 3) := by decide +kernel
theorem dX0_behind_43 : decode cX0_behind 43 = .ok (.goto 6, 3) := by decide +kernel
theorem dX0_behind_46 : decode cX0_behind 46 = .ok (.iload_n 1, 1) := by decide +kernel
theorem dX0_behind_47 : decode cX0_behind 47 = .ok (.iconst 1, 1) := by decide +kernel
theorem dX0_behind_48 : decode cX0_behind 48 = .ok (.iadd, 1) := by decide +kernel
theorem dX0_behind_49 : decode cX0_behind 49 = .ok (.ireturn, 1) := by decide +kernel
theorem dX1_init_0 : decode cX1_init 0 = .ok (.aload_n 0, 1) := by decide +kernel
theorem dX1_init_1 : decode cX1_init 1 = .ok (.invokespecial 3, 3) := by decide +kernel
theorem dX1_init_4 : decode cX1_init 4 = .ok (.aload_n 0, 1) := by decide +kernel
theorem dX1_init_5 : decode cX1_init 5 = .ok (.iload_n 1, 1) := by decide +kernel
theorem dX1_init_6 : decode cX1_init 6 = .ok (.putfield 9, 3) := by decide +kernel
theorem dX1_init_9 : decode cX1_init 9 = .ok (.aload_n 0, 1) := by decide +kernel
theorem dX1_init_10 : decode cX1_init 10 = .ok (.iload_n 2, 1) := by decide +kernel
theorem dX1_init_11 : decode cX1_init 11 = .ok (.putfield 15, 3) := by decide +kernel
theorem dX1_init_14 : decode cX1_init 14 = .ok (.return_, 1) := by decide +kernel
theorem dX1_enter_0 : decode cX1_enter 0 = .ok (.aload_n 0, 1) := by decide +kernel
theorem dX1_enter_1 : decode cX1_enter 1 = .ok (.dup, 1) := by decide +kernel
theorem dX1_enter_2 : decode cX1_enter 2 = .ok (.getfield 18, 3) := by decide +kernel
theorem dX1_enter_5 : decode cX1_enter 5 = .ok (.iconst 1, 1) := by decide +kernel
theorem dX1_enter_6 : decode cX1_enter 6 = .ok (.iadd, 1) := by decide +kernel
theorem dX1_enter_7 : decode cX1_enter 7 = .ok (.putfield 18, 3) := by decide +kernel
theorem dX1_enter_10 : decode cX1_enter 10 = .ok (.aload_n 0, 1) := by decide +kernel
theorem dX1_enter_11 : decode cX1_enter 11 = .ok (.dup, 1) := by decide +kernel
theorem dX1_enter_12 : decode cX1_enter 12 = .ok (.getfield 21, 3) := by decide +kernel
theorem dX1_enter_15 : decode cX1_enter 15 = .ok (.iconst 1, 1) := by decide +kernel
theorem dX1_enter_16 : decode cX1_enter 16 = .ok (.iadd, 1) := by decide +kernel
theorem dX1_enter_17 : decode cX1_enter 17 = .ok (.putfield 21, 3) := by decide +kernel
theorem dX1_enter_20 : decode cX1_enter 20 = .ok (.aload_n 0, 1) := by decide +kernel
theorem dX1_enter_21 : decode cX1_enter 21 = .ok (.getfield 18, 3) := by decide +kernel
theorem dX1_enter_24 : decode cX1_enter 24 = .ok (.aload_n 0, 1) := by decide +kernel
theorem dX1_enter_25 : decode cX1_enter 25 = .ok (.getfield 24, 3) := by decide +kernel
theorem dX1_enter_28 : decode cX1_enter 28 = .ok (.if_icmp .le 11, 3) := by decide +kernel
theorem dX1_enter_31 : decode cX1_enter 31 = .ok (.aload_n 0, 1) := by decide +kernel
theorem dX1_enter_32 : decode cX1_enter 32 = .ok (.aload_n 0, 1) := by decide +kernel
theorem dX1_enter_33 : decode cX1_enter 33 = .ok (.getfield 18, 3) := by decide +kernel
theorem dX1_enter_36 : decode cX1_enter 36 = .ok (.putfield 24, 3) := by decide +kernel
theorem dX1_enter_39 : decode cX1_enter 39 = .ok (.return_, 1) := by decide +kernel
theorem dX1_leave_0 : decode cX1_leave 0 = .ok (.aload_n 0, 1) := by decide +kernel
theorem dX1_leave_1 : decode cX1_leave 1 = .ok (.dup, 1) := by decide +kernel
theorem dX1_leave_2 : decode cX1_leave 2 = .ok (.getfield 18, 3) := by decide +kernel
theorem dX1_leave_5 : decode cX1_leave 5 = .ok (.iconst 1, 1) := by decide +kernel
theorem dX1_leave_6 : decode cX1_leave 6 = .ok (.isub, 1) := by decide +kernel
theorem dX1_leave_7 : decode cX1_leave 7 = .ok (.putfield 18, 3) := by decide +kernel
theorem dX1_leave_10 : decode cX1_leave 10 = .ok (.return_, 1) := by decide +kernel
theorem dX1_put_0 : decode cX1_put 0 = .ok (.aload_n 0, 1) := by decide +kernel
theorem dX1_put_1 : decode cX1_put 1 = .ok (.invokevirtual 27, 3) := by decide +kernel
theorem dX1_put_4 : decode cX1_put 4 = .ok (.bipush 30, 2) := by decide +kernel
theorem dX1_put_6 : decode cX1_put 6 = .ok (.istore_n 2, 1) := by decide +kernel
theorem dX1_put_7 : decode cX1_put 7 = .ok (.aload_n 0, 1) := by decide +kernel
theorem dX1_put_8 : decode cX1_put 8 = .ok (.getfield 15, 3) := by decide +kernel
theorem dX1_put_11 : decode cX1_put 11 = .ok (.i2l, 1) := by decide +kernel
theorem dX1_put_12 : decode cX1_put 12 = .ok (.iload_n 1, 1) := by decide +kernel
theorem dX1_put_13 : decode cX1_put 13 = .ok (.i2l, 1) := by decide +kernel
theorem dX1_put_14 : decode cX1_put 14 = .ok (.ladd, 1) := by decide +kernel
theorem dX1_put_15 : decode cX1_put 15 = .ok (.lstore_n 3, 1) := by decide +kernel
theorem dX1_put_16 : decode cX1_put 16 = .ok (.lload_n 3, 1) := by decide +kernel
theorem dX1_put_17 : decode cX1_put 17 = .ok (.lconst 0, 1) := by decide +kernel
theorem dX1_put_18 : decode cX1_put 18 = .ok (.lcmp, 1) := by decide +kernel
theorem dX1_put_19 : decode cX1_put 19 = .ok (.ifCond .lt 19, 3) := by decide +kernel
theorem dX1_put_22 : decode cX1_put 22 = .ok (.lload_n 3, 1) := by decide +kernel
theorem dX1_put_23 : decode cX1_put 23 = .ok (.ldc2_w 30, 3) := by decide +kernel
theorem dX1_put_26 : decode cX1_put 26 = .ok (.lcmp, 1) := by decide +kernel
theorem dX1_put_27 : decode cX1_put 27 = .ok (.ifCond .gt 11, 3) := by decide +kernel
theorem dX1_put_30 : decode cX1_put 30 = .ok (.aload_n 0, 1) := by decide +kernel
theorem dX1_put_31 : decode cX1_put 31 = .ok (.lload_n 3, 1) := by decide +kernel
theorem dX1_put_32 : decode cX1_put 32 = .ok (.l2i, 1) := by decide +kernel
theorem dX1_put_33 : decode cX1_put 33 = .ok (.putfield 15, 3) := by decide +kernel
theorem dX1_put_36 : decode cX1_put 36 = .ok (.iconst 0, 1) := by decide +kernel
theorem dX1_put_37 : decode cX1_put 37 = .ok (.istore_n 2, 1) := by decide +kernel
theorem dX1_put_38 : decode cX1_put 38 = .ok (.aload_n 0, 1) := by decide +kernel
theorem dX1_put_39 : decode cX1_put 39 = .ok (.invokevirtual 32, 3) := by decide +kernel
theorem dX1_put_42 : decode cX1_put 42 = .ok (.iload_n 2, 1) := by decide +kernel
theorem dX1_put_43 : decode cX1_put 43 = .ok (.ireturn, 1) := by decide +kernel
theorem dX1_worth_0 : decode cX1_worth 0 = .ok (.aload_n 0, 1) := by decide +kernel
theorem dX1_worth_1 : decode cX1_worth 1 = .ok (.invokevirtual 27, 3) := by decide +kernel
theorem dX1_worth_4 : decode cX1_worth 4 = .ok (.aload_n 0, 1) := by decide +kernel
theorem dX1_worth_5 : decode cX1_worth 5 = .ok (.getfield 15, 3) := by decide +kernel
theorem dX1_worth_8 : decode cX1_worth 8 = .ok (.istore_n 1, 1) := by decide +kernel
theorem dX1_worth_9 : decode cX1_worth 9 = .ok (.aload_n 0, 1) := by decide +kernel
theorem dX1_worth_10 : decode cX1_worth 10 = .ok (.invokevirtual 32, 3) := by decide +kernel
theorem dX1_worth_13 : decode cX1_worth 13 = .ok (.iload_n 1, 1) := by decide +kernel
theorem dX1_worth_14 : decode cX1_worth 14 = .ok (.ireturn, 1) := by decide +kernel
theorem dX1_give_0 : decode cX1_give 0 = .ok (.aload_n 0, 1) := by decide +kernel
theorem dX1_give_1 : decode cX1_give 1 = .ok (.invokevirtual 27, 3) := by decide +kernel
theorem dX1_give_4 : decode cX1_give 4 = .ok (.aload_n 0, 1) := by decide +kernel
theorem dX1_give_5 : decode cX1_give 5 = .ok (.iload_n 1, 1) := by decide +kernel
theorem dX1_give_6 : decode cX1_give 6 = .ok (.ineg, 1) := by decide +kernel
theorem dX1_give_7 : decode cX1_give 7 = .ok (.invokevirtual 35, 3) := by decide +kernel
theorem dX1_give_10 : decode cX1_give 10 = .ok (.istore_n 3, 1) := by decide +kernel
theorem dX1_give_11 : decode cX1_give 11 = .ok (.iload_n 3, 1) := by decide +kernel
theorem dX1_give_12 : decode cX1_give 12 = .ok (.ifCond .ne 27, 3) := by decide +kernel
theorem dX1_give_15 : decode cX1_give 15 = .ok (.aload_n 2, 1) := by decide +kernel
theorem dX1_give_16 : decode cX1_give 16 = .ok (.ifnonnull 7, 3) := by decide +kernel
theorem dX1_give_19 : decode cX1_give 19 = .ok (.iconst 1, 1) := by decide +kernel
theorem dX1_give_20 : decode cX1_give 20 = .ok (.goto 8, 3) := by decide +kernel
theorem dX1_give_23 : decode cX1_give 23 = .ok (.aload_n 2, 1) := by decide +kernel
theorem dX1_give_24 : decode cX1_give 24 = .ok (.iload_n 1, 1) := by decide +kernel
theorem dX1_give_25 : decode cX1_give 25 = .ok (.invokevirtual 35, 3) := by decide +kernel
theorem dX1_give_28 : decode cX1_give 28 = .ok (.istore_n 3, 1) := by decide +kernel
theorem dX1_give_29 : decode cX1_give 29 = .ok (.iload_n 3, 1) := by decide +kernel
theorem dX1_give_30 : decode cX1_give 30 = .ok (.ifCond .eq 9, 3) := by decide +kernel
theorem dX1_give_33 : decode cX1_give 33 = .ok (.aload_n 0, 1) := by decide +kernel
theorem dX1_give_34 : decode cX1_give 34 = .ok (.iload_n 1, 1) := by decide +kernel
theorem dX1_give_35 : decode cX1_give 35 = .ok (.invokevirtual 35, 3) := by decide +kernel
theorem dX1_give_38 : decode cX1_give 38 = .ok (.pop, 1) := by decide +kernel
theorem dX1_give_39 : decode cX1_give 39 = .ok (.aload_n 0, 1) := by decide +kernel
theorem dX1_give_40 : decode cX1_give 40 = .ok (.invokevirtual 32, 3) := by decide +kernel
theorem dX1_give_43 : decode cX1_give 43 = .ok (.iload_n 3, 1) := by decide +kernel
theorem dX1_give_44 : decode cX1_give 44 = .ok (.ireturn, 1) := by decide +kernel
theorem dX2_init_0 : decode cX2_init 0 = .ok (.aload_n 0, 1) := by decide +kernel
theorem dX2_init_1 : decode cX2_init 1 = .ok (.iload_n 1, 1) := by decide +kernel
theorem dX2_init_2 : decode cX2_init 2 = .ok (.iload_n 2, 1) := by decide +kernel
theorem dX2_init_3 : decode cX2_init 3 = .ok (.invokespecial 1, 3) := by decide +kernel
theorem dX2_init_6 : decode cX2_init 6 = .ok (.return_, 1) := by decide +kernel
theorem dX2_put_0 : decode cX2_put 0 = .ok (.aload_n 0, 1) := by decide +kernel
theorem dX2_put_1 : decode cX2_put 1 = .ok (.invokevirtual 7, 3) := by decide +kernel
theorem dX2_put_4 : decode cX2_put 4 = .ok (.aload_n 0, 1) := by decide +kernel
theorem dX2_put_5 : decode cX2_put 5 = .ok (.dup, 1) := by decide +kernel
theorem dX2_put_6 : decode cX2_put 6 = .ok (.getfield 13, 3) := by decide +kernel
theorem dX2_put_9 : decode cX2_put 9 = .ok (.iconst 1, 1) := by decide +kernel
theorem dX2_put_10 : decode cX2_put 10 = .ok (.iadd, 1) := by decide +kernel
theorem dX2_put_11 : decode cX2_put 11 = .ok (.putfield 13, 3) := by decide +kernel
theorem dX2_put_14 : decode cX2_put 14 = .ok (.aload_n 0, 1) := by decide +kernel
theorem dX2_put_15 : decode cX2_put 15 = .ok (.iload_n 1, 1) := by decide +kernel
theorem dX2_put_16 : decode cX2_put 16 = .ok (.invokespecial 17, 3) := by decide +kernel
theorem dX2_put_19 : decode cX2_put 19 = .ok (.istore_n 2, 1) := by decide +kernel
theorem dX2_put_20 : decode cX2_put 20 = .ok (.aload_n 0, 1) := by decide +kernel
theorem dX2_put_21 : decode cX2_put 21 = .ok (.invokevirtual 21, 3) := by decide +kernel
theorem dX2_put_24 : decode cX2_put 24 = .ok (.iload_n 2, 1) := by decide +kernel
theorem dX2_put_25 : decode cX2_put 25 = .ok (.ireturn, 1) := by decide +kernel
theorem dX2_worth_0 : decode cX2_worth 0 = .ok (.aload_n 0, 1) := by decide +kernel
theorem dX2_worth_1 : decode cX2_worth 1 = .ok (.invokevirtual 7, 3) := by decide +kernel
theorem dX2_worth_4 : decode cX2_worth 4 = .ok (.aload_n 0, 1) := by decide +kernel
theorem dX2_worth_5 : decode cX2_worth 5 = .ok (.invokespecial 24, 3) := by decide +kernel
theorem dX2_worth_8 : decode cX2_worth 8 = .ok (.aload_n 0, 1) := by decide +kernel
theorem dX2_worth_9 : decode cX2_worth 9 = .ok (.getfield 13, 3) := by decide +kernel
theorem dX2_worth_12 : decode cX2_worth 12 = .ok (.iadd, 1) := by decide +kernel
theorem dX2_worth_13 : decode cX2_worth 13 = .ok (.istore_n 1, 1) := by decide +kernel
theorem dX2_worth_14 : decode cX2_worth 14 = .ok (.aload_n 0, 1) := by decide +kernel
theorem dX2_worth_15 : decode cX2_worth 15 = .ok (.invokevirtual 21, 3) := by decide +kernel
theorem dX2_worth_18 : decode cX2_worth 18 = .ok (.iload_n 1, 1) := by decide +kernel
theorem dX2_worth_19 : decode cX2_worth 19 = .ok (.ireturn, 1) := by decide +kernel
theorem dX3_init_0 : decode cX3_init 0 = .ok (.aload_n 0, 1) := by decide +kernel
theorem dX3_init_1 : decode cX3_init 1 = .ok (.iload_n 1, 1) := by decide +kernel
theorem dX3_init_2 : decode cX3_init 2 = .ok (.iload_n 2, 1) := by decide +kernel
theorem dX3_init_3 : decode cX3_init 3 = .ok (.invokespecial 3, 3) := by decide +kernel
theorem dX3_init_6 : decode cX3_init 6 = .ok (.return_, 1) := by decide +kernel
theorem dX3_put_0 : decode cX3_put 0 = .ok (.aload_n 0, 1) := by decide +kernel
theorem dX3_put_1 : decode cX3_put 1 = .ok (.invokevirtual 9, 3) := by decide +kernel
theorem dX3_put_4 : decode cX3_put 4 = .ok (.aload_n 0, 1) := by decide +kernel
theorem dX3_put_5 : decode cX3_put 5 = .ok (.iload_n 1, 1) := by decide +kernel
theorem dX3_put_6 : decode cX3_put 6 = .ok (.invokespecial 15, 3) := by decide +kernel
theorem dX3_put_9 : decode cX3_put 9 = .ok (.istore_n 2, 1) := by decide +kernel
theorem dX3_put_10 : decode cX3_put 10 = .ok (.iload_n 2, 1) := by decide +kernel
theorem dX3_put_11 : decode cX3_put 11 = .ok (.ifCond .ne 9, 3) := by decide +kernel
theorem dX3_put_14 : decode cX3_put 14 = .ok (.aload_n 0, 1) := by decide +kernel
theorem dX3_put_15 : decode cX3_put 15 = .ok (.iload_n 1, 1) := by decide +kernel
theorem dX3_put_16 : decode cX3_put 16 = .ok (.invokespecial 15, 3) := by decide +kernel
theorem dX3_put_19 : decode cX3_put 19 = .ok (.istore_n 2, 1) := by decide +kernel
theorem dX3_put_20 : decode cX3_put 20 = .ok (.aload_n 0, 1) := by decide +kernel
theorem dX3_put_21 : decode cX3_put 21 = .ok (.invokevirtual 19, 3) := by decide +kernel
theorem dX3_put_24 : decode cX3_put 24 = .ok (.iload_n 2, 1) := by decide +kernel
theorem dX3_put_25 : decode cX3_put 25 = .ok (.ireturn, 1) := by decide +kernel
theorem dX3_worth_0 : decode cX3_worth 0 = .ok (.aload_n 0, 1) := by decide +kernel
theorem dX3_worth_1 : decode cX3_worth 1 = .ok (.invokevirtual 9, 3) := by decide +kernel
theorem dX3_worth_4 : decode cX3_worth 4 = .ok (.iconst 2, 1) := by decide +kernel
theorem dX3_worth_5 : decode cX3_worth 5 = .ok (.aload_n 0, 1) := by decide +kernel
theorem dX3_worth_6 : decode cX3_worth 6 = .ok (.invokespecial 22, 3) := by decide +kernel
theorem dX3_worth_9 : decode cX3_worth 9 = .ok (.imul, 1) := by decide +kernel
theorem dX3_worth_10 : decode cX3_worth 10 = .ok (.istore_n 1, 1) := by decide +kernel
theorem dX3_worth_11 : decode cX3_worth 11 = .ok (.aload_n 0, 1) := by decide +kernel
theorem dX3_worth_12 : decode cX3_worth 12 = .ok (.invokevirtual 19, 3) := by decide +kernel
theorem dX3_worth_15 : decode cX3_worth 15 = .ok (.iload_n 1, 1) := by decide +kernel
theorem dX3_worth_16 : decode cX3_worth 16 = .ok (.ireturn, 1) := by decide +kernel
theorem dJ9_floorMod_7cf53_0 : decode cJ9_floorMod_7cf53 0 = .ok (.iload_n 0, 1) := by decide +kernel
theorem dJ9_floorMod_7cf53_1 : decode cJ9_floorMod_7cf53 1 = .ok (.iload_n 1, 1) := by decide +kernel
theorem dJ9_floorMod_7cf53_2 : decode cJ9_floorMod_7cf53 2 = .ok (.irem, 1) := by decide +kernel
theorem dJ9_floorMod_7cf53_3 : decode cJ9_floorMod_7cf53 3 = .ok (.istore_n 2, 1) := by decide +kernel
theorem dJ9_floorMod_7cf53_4 : decode cJ9_floorMod_7cf53 4 = .ok (.iload_n 0, 1) := by decide +kernel
theorem dJ9_floorMod_7cf53_5 : decode cJ9_floorMod_7cf53 5 = .ok (.iload_n 1, 1) := by decide +kernel
theorem dJ9_floorMod_7cf53_6 : decode cJ9_floorMod_7cf53 6 = .ok (.ixor, 1) := by decide +kernel
theorem dJ9_floorMod_7cf53_7 : decode cJ9_floorMod_7cf53 7 = .ok (.ifCond .ge 11, 3) := by decide +kernel
theorem dJ9_floorMod_7cf53_10 : decode cJ9_floorMod_7cf53 10 = .ok (.iload_n 2, 1) := by decide +kernel
theorem dJ9_floorMod_7cf53_11 : decode cJ9_floorMod_7cf53 11 = .ok (.ifCond .eq 7, 3) := by decide +kernel
theorem dJ9_floorMod_7cf53_14 : decode cJ9_floorMod_7cf53 14 = .ok (.iload_n 2, 1) := by decide +kernel
theorem dJ9_floorMod_7cf53_15 : decode cJ9_floorMod_7cf53 15 = .ok (.iload_n 1, 1) := by decide +kernel
theorem dJ9_floorMod_7cf53_16 : decode cJ9_floorMod_7cf53 16 = .ok (.iadd, 1) := by decide +kernel
theorem dJ9_floorMod_7cf53_17 : decode cJ9_floorMod_7cf53 17 = .ok (.ireturn, 1) := by decide +kernel
theorem dJ9_floorMod_7cf53_18 : decode cJ9_floorMod_7cf53 18 = .ok (.iload_n 2, 1) := by decide +kernel
theorem dJ9_floorMod_7cf53_19 : decode cJ9_floorMod_7cf53 19 = .ok (.ireturn, 1) := by decide +kernel
theorem dJ9_max_7cf53_0 : decode cJ9_max_7cf53 0 = .ok (.iload_n 0, 1) := by decide +kernel
theorem dJ9_max_7cf53_1 : decode cJ9_max_7cf53 1 = .ok (.iload_n 1, 1) := by decide +kernel
theorem dJ9_max_7cf53_2 : decode cJ9_max_7cf53 2 = .ok (.if_icmp .lt 7, 3) := by decide +kernel
theorem dJ9_max_7cf53_5 : decode cJ9_max_7cf53 5 = .ok (.iload_n 0, 1) := by decide +kernel
theorem dJ9_max_7cf53_6 : decode cJ9_max_7cf53 6 = .ok (.goto 4, 3) := by decide +kernel
theorem dJ9_max_7cf53_9 : decode cJ9_max_7cf53 9 = .ok (.iload_n 1, 1) := by decide +kernel
theorem dJ9_max_7cf53_10 : decode cJ9_max_7cf53 10 = .ok (.ireturn, 1) := by decide +kernel
theorem dJ9_min_7cf53_0 : decode cJ9_min_7cf53 0 = .ok (.iload_n 0, 1) := by decide +kernel
theorem dJ9_min_7cf53_1 : decode cJ9_min_7cf53 1 = .ok (.iload_n 1, 1) := by decide +kernel
theorem dJ9_min_7cf53_2 : decode cJ9_min_7cf53 2 = .ok (.if_icmp .gt 7, 3) := by decide +kernel
theorem dJ9_min_7cf53_5 : decode cJ9_min_7cf53 5 = .ok (.iload_n 0, 1) := by decide +kernel
theorem dJ9_min_7cf53_6 : decode cJ9_min_7cf53 6 = .ok (.goto 4, 3) := by decide +kernel
theorem dJ9_min_7cf53_9 : decode cJ9_min_7cf53 9 = .ok (.iload_n 1, 1) := by decide +kernel
theorem dJ9_min_7cf53_10 : decode cJ9_min_7cf53 10 = .ok (.ireturn, 1) := by decide +kernel
end
section
theorem dX4_init_0 : decode cX4_init 0 = .ok (.aload_n 0, 1) := by decide +kernel
theorem dX4_init_1 : decode cX4_init 1 = .ok (.invokespecial 1, 3) := by decide +kernel
theorem dX4_init_4 : decode cX4_init 4 = .ok (.aload_n 0, 1) := by decide +kernel
theorem dX4_init_5 : decode cX4_init 5 = .ok (.bipush 8, 2) := by decide +kernel
theorem dX4_init_7 : decode cX4_init 7 = .ok (.anewarray 9, 3) := by decide +kernel
theorem dX4_init_10 : decode cX4_init 10 = .ok (.putfield 11, 3) := by decide +kernel
theorem dX4_init_13 : decode cX4_init 13 = .ok (.aload_n 0, 1) := by decide +kernel
theorem dX4_init_14 : decode cX4_init 14 = .ok (.bipush 6, 2) := by decide +kernel
theorem dX4_init_16 : decode cX4_init 16 = .ok (.anewarray 15, 3) := by decide +kernel
theorem dX4_init_19 : decode cX4_init 19 = .ok (.putfield 17, 3) := by decide +kernel
theorem dX4_init_22 : decode cX4_init 22 = .ok (.aload_n 0, 1) := by decide +kernel
theorem dX4_init_23 : decode cX4_init 23 = .ok (.bipush 120, 2) := by decide +kernel
theorem dX4_init_25 : decode cX4_init 25 = .ok (.newarray .int, 2) := by decide +kernel
theorem dX4_init_27 : decode cX4_init 27 = .ok (.putfield 21, 3) := by decide +kernel
theorem dX4_init_30 : decode cX4_init 30 = .ok (.iconst 0, 1) := by decide +kernel
theorem dX4_init_31 : decode cX4_init 31 = .ok (.istore_n 1, 1) := by decide +kernel
theorem dX4_init_32 : decode cX4_init 32 = .ok (.iload_n 1, 1) := by decide +kernel
theorem dX4_init_33 : decode cX4_init 33 = .ok (.bipush 6, 2) := by decide +kernel
theorem dX4_init_35 : decode cX4_init 35 = .ok (.if_icmp .ge 22, 3) := by decide +kernel
theorem dX4_init_38 : decode cX4_init 38 = .ok (.aload_n 0, 1) := by decide +kernel
theorem dX4_init_39 : decode cX4_init 39 = .ok (.getfield 17, 3) := by decide +kernel
theorem dX4_init_42 : decode cX4_init 42 = .ok (.iload_n 1, 1) := by decide +kernel
theorem dX4_init_43 : decode cX4_init 43 = .ok (.new 15, 3) := by decide +kernel
theorem dX4_init_46 : decode cX4_init 46 = .ok (.dup, 1) := by decide +kernel
theorem dX4_init_47 : decode cX4_init 47 = .ok (.invokespecial 25, 3) := by decide +kernel
theorem dX4_init_50 : decode cX4_init 50 = .ok (.aastore, 1) := by decide +kernel
theorem dX4_init_51 : decode cX4_init 51 = .ok (.iinc 1 1, 3) := by decide +kernel
theorem dX4_init_54 : decode cX4_init 54 = .ok (.goto (-22), 3) := by decide +kernel
theorem dX4_init_57 : decode cX4_init 57 = .ok (.return_, 1) := by decide +kernel
theorem dX4_safe_0 : decode cX4_safe 0 = .ok (.iload_n 1, 1) := by decide +kernel
theorem dX4_safe_1 : decode cX4_safe 1 = .ok (.invokestatic 26, 3) := by decide +kernel
theorem dX4_safe_4 : decode cX4_safe 4 = .ok (.ifCond .eq 22, 3) := by decide +kernel
theorem dX4_safe_7 : decode cX4_safe 7 = .ok (.iload_n 2, 1) := by decide +kernel
theorem dX4_safe_8 : decode cX4_safe 8 = .ok (.ifCond .lt 18, 3) := by decide +kernel
theorem dX4_safe_11 : decode cX4_safe 11 = .ok (.iload_n 2, 1) := by decide +kernel
theorem dX4_safe_12 : decode cX4_safe 12 = .ok (.iconst 2, 1) := by decide +kernel
theorem dX4_safe_13 : decode cX4_safe 13 = .ok (.if_icmp .gt 13, 3) := by decide +kernel
theorem dX4_safe_16 : decode cX4_safe 16 = .ok (.iload_n 3, 1) := by decide +kernel
theorem dX4_safe_17 : decode cX4_safe 17 = .ok (.ifCond .lt 9, 3) := by decide +kernel
theorem dX4_safe_20 : decode cX4_safe 20 = .ok (.iload_n 3, 1) := by decide +kernel
theorem dX4_safe_21 : decode cX4_safe 21 = .ok (.ldc 30, 2) := by decide +kernel
theorem dX4_safe_23 : decode cX4_safe 23 = .ok (.if_icmp .le 5, 3) := by decide +kernel
theorem dX4_safe_26 : decode cX4_safe 26 = .ok (.iconst (-1), 1) := by decide +kernel
theorem dX4_safe_27 : decode cX4_safe 27 = .ok (.ireturn, 1) := by decide +kernel
theorem dX4_safe_28 : decode cX4_safe 28 = .ok (.aload_n 0, 1) := by decide +kernel
theorem dX4_safe_29 : decode cX4_safe 29 = .ok (.getfield 11, 3) := by decide +kernel
theorem dX4_safe_32 : decode cX4_safe 32 = .ok (.iload_n 1, 1) := by decide +kernel
theorem dX4_safe_33 : decode cX4_safe 33 = .ok (.iload_n 2, 1) := by decide +kernel
theorem dX4_safe_34 : decode cX4_safe 34 = .ok (.iload_n 3, 1) := by decide +kernel
theorem dX4_safe_35 : decode cX4_safe 35 = .ok (.invokestatic 31, 3) := by decide +kernel
theorem dX4_safe_38 : decode cX4_safe 38 = .ok (.aastore, 1) := by decide +kernel
theorem dX4_safe_39 : decode cX4_safe 39 = .ok (.iconst 1, 1) := by decide +kernel
theorem dX4_safe_40 : decode cX4_safe 40 = .ok (.ireturn, 1) := by decide +kernel
theorem dX4_share_0 : decode cX4_share 0 = .ok (.iload_n 1, 1) := by decide +kernel
theorem dX4_share_1 : decode cX4_share 1 = .ok (.invokestatic 26, 3) := by decide +kernel
theorem dX4_share_4 : decode cX4_share 4 = .ok (.ifCond .eq 10, 3) := by decide +kernel
theorem dX4_share_7 : decode cX4_share 7 = .ok (.iload_n 2, 1) := by decide +kernel
theorem dX4_share_8 : decode cX4_share 8 = .ok (.invokestatic 26, 3) := by decide +kernel
theorem dX4_share_11 : decode cX4_share 11 = .ok (.ifCond .ne 5, 3) := by decide +kernel
theorem dX4_share_14 : decode cX4_share 14 = .ok (.iconst (-1), 1) := by decide +kernel
theorem dX4_share_15 : decode cX4_share 15 = .ok (.ireturn, 1) := by decide +kernel
theorem dX4_share_16 : decode cX4_share 16 = .ok (.aload_n 0, 1) := by decide +kernel
theorem dX4_share_17 : decode cX4_share 17 = .ok (.getfield 11, 3) := by decide +kernel
theorem dX4_share_20 : decode cX4_share 20 = .ok (.iload_n 2, 1) := by decide +kernel
theorem dX4_share_21 : decode cX4_share 21 = .ok (.aload_n 0, 1) := by decide +kernel
theorem dX4_share_22 : decode cX4_share 22 = .ok (.getfield 11, 3) := by decide +kernel
theorem dX4_share_25 : decode cX4_share 25 = .ok (.iload_n 1, 1) := by decide +kernel
theorem dX4_share_26 : decode cX4_share 26 = .ok (.aaload, 1) := by decide +kernel
theorem dX4_share_27 : decode cX4_share 27 = .ok (.aastore, 1) := by decide +kernel
theorem dX4_share_28 : decode cX4_share 28 = .ok (.aload_n 0, 1) := by decide +kernel
theorem dX4_share_29 : decode cX4_share 29 = .ok (.getfield 11, 3) := by decide +kernel
theorem dX4_share_32 : decode cX4_share 32 = .ok (.iload_n 2, 1) := by decide +kernel
theorem dX4_share_33 : decode cX4_share 33 = .ok (.aaload, 1) := by decide +kernel
theorem dX4_share_34 : decode cX4_share 34 = .ok (.ifnonnull 7, 3) := by decide +kernel
theorem dX4_share_37 : decode cX4_share 37 = .ok (.iconst 0, 1) := by decide +kernel
theorem dX4_share_38 : decode cX4_share 38 = .ok (.goto 4, 3) := by decide +kernel
theorem dX4_share_41 : decode cX4_share 41 = .ok (.iconst 1, 1) := by decide +kernel
theorem dX4_share_42 : decode cX4_share 42 = .ok (.ireturn, 1) := by decide +kernel
theorem dX4_same_0 : decode cX4_same 0 = .ok (.iload_n 1, 1) := by decide +kernel
theorem dX4_same_1 : decode cX4_same 1 = .ok (.invokestatic 26, 3) := by decide +kernel
theorem dX4_same_4 : decode cX4_same 4 = .ok (.ifCond .eq 10, 3) := by decide +kernel
theorem dX4_same_7 : decode cX4_same 7 = .ok (.iload_n 2, 1) := by decide +kernel
theorem dX4_same_8 : decode cX4_same 8 = .ok (.invokestatic 26, 3) := by decide +kernel
theorem dX4_same_11 : decode cX4_same 11 = .ok (.ifCond .ne 5, 3) := by decide +kernel
theorem dX4_same_14 : decode cX4_same 14 = .ok (.iconst (-1), 1) := by decide +kernel
theorem dX4_same_15 : decode cX4_same 15 = .ok (.ireturn, 1) := by decide +kernel
theorem dX4_same_16 : decode cX4_same 16 = .ok (.aload_n 0, 1) := by decide +kernel
theorem dX4_same_17 : decode cX4_same 17 = .ok (.getfield 11, 3) := by decide +kernel
theorem dX4_same_20 : decode cX4_same 20 = .ok (.iload_n 1, 1) := by decide +kernel
theorem dX4_same_21 : decode cX4_same 21 = .ok (.aaload, 1) := by decide +kernel
theorem dX4_same_22 : decode cX4_same 22 = .ok (.aload_n 0, 1) := by decide +kernel
theorem dX4_same_23 : decode cX4_same 23 = .ok (.getfield 11, 3) := by decide +kernel
theorem dX4_same_26 : decode cX4_same 26 = .ok (.iload_n 2, 1) := by decide +kernel
theorem dX4_same_27 : decode cX4_same 27 = .ok (.aaload, 1) := by decide +kernel
theorem dX4_same_28 : decode cX4_same 28 = .ok (.if_acmp .ne 7, 3) := by decide +kernel
theorem dX4_same_31 : decode cX4_same 31 = .ok (.iconst 1, 1) := by decide +kernel
theorem dX4_same_32 : decode cX4_same 32 = .ok (.goto 4, 3) := by decide +kernel
theorem dX4_same_35 : decode cX4_same 35 = .ok (.iconst 0, 1) := by decide +kernel
theorem dX4_same_36 : decode cX4_same 36 = .ok (.ireturn, 1) := by decide +kernel
theorem dX4_step_0 : decode cX4_step 0 = .ok (.iload_n 1, 1) := by decide +kernel
theorem dX4_step_1 : decode cX4_step 1 = .ok (.invokestatic 35, 3) := by decide +kernel
theorem dX4_step_4 : decode cX4_step 4 = .ok (.ifCond .eq 13, 3) := by decide +kernel
theorem dX4_step_7 : decode cX4_step 7 = .ok (.iload_n 2, 1) := by decide +kernel
theorem dX4_step_8 : decode cX4_step 8 = .ok (.iload_n 3, 1) := by decide +kernel
theorem dX4_step_9 : decode cX4_step 9 = .ok (.iload 4, 2) := by decide +kernel
theorem dX4_step_11 : decode cX4_step 11 = .ok (.invokestatic 38, 3) := by decide +kernel
theorem dX4_step_14 : decode cX4_step 14 = .ok (.ifCond .ne 5, 3) := by decide +kernel
theorem dX4_step_17 : decode cX4_step 17 = .ok (.iconst (-1), 1) := by decide +kernel
theorem dX4_step_18 : decode cX4_step 18 = .ok (.ireturn, 1) := by decide +kernel
theorem dX4_step_19 : decode cX4_step 19 = .ok (.aload_n 0, 1) := by decide +kernel
theorem dX4_step_20 : decode cX4_step 20 = .ok (.getfield 17, 3) := by decide +kernel
theorem dX4_step_23 : decode cX4_step 23 = .ok (.iload_n 1, 1) := by decide +kernel
theorem dX4_step_24 : decode cX4_step 24 = .ok (.aaload, 1) := by decide +kernel
theorem dX4_step_25 : decode cX4_step 25 = .ok (.astore 5, 2) := by decide +kernel
theorem dX4_step_27 : decode cX4_step 27 = .ok (.aload 5, 2) := by decide +kernel
theorem dX4_step_29 : decode cX4_step 29 = .ok (.getfield 42, 3) := by decide +kernel
theorem dX4_step_32 : decode cX4_step 32 = .ok (.bipush 12, 2) := by decide +kernel
theorem dX4_step_34 : decode cX4_step 34 = .ok (.if_icmp .lt 6, 3) := by decide +kernel
theorem dX4_step_37 : decode cX4_step 37 = .ok (.bipush (-2), 2) := by decide +kernel
theorem dX4_step_39 : decode cX4_step 39 = .ok (.ireturn, 1) := by decide +kernel
theorem dX4_step_40 : decode cX4_step 40 = .ok (.aload 5, 2) := by decide +kernel
theorem dX4_step_42 : decode cX4_step 42 = .ok (.iload_n 2, 1) := by decide +kernel
theorem dX4_step_43 : decode cX4_step 43 = .ok (.iload_n 3, 1) := by decide +kernel
theorem dX4_step_44 : decode cX4_step 44 = .ok (.iload 4, 2) := by decide +kernel
theorem dX4_step_46 : decode cX4_step 46 = .ok (.invokevirtual 46, 3) := by decide +kernel
theorem dX4_step_49 : decode cX4_step 49 = .ok (.aload 5, 2) := by decide +kernel
theorem dX4_step_51 : decode cX4_step 51 = .ok (.getfield 42, 3) := by decide +kernel
theorem dX4_step_54 : decode cX4_step 54 = .ok (.ireturn, 1) := by decide +kernel
theorem dX4_clear_0 : decode cX4_clear 0 = .ok (.iload_n 1, 1) := by decide +kernel
theorem dX4_clear_1 : decode cX4_clear 1 = .ok (.invokestatic 35, 3) := by decide +kernel
theorem dX4_clear_4 : decode cX4_clear 4 = .ok (.ifCond .ne 5, 3) := by decide +kernel
theorem dX4_clear_7 : decode cX4_clear 7 = .ok (.iconst (-1), 1) := by decide +kernel
theorem dX4_clear_8 : decode cX4_clear 8 = .ok (.ireturn, 1) := by decide +kernel
theorem dX4_clear_9 : decode cX4_clear 9 = .ok (.aload_n 0, 1) := by decide +kernel
theorem dX4_clear_10 : decode cX4_clear 10 = .ok (.getfield 17, 3) := by decide +kernel
theorem dX4_clear_13 : decode cX4_clear 13 = .ok (.iload_n 1, 1) := by decide +kernel
theorem dX4_clear_14 : decode cX4_clear 14 = .ok (.aaload, 1) := by decide +kernel
theorem dX4_clear_15 : decode cX4_clear 15 = .ok (.getfield 42, 3) := by decide +kernel
theorem dX4_clear_18 : decode cX4_clear 18 = .ok (.istore_n 2, 1) := by decide +kernel
theorem dX4_clear_19 : decode cX4_clear 19 = .ok (.aload_n 0, 1) := by decide +kernel
theorem dX4_clear_20 : decode cX4_clear 20 = .ok (.getfield 17, 3) := by decide +kernel
theorem dX4_clear_23 : decode cX4_clear 23 = .ok (.iload_n 1, 1) := by decide +kernel
theorem dX4_clear_24 : decode cX4_clear 24 = .ok (.aaload, 1) := by decide +kernel
theorem dX4_clear_25 : decode cX4_clear 25 = .ok (.iconst 0, 1) := by decide +kernel
theorem dX4_clear_26 : decode cX4_clear 26 = .ok (.putfield 42, 3) := by decide +kernel
theorem dX4_clear_29 : decode cX4_clear 29 = .ok (.iload_n 2, 1) := by decide +kernel
theorem dX4_clear_30 : decode cX4_clear 30 = .ok (.ireturn, 1) := by decide +kernel
theorem dX4_run_0 : decode cX4_run 0 = .ok (.iload_n 1, 1) := by decide +kernel
theorem dX4_run_1 : decode cX4_run 1 = .ok (.invokestatic 35, 3) := by decide +kernel
theorem dX4_run_4 : decode cX4_run 4 = .ok (.ifCond .ne 5, 3) := by decide +kernel
theorem dX4_run_7 : decode cX4_run 7 = .ok (.iconst (-1), 1) := by decide +kernel
theorem dX4_run_8 : decode cX4_run 8 = .ok (.ireturn, 1) := by decide +kernel
theorem dX4_run_9 : decode cX4_run 9 = .ok (.aload_n 0, 1) := by decide +kernel
theorem dX4_run_10 : decode cX4_run 10 = .ok (.iload_n 2, 1) := by decide +kernel
theorem dX4_run_11 : decode cX4_run 11 = .ok (.putfield 50, 3) := by decide +kernel
theorem dX4_run_14 : decode cX4_run 14 = .ok (.aload_n 0, 1) := by decide +kernel
theorem dX4_run_15 : decode cX4_run 15 = .ok (.iconst 0, 1) := by decide +kernel
theorem dX4_run_16 : decode cX4_run 16 = .ok (.putfield 53, 3) := by decide +kernel
theorem dX4_run_19 : decode cX4_run 19 = .ok (.aload_n 0, 1) := by decide +kernel
theorem dX4_run_20 : decode cX4_run 20 = .ok (.iconst 0, 1) := by decide +kernel
theorem dX4_run_21 : decode cX4_run 21 = .ok (.putfield 56, 3) := by decide +kernel
theorem dX4_run_24 : decode cX4_run 24 = .ok (.aload_n 0, 1) := by decide +kernel
theorem dX4_run_25 : decode cX4_run 25 = .ok (.iconst 0, 1) := by decide +kernel
theorem dX4_run_26 : decode cX4_run 26 = .ok (.putfield 59, 3) := by decide +kernel
theorem dX4_run_29 : decode cX4_run 29 = .ok (.aload_n 0, 1) := by decide +kernel
theorem dX4_run_30 : decode cX4_run 30 = .ok (.aload_n 0, 1) := by decide +kernel
theorem dX4_run_31 : decode cX4_run 31 = .ok (.iload_n 1, 1) := by decide +kernel
theorem dX4_run_32 : decode cX4_run 32 = .ok (.invokevirtual 62, 3) := by decide +kernel
theorem dX4_run_35 : decode cX4_run 35 = .ok (.putfield 66, 3) := by decide +kernel
theorem dX4_run_38 : decode cX4_run 38 = .ok (.aload_n 0, 1) := by decide +kernel
theorem dX4_run_39 : decode cX4_run 39 = .ok (.getfield 66, 3) := by decide +kernel
theorem dX4_run_42 : decode cX4_run 42 = .ok (.ifCond .ne 7, 3) := by decide +kernel
theorem dX4_run_45 : decode cX4_run 45 = .ok (.iconst 1, 1) := by decide +kernel
theorem dX4_run_46 : decode cX4_run 46 = .ok (.goto 10, 3) := by decide +kernel
theorem dX4_run_49 : decode cX4_run 49 = .ok (.bipush (-10), 2) := by decide +kernel
theorem dX4_run_51 : decode cX4_run 51 = .ok (.aload_n 0, 1) := by decide +kernel
theorem dX4_run_52 : decode cX4_run 52 = .ok (.getfield 66, 3) := by decide +kernel
theorem dX4_run_55 : decode cX4_run 55 = .ok (.isub, 1) := by decide +kernel
theorem dX4_run_56 : decode cX4_run 56 = .ok (.ireturn, 1) := by decide +kernel
theorem dX4_value_0 : decode cX4_value 0 = .ok (.aload_n 0, 1) := by decide +kernel
theorem dX4_value_1 : decode cX4_value 1 = .ok (.getfield 50, 3) := by decide +kernel
theorem dX4_value_4 : decode cX4_value 4 = .ok (.ireturn, 1) := by decide +kernel
theorem dX4_trace_0 : decode cX4_trace 0 = .ok (.iload_n 1, 1) := by decide +kernel
theorem dX4_trace_1 : decode cX4_trace 1 = .ok (.iconst (-1), 1) := by decide +kernel
theorem dX4_trace_2 : decode cX4_trace 2 = .ok (.if_icmp .ne 8, 3) := by decide +kernel
theorem dX4_trace_5 : decode cX4_trace 5 = .ok (.aload_n 0, 1) := by decide +kernel
theorem dX4_trace_6 : decode cX4_trace 6 = .ok (.getfield 56, 3) := by decide +kernel
theorem dX4_trace_9 : decode cX4_trace 9 = .ok (.ireturn, 1) := by decide +kernel
theorem dX4_trace_10 : decode cX4_trace 10 = .ok (.iload_n 1, 1) := by decide +kernel
theorem dX4_trace_11 : decode cX4_trace 11 = .ok (.ifCond .lt 20, 3) := by decide +kernel
theorem dX4_trace_14 : decode cX4_trace 14 = .ok (.iload_n 1, 1) := by decide +kernel
theorem dX4_trace_15 : decode cX4_trace 15 = .ok (.aload_n 0, 1) := by decide +kernel
theorem dX4_trace_16 : decode cX4_trace 16 = .ok (.getfield 56, 3) := by decide +kernel
theorem dX4_trace_19 : decode cX4_trace 19 = .ok (.if_icmp .ge 12, 3) := by decide +kernel
theorem dX4_trace_22 : decode cX4_trace 22 = .ok (.aload_n 0, 1) := by decide +kernel
theorem dX4_trace_23 : decode cX4_trace 23 = .ok (.getfield 21, 3) := by decide +kernel
theorem dX4_trace_26 : decode cX4_trace 26 = .ok (.iload_n 1, 1) := by decide +kernel
theorem dX4_trace_27 : decode cX4_trace 27 = .ok (.iaload, 1) := by decide +kernel
theorem dX4_trace_28 : decode cX4_trace 28 = .ok (.goto 4, 3) := by decide +kernel
theorem dX4_trace_31 : decode cX4_trace 31 = .ok (.iconst (-1), 1) := by decide +kernel
theorem dX4_trace_32 : decode cX4_trace 32 = .ok (.ireturn, 1) := by decide +kernel
theorem dX4_told_0 : decode cX4_told 0 = .ok (.aload_n 0, 1) := by decide +kernel
theorem dX4_told_1 : decode cX4_told 1 = .ok (.iload_n 1, 1) := by decide +kernel
theorem dX4_told_2 : decode cX4_told 2 = .ok (.invokevirtual 69, 3) := by decide +kernel
theorem dX4_told_5 : decode cX4_told 5 = .ok (.astore_n 3, 1) := by decide +kernel
theorem dX4_told_6 : decode cX4_told 6 = .ok (.aload_n 3, 1) := by decide +kernel
theorem dX4_told_7 : decode cX4_told 7 = .ok (.ifnonnull 5, 3) := by decide +kernel
theorem dX4_told_10 : decode cX4_told 10 = .ok (.iconst (-1), 1) := by decide +kernel
theorem dX4_told_11 : decode cX4_told 11 = .ok (.ireturn, 1) := by decide +kernel
theorem dX4_told_12 : decode cX4_told 12 = .ok (.iload_n 2, 1) := by decide +kernel
theorem dX4_told_13 : decode cX4_told 13 = .ok (.tableswitch 69 0 5 #[39, 44, 49, 54, 59, 64], 39) := by decide +kernel
theorem dX4_told_52 : decode cX4_told 52 = .ok (.aload_n 3, 1) := by decide +kernel
theorem dX4_told_53 : decode cX4_told 53 = .ok (.getfield 73, 3) := by decide +kernel
theorem dX4_told_56 : decode cX4_told 56 = .ok (.ireturn, 1) := by decide +kernel
theorem dX4_told_57 : decode cX4_told 57 = .ok (.aload_n 3, 1) := by decide +kernel
theorem dX4_told_58 : decode cX4_told 58 = .ok (.getfield 76, 3) := by decide +kernel
theorem dX4_told_61 : decode cX4_told 61 = .ok (.ireturn, 1) := by decide +kernel
theorem dX4_told_62 : decode cX4_told 62 = .ok (.aload_n 3, 1) := by decide +kernel
theorem dX4_told_63 : decode cX4_told 63 = .ok (.getfield 79, 3) := by decide +kernel
theorem dX4_told_66 : decode cX4_told 66 = .ok (.ireturn, 1) := by decide +kernel
theorem dX4_told_67 : decode cX4_told 67 = .ok (.aload_n 3, 1) := by decide +kernel
theorem dX4_told_68 : decode cX4_told 68 = .ok (.getfield 82, 3) := by decide +kernel
theorem dX4_told_71 : decode cX4_told 71 = .ok (.ireturn, 1) := by decide +kernel
theorem dX4_told_72 : decode cX4_told 72 = .ok (.aload_n 3, 1) := by decide +kernel
theorem dX4_told_73 : decode cX4_told 73 = .ok (.getfield 85, 3) := by decide +kernel
theorem dX4_told_76 : decode cX4_told 76 = .ok (.ireturn, 1) := by decide +kernel
theorem dX4_told_77 : decode cX4_told 77 = .ok (.aload_n 3, 1) := by decide +kernel
theorem dX4_told_78 : decode cX4_told 78 = .ok (.getfield 88, 3) := by decide +kernel
theorem dX4_told_81 : decode cX4_told 81 = .ok (.ireturn, 1) := by decide +kernel
theorem dX4_told_82 : decode cX4_told 82 = .ok (.iconst (-1), 1) := by decide +kernel
theorem dX4_told_83 : decode cX4_told 83 = .ok (.ireturn, 1) := by decide +kernel
theorem dX4_count_0 : decode cX4_count 0 = .ok (.iload_n 1, 1) := by decide +kernel
theorem dX4_count_1 : decode cX4_count 1 = .ok (.tableswitch 51 0 3 #[31, 36, 41, 46], 31) := by decide +kernel
theorem dX4_count_32 : decode cX4_count 32 = .ok (.aload_n 0, 1) := by decide +kernel
theorem dX4_count_33 : decode cX4_count 33 = .ok (.getfield 53, 3) := by decide +kernel
theorem dX4_count_36 : decode cX4_count 36 = .ok (.ireturn, 1) := by decide +kernel
theorem dX4_count_37 : decode cX4_count 37 = .ok (.aload_n 0, 1) := by decide +kernel
theorem dX4_count_38 : decode cX4_count 38 = .ok (.getfield 66, 3) := by decide +kernel
theorem dX4_count_41 : decode cX4_count 41 = .ok (.ireturn, 1) := by decide +kernel
theorem dX4_count_42 : decode cX4_count 42 = .ok (.aload_n 0, 1) := by decide +kernel
theorem dX4_count_43 : decode cX4_count 43 = .ok (.getfield 59, 3) := by decide +kernel
theorem dX4_count_46 : decode cX4_count 46 = .ok (.ireturn, 1) := by decide +kernel
theorem dX4_count_47 : decode cX4_count 47 = .ok (.aload_n 0, 1) := by decide +kernel
theorem dX4_count_48 : decode cX4_count 48 = .ok (.invokevirtual 91, 3) := by decide +kernel
theorem dX4_count_51 : decode cX4_count 51 = .ok (.ireturn, 1) := by decide +kernel
theorem dX4_count_52 : decode cX4_count 52 = .ok (.iload_n 1, 1) := by decide +kernel
theorem dX4_count_53 : decode cX4_count 53 = .ok (.iconst 4, 1) := by decide +kernel
theorem dX4_count_54 : decode cX4_count 54 = .ok (.if_icmp .lt 26, 3) := by decide +kernel
theorem dX4_count_57 : decode cX4_count 57 = .ok (.iload_n 1, 1) := by decide +kernel
theorem dX4_count_58 : decode cX4_count 58 = .ok (.iconst 4, 1) := by decide +kernel
theorem dX4_count_59 : decode cX4_count 59 = .ok (.isub, 1) := by decide +kernel
theorem dX4_count_60 : decode cX4_count 60 = .ok (.invokestatic 35, 3) := by decide +kernel
theorem dX4_count_63 : decode cX4_count 63 = .ok (.ifCond .eq 17, 3) := by decide +kernel
theorem dX4_count_66 : decode cX4_count 66 = .ok (.aload_n 0, 1) := by decide +kernel
theorem dX4_count_67 : decode cX4_count 67 = .ok (.getfield 17, 3) := by decide +kernel
theorem dX4_count_70 : decode cX4_count 70 = .ok (.iload_n 1, 1) := by decide +kernel
theorem dX4_count_71 : decode cX4_count 71 = .ok (.iconst 4, 1) := by decide +kernel
theorem dX4_count_72 : decode cX4_count 72 = .ok (.isub, 1) := by decide +kernel
theorem dX4_count_73 : decode cX4_count 73 = .ok (.aaload, 1) := by decide +kernel
theorem dX4_count_74 : decode cX4_count 74 = .ok (.getfield 42, 3) := by decide +kernel
theorem dX4_count_77 : decode cX4_count 77 = .ok (.goto 4, 3) := by decide +kernel
theorem dX4_count_80 : decode cX4_count 80 = .ok (.iconst (-1), 1) := by decide +kernel
theorem dX4_count_81 : decode cX4_count 81 = .ok (.ireturn, 1) := by decide +kernel
theorem dX4_isRoom_0 : decode cX4_isRoom 0 = .ok (.iload_n 0, 1) := by decide +kernel
theorem dX4_isRoom_1 : decode cX4_isRoom 1 = .ok (.ifCond .lt 13, 3) := by decide +kernel
theorem dX4_isRoom_4 : decode cX4_isRoom 4 = .ok (.iload_n 0, 1) := by decide +kernel
theorem dX4_isRoom_5 : decode cX4_isRoom 5 = .ok (.bipush 8, 2) := by decide +kernel
theorem dX4_isRoom_7 : decode cX4_isRoom 7 = .ok (.if_icmp .ge 7, 3) := by decide +kernel
theorem dX4_isRoom_10 : decode cX4_isRoom 10 = .ok (.iconst 1, 1) := by decide +kernel
theorem dX4_isRoom_11 : decode cX4_isRoom 11 = .ok (.goto 4, 3) := by decide +kernel
theorem dX4_isRoom_14 : decode cX4_isRoom 14 = .ok (.iconst 0, 1) := by decide +kernel
theorem dX4_isRoom_15 : decode cX4_isRoom 15 = .ok (.ireturn, 1) := by decide +kernel
theorem dX4_isPlan_0 : decode cX4_isPlan 0 = .ok (.iload_n 0, 1) := by decide +kernel
theorem dX4_isPlan_1 : decode cX4_isPlan 1 = .ok (.ifCond .lt 13, 3) := by decide +kernel
theorem dX4_isPlan_4 : decode cX4_isPlan 4 = .ok (.iload_n 0, 1) := by decide +kernel
theorem dX4_isPlan_5 : decode cX4_isPlan 5 = .ok (.bipush 6, 2) := by decide +kernel
theorem dX4_isPlan_7 : decode cX4_isPlan 7 = .ok (.if_icmp .ge 7, 3) := by decide +kernel
theorem dX4_isPlan_10 : decode cX4_isPlan 10 = .ok (.iconst 1, 1) := by decide +kernel
theorem dX4_isPlan_11 : decode cX4_isPlan 11 = .ok (.goto 4, 3) := by decide +kernel
theorem dX4_isPlan_14 : decode cX4_isPlan 14 = .ok (.iconst 0, 1) := by decide +kernel
theorem dX4_isPlan_15 : decode cX4_isPlan 15 = .ok (.ireturn, 1) := by decide +kernel
theorem dX4_isBlock_0 : decode cX4_isBlock 0 = .ok (.iload_n 0, 1) := by decide +kernel
theorem dX4_isBlock_1 : decode cX4_isBlock 1 = .ok (.iconst 1, 1) := by decide +kernel
theorem dX4_isBlock_2 : decode cX4_isBlock 2 = .ok (.if_icmp .lt 13, 3) := by decide +kernel
theorem dX4_isBlock_5 : decode cX4_isBlock 5 = .ok (.iload_n 0, 1) := by decide +kernel
theorem dX4_isBlock_6 : decode cX4_isBlock 6 = .ok (.bipush 11, 2) := by decide +kernel
theorem dX4_isBlock_8 : decode cX4_isBlock 8 = .ok (.if_icmp .gt 7, 3) := by decide +kernel
theorem dX4_isBlock_11 : decode cX4_isBlock 11 = .ok (.iconst 1, 1) := by decide +kernel
theorem dX4_isBlock_12 : decode cX4_isBlock 12 = .ok (.goto 4, 3) := by decide +kernel
theorem dX4_isBlock_15 : decode cX4_isBlock 15 = .ok (.iconst 0, 1) := by decide +kernel
theorem dX4_isBlock_16 : decode cX4_isBlock 16 = .ok (.ireturn, 1) := by decide +kernel
theorem dX4_isOwnFailure_0 : decode cX4_isOwnFailure 0 = .ok (.iload_n 0, 1) := by decide +kernel
theorem dX4_isOwnFailure_1 : decode cX4_isOwnFailure 1 = .ok (.bipush 20, 2) := by decide +kernel
theorem dX4_isOwnFailure_3 : decode cX4_isOwnFailure 3 = .ok (.if_icmp .lt 13, 3) := by decide +kernel
theorem dX4_isOwnFailure_6 : decode cX4_isOwnFailure 6 = .ok (.iload_n 0, 1) := by decide +kernel
theorem dX4_isOwnFailure_7 : decode cX4_isOwnFailure 7 = .ok (.bipush 23, 2) := by decide +kernel
theorem dX4_isOwnFailure_9 : decode cX4_isOwnFailure 9 = .ok (.if_icmp .gt 7, 3) := by decide +kernel
theorem dX4_isOwnFailure_12 : decode cX4_isOwnFailure 12 = .ok (.iconst 1, 1) := by decide +kernel
theorem dX4_isOwnFailure_13 : decode cX4_isOwnFailure 13 = .ok (.goto 4, 3) := by decide +kernel
theorem dX4_isOwnFailure_16 : decode cX4_isOwnFailure 16 = .ok (.iconst 0, 1) := by decide +kernel
theorem dX4_isOwnFailure_17 : decode cX4_isOwnFailure 17 = .ok (.ireturn, 1) := by decide +kernel
theorem dX4_canBeHeld_0 : decode cX4_canBeHeld 0 = .ok (.iload_n 0, 1) := by decide +kernel
theorem dX4_canBeHeld_1 : decode cX4_canBeHeld 1 = .ok (.ifCond .eq 33, 3) := by decide +kernel
theorem dX4_canBeHeld_4 : decode cX4_canBeHeld 4 = .ok (.iload_n 0, 1) := by decide +kernel
theorem dX4_canBeHeld_5 : decode cX4_canBeHeld 5 = .ok (.iconst 1, 1) := by decide +kernel
theorem dX4_canBeHeld_6 : decode cX4_canBeHeld 6 = .ok (.if_icmp .eq 28, 3) := by decide +kernel
theorem dX4_canBeHeld_9 : decode cX4_canBeHeld 9 = .ok (.iload_n 0, 1) := by decide +kernel
theorem dX4_canBeHeld_10 : decode cX4_canBeHeld 10 = .ok (.bipush 6, 2) := by decide +kernel
theorem dX4_canBeHeld_12 : decode cX4_canBeHeld 12 = .ok (.if_icmp .eq 22, 3) := by decide +kernel
theorem dX4_canBeHeld_15 : decode cX4_canBeHeld 15 = .ok (.iload_n 0, 1) := by decide +kernel
theorem dX4_canBeHeld_16 : decode cX4_canBeHeld 16 = .ok (.bipush 7, 2) := by decide +kernel
theorem dX4_canBeHeld_18 : decode cX4_canBeHeld 18 = .ok (.if_icmp .eq 16, 3) := by decide +kernel
theorem dX4_canBeHeld_21 : decode cX4_canBeHeld 21 = .ok (.iload_n 0, 1) := by decide +kernel
theorem dX4_canBeHeld_22 : decode cX4_canBeHeld 22 = .ok (.bipush 30, 2) := by decide +kernel
theorem dX4_canBeHeld_24 : decode cX4_canBeHeld 24 = .ok (.if_icmp .eq 10, 3) := by decide +kernel
theorem dX4_canBeHeld_27 : decode cX4_canBeHeld 27 = .ok (.iload_n 0, 1) := by decide +kernel
theorem dX4_canBeHeld_28 : decode cX4_canBeHeld 28 = .ok (.invokestatic 95, 3) := by decide +kernel
theorem dX4_canBeHeld_31 : decode cX4_canBeHeld 31 = .ok (.ifCond .eq 7, 3) := by decide +kernel
theorem dX4_canBeHeld_34 : decode cX4_canBeHeld 34 = .ok (.iconst 1, 1) := by decide +kernel
theorem dX4_canBeHeld_35 : decode cX4_canBeHeld 35 = .ok (.goto 4, 3) := by decide +kernel
theorem dX4_canBeHeld_38 : decode cX4_canBeHeld 38 = .ok (.iconst 0, 1) := by decide +kernel
theorem dX4_canBeHeld_39 : decode cX4_canBeHeld 39 = .ok (.ireturn, 1) := by decide +kernel
theorem dX4_isStep_0 : decode cX4_isStep 0 = .ok (.iload_n 0, 1) := by decide +kernel
theorem dX4_isStep_1 : decode cX4_isStep 1 = .ok (.tableswitch 128 0 13 #[71, 91, 111, 111, 111, 111, 111, 111, 116, 118, 116, 116, 123, 111], 71) := by decide +kernel
theorem dX4_isStep_72 : decode cX4_isStep 72 = .ok (.iload_n 1, 1) := by decide +kernel
theorem dX4_isStep_73 : decode cX4_isStep 73 = .ok (.invokestatic 26, 3) := by decide +kernel
theorem dX4_isStep_76 : decode cX4_isStep 76 = .ok (.ifCond .eq 14, 3) := by decide +kernel
theorem dX4_isStep_79 : decode cX4_isStep 79 = .ok (.iload_n 2, 1) := by decide +kernel
theorem dX4_isStep_80 : decode cX4_isStep 80 = .ok (.invokestatic 98, 3) := by decide +kernel
theorem dX4_isStep_83 : decode cX4_isStep 83 = .ok (.ifCond .eq 7, 3) := by decide +kernel
theorem dX4_isStep_86 : decode cX4_isStep 86 = .ok (.iconst 1, 1) := by decide +kernel
theorem dX4_isStep_87 : decode cX4_isStep 87 = .ok (.goto 4, 3) := by decide +kernel
theorem dX4_isStep_90 : decode cX4_isStep 90 = .ok (.iconst 0, 1) := by decide +kernel
theorem dX4_isStep_91 : decode cX4_isStep 91 = .ok (.ireturn, 1) := by decide +kernel
theorem dX4_isStep_92 : decode cX4_isStep 92 = .ok (.iload_n 1, 1) := by decide +kernel
theorem dX4_isStep_93 : decode cX4_isStep 93 = .ok (.invokestatic 101, 3) := by decide +kernel
theorem dX4_isStep_96 : decode cX4_isStep 96 = .ok (.ifCond .eq 14, 3) := by decide +kernel
theorem dX4_isStep_99 : decode cX4_isStep 99 = .ok (.iload_n 2, 1) := by decide +kernel
theorem dX4_isStep_100 : decode cX4_isStep 100 = .ok (.invokestatic 98, 3) := by decide +kernel
theorem dX4_isStep_103 : decode cX4_isStep 103 = .ok (.ifCond .eq 7, 3) := by decide +kernel
theorem dX4_isStep_106 : decode cX4_isStep 106 = .ok (.iconst 1, 1) := by decide +kernel
theorem dX4_isStep_107 : decode cX4_isStep 107 = .ok (.goto 4, 3) := by decide +kernel
theorem dX4_isStep_110 : decode cX4_isStep 110 = .ok (.iconst 0, 1) := by decide +kernel
theorem dX4_isStep_111 : decode cX4_isStep 111 = .ok (.ireturn, 1) := by decide +kernel
theorem dX4_isStep_112 : decode cX4_isStep 112 = .ok (.iload_n 1, 1) := by decide +kernel
theorem dX4_isStep_113 : decode cX4_isStep 113 = .ok (.invokestatic 26, 3) := by decide +kernel
theorem dX4_isStep_116 : decode cX4_isStep 116 = .ok (.ireturn, 1) := by decide +kernel
theorem dX4_isStep_117 : decode cX4_isStep 117 = .ok (.iconst 1, 1) := by decide +kernel
theorem dX4_isStep_118 : decode cX4_isStep 118 = .ok (.ireturn, 1) := by decide +kernel
theorem dX4_isStep_119 : decode cX4_isStep 119 = .ok (.iload_n 1, 1) := by decide +kernel
theorem dX4_isStep_120 : decode cX4_isStep 120 = .ok (.invokestatic 95, 3) := by decide +kernel
theorem dX4_isStep_123 : decode cX4_isStep 123 = .ok (.ireturn, 1) := by decide +kernel
theorem dX4_isStep_124 : decode cX4_isStep 124 = .ok (.iload_n 1, 1) := by decide +kernel
theorem dX4_isStep_125 : decode cX4_isStep 125 = .ok (.invokestatic 35, 3) := by decide +kernel
theorem dX4_isStep_128 : decode cX4_isStep 128 = .ok (.ireturn, 1) := by decide +kernel
theorem dX4_isStep_129 : decode cX4_isStep 129 = .ok (.iconst 0, 1) := by decide +kernel
theorem dX4_isStep_130 : decode cX4_isStep 130 = .ok (.ireturn, 1) := by decide +kernel
theorem dX4_newSafe_0 : decode cX4_newSafe 0 = .ok (.iload_n 0, 1) := by decide +kernel
theorem dX4_newSafe_1 : decode cX4_newSafe 1 = .ok (.iconst 2, 1) := by decide +kernel
theorem dX4_newSafe_2 : decode cX4_newSafe 2 = .ok (.if_icmp .ne 13, 3) := by decide +kernel
theorem dX4_newSafe_5 : decode cX4_newSafe 5 = .ok (.new 104, 3) := by decide +kernel
theorem dX4_newSafe_8 : decode cX4_newSafe 8 = .ok (.dup, 1) := by decide +kernel
theorem dX4_newSafe_9 : decode cX4_newSafe 9 = .ok (.iconst 2, 1) := by decide +kernel
theorem dX4_newSafe_10 : decode cX4_newSafe 10 = .ok (.iload_n 1, 1) := by decide +kernel
theorem dX4_newSafe_11 : decode cX4_newSafe 11 = .ok (.invokespecial 106, 3) := by decide +kernel
theorem dX4_newSafe_14 : decode cX4_newSafe 14 = .ok (.areturn, 1) := by decide +kernel
theorem dX4_newSafe_15 : decode cX4_newSafe 15 = .ok (.iload_n 0, 1) := by decide +kernel
theorem dX4_newSafe_16 : decode cX4_newSafe 16 = .ok (.iconst 1, 1) := by decide +kernel
theorem dX4_newSafe_17 : decode cX4_newSafe 17 = .ok (.if_icmp .ne 15, 3) := by decide +kernel
theorem dX4_newSafe_20 : decode cX4_newSafe 20 = .ok (.new 109, 3) := by decide +kernel
theorem dX4_newSafe_23 : decode cX4_newSafe 23 = .ok (.dup, 1) := by decide +kernel
theorem dX4_newSafe_24 : decode cX4_newSafe 24 = .ok (.iconst 1, 1) := by decide +kernel
theorem dX4_newSafe_25 : decode cX4_newSafe 25 = .ok (.iload_n 1, 1) := by decide +kernel
theorem dX4_newSafe_26 : decode cX4_newSafe 26 = .ok (.invokespecial 111, 3) := by decide +kernel
theorem dX4_newSafe_29 : decode cX4_newSafe 29 = .ok (.goto 12, 3) := by decide +kernel
theorem dX4_newSafe_32 : decode cX4_newSafe 32 = .ok (.new 9, 3) := by decide +kernel
theorem dX4_newSafe_35 : decode cX4_newSafe 35 = .ok (.dup, 1) := by decide +kernel
theorem dX4_newSafe_36 : decode cX4_newSafe 36 = .ok (.iconst 0, 1) := by decide +kernel
theorem dX4_newSafe_37 : decode cX4_newSafe 37 = .ok (.iload_n 1, 1) := by decide +kernel
theorem dX4_newSafe_38 : decode cX4_newSafe 38 = .ok (.invokespecial 112, 3) := by decide +kernel
theorem dX4_newSafe_41 : decode cX4_newSafe 41 = .ok (.areturn, 1) := by decide +kernel
theorem dX4_safeIn_0 : decode cX4_safeIn 0 = .ok (.iload_n 1, 1) := by decide +kernel
theorem dX4_safeIn_1 : decode cX4_safeIn 1 = .ok (.invokestatic 26, 3) := by decide +kernel
theorem dX4_safeIn_4 : decode cX4_safeIn 4 = .ok (.ifCond .eq 12, 3) := by decide +kernel
theorem dX4_safeIn_7 : decode cX4_safeIn 7 = .ok (.aload_n 0, 1) := by decide +kernel
theorem dX4_safeIn_8 : decode cX4_safeIn 8 = .ok (.getfield 11, 3) := by decide +kernel
theorem dX4_safeIn_11 : decode cX4_safeIn 11 = .ok (.iload_n 1, 1) := by decide +kernel
theorem dX4_safeIn_12 : decode cX4_safeIn 12 = .ok (.aaload, 1) := by decide +kernel
theorem dX4_safeIn_13 : decode cX4_safeIn 13 = .ok (.goto 4, 3) := by decide +kernel
theorem dX4_safeIn_16 : decode cX4_safeIn 16 = .ok (.aconst_null, 1) := by decide +kernel
theorem dX4_safeIn_17 : decode cX4_safeIn 17 = .ok (.areturn, 1) := by decide +kernel
theorem dX4_setRoom_0 : decode cX4_setRoom 0 = .ok (.iload_n 1, 1) := by decide +kernel
theorem dX4_setRoom_1 : decode cX4_setRoom 1 = .ok (.invokestatic 26, 3) := by decide +kernel
theorem dX4_setRoom_4 : decode cX4_setRoom 4 = .ok (.ifCond .eq 10, 3) := by decide +kernel
theorem dX4_setRoom_7 : decode cX4_setRoom 7 = .ok (.aload_n 0, 1) := by decide +kernel
theorem dX4_setRoom_8 : decode cX4_setRoom 8 = .ok (.getfield 11, 3) := by decide +kernel
theorem dX4_setRoom_11 : decode cX4_setRoom 11 = .ok (.iload_n 1, 1) := by decide +kernel
theorem dX4_setRoom_12 : decode cX4_setRoom 12 = .ok (.aload_n 2, 1) := by decide +kernel
theorem dX4_setRoom_13 : decode cX4_setRoom 13 = .ok (.aastore, 1) := by decide +kernel
theorem dX4_setRoom_14 : decode cX4_setRoom 14 = .ok (.return_, 1) := by decide +kernel
end
section
theorem dX4_roomsWithSafe_0 : decode cX4_roomsWithSafe 0 = .ok (.iconst 0, 1) := by decide +kernel
theorem dX4_roomsWithSafe_1 : decode cX4_roomsWithSafe 1 = .ok (.istore_n 1, 1) := by decide +kernel
theorem dX4_roomsWithSafe_2 : decode cX4_roomsWithSafe 2 = .ok (.iconst 0, 1) := by decide +kernel
theorem dX4_roomsWithSafe_3 : decode cX4_roomsWithSafe 3 = .ok (.istore_n 2, 1) := by decide +kernel
theorem dX4_roomsWithSafe_4 : decode cX4_roomsWithSafe 4 = .ok (.iload_n 2, 1) := by decide +kernel
theorem dX4_roomsWithSafe_5 : decode cX4_roomsWithSafe 5 = .ok (.bipush 8, 2) := by decide +kernel
theorem dX4_roomsWithSafe_7 : decode cX4_roomsWithSafe 7 = .ok (.if_icmp .ge 21, 3) := by decide +kernel
theorem dX4_roomsWithSafe_10 : decode cX4_roomsWithSafe 10 = .ok (.aload_n 0, 1) := by decide +kernel
theorem dX4_roomsWithSafe_11 : decode cX4_roomsWithSafe 11 = .ok (.getfield 11, 3) := by decide +kernel
theorem dX4_roomsWithSafe_14 : decode cX4_roomsWithSafe 14 = .ok (.iload_n 2, 1) := by decide +kernel
theorem dX4_roomsWithSafe_15 : decode cX4_roomsWithSafe 15 = .ok (.aaload, 1) := by decide +kernel
theorem dX4_roomsWithSafe_16 : decode cX4_roomsWithSafe 16 = .ok (.ifnull 6, 3) := by decide +kernel
theorem dX4_roomsWithSafe_19 : decode cX4_roomsWithSafe 19 = .ok (.iinc 1 1, 3) := by decide +kernel
theorem dX4_roomsWithSafe_22 : decode cX4_roomsWithSafe 22 = .ok (.iinc 2 1, 3) := by decide +kernel
theorem dX4_roomsWithSafe_25 : decode cX4_roomsWithSafe 25 = .ok (.goto (-21), 3) := by decide +kernel
theorem dX4_roomsWithSafe_28 : decode cX4_roomsWithSafe 28 = .ok (.iload_n 1, 1) := by decide +kernel
theorem dX4_roomsWithSafe_29 : decode cX4_roomsWithSafe 29 = .ok (.ireturn, 1) := by decide +kernel
theorem dX4_leaveInTrace_0 : decode cX4_leaveInTrace 0 = .ok (.aload_n 0, 1) := by decide +kernel
theorem dX4_leaveInTrace_1 : decode cX4_leaveInTrace 1 = .ok (.getfield 56, 3) := by decide +kernel
theorem dX4_leaveInTrace_4 : decode cX4_leaveInTrace 4 = .ok (.bipush 120, 2) := by decide +kernel
theorem dX4_leaveInTrace_6 : decode cX4_leaveInTrace 6 = .ok (.if_icmp .ge 23, 3) := by decide +kernel
theorem dX4_leaveInTrace_9 : decode cX4_leaveInTrace 9 = .ok (.aload_n 0, 1) := by decide +kernel
theorem dX4_leaveInTrace_10 : decode cX4_leaveInTrace 10 = .ok (.getfield 21, 3) := by decide +kernel
theorem dX4_leaveInTrace_13 : decode cX4_leaveInTrace 13 = .ok (.aload_n 0, 1) := by decide +kernel
theorem dX4_leaveInTrace_14 : decode cX4_leaveInTrace 14 = .ok (.getfield 56, 3) := by decide +kernel
theorem dX4_leaveInTrace_17 : decode cX4_leaveInTrace 17 = .ok (.iload_n 1, 1) := by decide +kernel
theorem dX4_leaveInTrace_18 : decode cX4_leaveInTrace 18 = .ok (.iastore, 1) := by decide +kernel
theorem dX4_leaveInTrace_19 : decode cX4_leaveInTrace 19 = .ok (.aload_n 0, 1) := by decide +kernel
theorem dX4_leaveInTrace_20 : decode cX4_leaveInTrace 20 = .ok (.dup, 1) := by decide +kernel
theorem dX4_leaveInTrace_21 : decode cX4_leaveInTrace 21 = .ok (.getfield 56, 3) := by decide +kernel
theorem dX4_leaveInTrace_24 : decode cX4_leaveInTrace 24 = .ok (.iconst 1, 1) := by decide +kernel
theorem dX4_leaveInTrace_25 : decode cX4_leaveInTrace 25 = .ok (.iadd, 1) := by decide +kernel
theorem dX4_leaveInTrace_26 : decode cX4_leaveInTrace 26 = .ok (.putfield 56, 3) := by decide +kernel
theorem dX4_leaveInTrace_29 : decode cX4_leaveInTrace 29 = .ok (.return_, 1) := by decide +kernel
theorem dX4_doPlan_0 : decode cX4_doPlan 0 = .ok (.aload_n 0, 1) := by decide +kernel
theorem dX4_doPlan_1 : decode cX4_doPlan 1 = .ok (.getfield 113, 3) := by decide +kernel
theorem dX4_doPlan_4 : decode cX4_doPlan 4 = .ok (.iconst 4, 1) := by decide +kernel
theorem dX4_doPlan_5 : decode cX4_doPlan 5 = .ok (.if_icmp .ge 10, 3) := by decide +kernel
theorem dX4_doPlan_8 : decode cX4_doPlan 8 = .ok (.iload_n 1, 1) := by decide +kernel
theorem dX4_doPlan_9 : decode cX4_doPlan 9 = .ok (.invokestatic 35, 3) := by decide +kernel
theorem dX4_doPlan_12 : decode cX4_doPlan 12 = .ok (.ifCond .ne 6, 3) := by decide +kernel
theorem dX4_doPlan_15 : decode cX4_doPlan 15 = .ok (.bipush 7, 2) := by decide +kernel
theorem dX4_doPlan_17 : decode cX4_doPlan 17 = .ok (.ireturn, 1) := by decide +kernel
theorem dX4_doPlan_18 : decode cX4_doPlan 18 = .ok (.aload_n 0, 1) := by decide +kernel
theorem dX4_doPlan_19 : decode cX4_doPlan 19 = .ok (.dup, 1) := by decide +kernel
theorem dX4_doPlan_20 : decode cX4_doPlan 20 = .ok (.getfield 113, 3) := by decide +kernel
theorem dX4_doPlan_23 : decode cX4_doPlan 23 = .ok (.iconst 1, 1) := by decide +kernel
theorem dX4_doPlan_24 : decode cX4_doPlan 24 = .ok (.iadd, 1) := by decide +kernel
theorem dX4_doPlan_25 : decode cX4_doPlan 25 = .ok (.putfield 113, 3) := by decide +kernel
theorem dX4_doPlan_28 : decode cX4_doPlan 28 = .ok (.aload_n 0, 1) := by decide +kernel
theorem dX4_doPlan_29 : decode cX4_doPlan 29 = .ok (.aload_n 0, 1) := by decide +kernel
theorem dX4_doPlan_30 : decode cX4_doPlan 30 = .ok (.getfield 59, 3) := by decide +kernel
theorem dX4_doPlan_33 : decode cX4_doPlan 33 = .ok (.aload_n 0, 1) := by decide +kernel
theorem dX4_doPlan_34 : decode cX4_doPlan 34 = .ok (.getfield 113, 3) := by decide +kernel
theorem dX4_doPlan_37 : decode cX4_doPlan 37 = .ok (.invokestatic 116, 3) := by decide +kernel
theorem dX4_doPlan_40 : decode cX4_doPlan 40 = .ok (.putfield 59, 3) := by decide +kernel
theorem dX4_doPlan_43 : decode cX4_doPlan 43 = .ok (.aload_n 0, 1) := by decide +kernel
theorem dX4_doPlan_44 : decode cX4_doPlan 44 = .ok (.aload_n 0, 1) := by decide +kernel
theorem dX4_doPlan_45 : decode cX4_doPlan 45 = .ok (.getfield 17, 3) := by decide +kernel
theorem dX4_doPlan_48 : decode cX4_doPlan 48 = .ok (.iload_n 1, 1) := by decide +kernel
theorem dX4_doPlan_49 : decode cX4_doPlan 49 = .ok (.aaload, 1) := by decide +kernel
theorem dX4_doPlan_50 : decode cX4_doPlan 50 = .ok (.iconst 0, 1) := by decide +kernel
theorem dX4_doPlan_51 : decode cX4_doPlan 51 = .ok (.aload_n 0, 1) := by decide +kernel
theorem dX4_doPlan_52 : decode cX4_doPlan 52 = .ok (.getfield 17, 3) := by decide +kernel
theorem dX4_doPlan_55 : decode cX4_doPlan 55 = .ok (.iload_n 1, 1) := by decide +kernel
theorem dX4_doPlan_56 : decode cX4_doPlan 56 = .ok (.aaload, 1) := by decide +kernel
theorem dX4_doPlan_57 : decode cX4_doPlan 57 = .ok (.getfield 42, 3) := by decide +kernel
theorem dX4_doPlan_60 : decode cX4_doPlan 60 = .ok (.invokevirtual 122, 3) := by decide +kernel
theorem dX4_doPlan_63 : decode cX4_doPlan 63 = .ok (.istore_n 2, 1) := by decide +kernel
theorem dX4_doPlan_64 : decode cX4_doPlan 64 = .ok (.aload_n 0, 1) := by decide +kernel
theorem dX4_doPlan_65 : decode cX4_doPlan 65 = .ok (.dup, 1) := by decide +kernel
theorem dX4_doPlan_66 : decode cX4_doPlan 66 = .ok (.getfield 113, 3) := by decide +kernel
theorem dX4_doPlan_69 : decode cX4_doPlan 69 = .ok (.iconst 1, 1) := by decide +kernel
theorem dX4_doPlan_70 : decode cX4_doPlan 70 = .ok (.isub, 1) := by decide +kernel
theorem dX4_doPlan_71 : decode cX4_doPlan 71 = .ok (.putfield 113, 3) := by decide +kernel
theorem dX4_doPlan_74 : decode cX4_doPlan 74 = .ok (.iload_n 2, 1) := by decide +kernel
theorem dX4_doPlan_75 : decode cX4_doPlan 75 = .ok (.iconst (-1), 1) := by decide +kernel
theorem dX4_doPlan_76 : decode cX4_doPlan 76 = .ok (.if_icmp .ne 7, 3) := by decide +kernel
theorem dX4_doPlan_79 : decode cX4_doPlan 79 = .ok (.iconst 0, 1) := by decide +kernel
theorem dX4_doPlan_80 : decode cX4_doPlan 80 = .ok (.goto 4, 3) := by decide +kernel
theorem dX4_doPlan_83 : decode cX4_doPlan 83 = .ok (.iload_n 2, 1) := by decide +kernel
theorem dX4_doPlan_84 : decode cX4_doPlan 84 = .ok (.ireturn, 1) := by decide +kernel
theorem dX4_doSteps_0 : decode cX4_doSteps 0 = .ok (.iload_n 2, 1) := by decide +kernel
theorem dX4_doSteps_1 : decode cX4_doSteps 1 = .ok (.istore 4, 2) := by decide +kernel
theorem dX4_doSteps_3 : decode cX4_doSteps 3 = .ok (.iload_n 2, 1) := by decide +kernel
theorem dX4_doSteps_4 : decode cX4_doSteps 4 = .ok (.istore 5, 2) := by decide +kernel
theorem dX4_doSteps_6 : decode cX4_doSteps 6 = .ok (.iload 5, 2) := by decide +kernel
theorem dX4_doSteps_8 : decode cX4_doSteps 8 = .ok (.iload_n 3, 1) := by decide +kernel
theorem dX4_doSteps_9 : decode cX4_doSteps 9 = .ok (.if_icmp .ge 44, 3) := by decide +kernel
theorem dX4_doSteps_12 : decode cX4_doSteps 12 = .ok (.iload 5, 2) := by decide +kernel
theorem dX4_doSteps_14 : decode cX4_doSteps 14 = .ok (.iload 4, 2) := by decide +kernel
theorem dX4_doSteps_16 : decode cX4_doSteps 16 = .ok (.if_icmp .ne 31, 3) := by decide +kernel
theorem dX4_doSteps_19 : decode cX4_doSteps 19 = .ok (.aload_n 1, 1) := by decide +kernel
theorem dX4_doSteps_20 : decode cX4_doSteps 20 = .ok (.iload 5, 2) := by decide +kernel
theorem dX4_doSteps_22 : decode cX4_doSteps 22 = .ok (.iload_n 3, 1) := by decide +kernel
theorem dX4_doSteps_23 : decode cX4_doSteps 23 = .ok (.invokevirtual 126, 3) := by decide +kernel
theorem dX4_doSteps_26 : decode cX4_doSteps 26 = .ok (.istore 4, 2) := by decide +kernel
theorem dX4_doSteps_28 : decode cX4_doSteps 28 = .ok (.aload_n 0, 1) := by decide +kernel
theorem dX4_doSteps_29 : decode cX4_doSteps 29 = .ok (.aload_n 1, 1) := by decide +kernel
theorem dX4_doSteps_30 : decode cX4_doSteps 30 = .ok (.iload 5, 2) := by decide +kernel
theorem dX4_doSteps_32 : decode cX4_doSteps 32 = .ok (.iload 4, 2) := by decide +kernel
theorem dX4_doSteps_34 : decode cX4_doSteps 34 = .ok (.invokevirtual 129, 3) := by decide +kernel
theorem dX4_doSteps_37 : decode cX4_doSteps 37 = .ok (.istore 6, 2) := by decide +kernel
theorem dX4_doSteps_39 : decode cX4_doSteps 39 = .ok (.iload 6, 2) := by decide +kernel
theorem dX4_doSteps_41 : decode cX4_doSteps 41 = .ok (.ifCond .eq 6, 3) := by decide +kernel
theorem dX4_doSteps_44 : decode cX4_doSteps 44 = .ok (.iload 6, 2) := by decide +kernel
theorem dX4_doSteps_46 : decode cX4_doSteps 46 = .ok (.ireturn, 1) := by decide +kernel
theorem dX4_doSteps_47 : decode cX4_doSteps 47 = .ok (.iinc 5 1, 3) := by decide +kernel
theorem dX4_doSteps_50 : decode cX4_doSteps 50 = .ok (.goto (-44), 3) := by decide +kernel
theorem dX4_doSteps_53 : decode cX4_doSteps 53 = .ok (.iconst 0, 1) := by decide +kernel
theorem dX4_doSteps_54 : decode cX4_doSteps 54 = .ok (.ireturn, 1) := by decide +kernel
theorem dX4_doStep_0 : decode cX4_doStep 0 = .ok (.aload_n 0, 1) := by decide +kernel
theorem dX4_doStep_1 : decode cX4_doStep 1 = .ok (.getfield 53, 3) := by decide +kernel
theorem dX4_doStep_4 : decode cX4_doStep 4 = .ok (.sipush 200, 3) := by decide +kernel
theorem dX4_doStep_7 : decode cX4_doStep 7 = .ok (.if_icmp .lt 6, 3) := by decide +kernel
theorem dX4_doStep_10 : decode cX4_doStep 10 = .ok (.bipush 40, 2) := by decide +kernel
theorem dX4_doStep_12 : decode cX4_doStep 12 = .ok (.ireturn, 1) := by decide +kernel
theorem dX4_doStep_13 : decode cX4_doStep 13 = .ok (.aload_n 0, 1) := by decide +kernel
theorem dX4_doStep_14 : decode cX4_doStep 14 = .ok (.dup, 1) := by decide +kernel
theorem dX4_doStep_15 : decode cX4_doStep 15 = .ok (.getfield 53, 3) := by decide +kernel
theorem dX4_doStep_18 : decode cX4_doStep 18 = .ok (.iconst 1, 1) := by decide +kernel
theorem dX4_doStep_19 : decode cX4_doStep 19 = .ok (.iadd, 1) := by decide +kernel
theorem dX4_doStep_20 : decode cX4_doStep 20 = .ok (.putfield 53, 3) := by decide +kernel
theorem dX4_doStep_23 : decode cX4_doStep 23 = .ok (.aload_n 1, 1) := by decide +kernel
theorem dX4_doStep_24 : decode cX4_doStep 24 = .ok (.getfield 132, 3) := by decide +kernel
theorem dX4_doStep_27 : decode cX4_doStep 27 = .ok (.iload_n 2, 1) := by decide +kernel
theorem dX4_doStep_28 : decode cX4_doStep 28 = .ok (.iaload, 1) := by decide +kernel
theorem dX4_doStep_29 : decode cX4_doStep 29 = .ok (.istore 4, 2) := by decide +kernel
theorem dX4_doStep_31 : decode cX4_doStep 31 = .ok (.aload_n 1, 1) := by decide +kernel
theorem dX4_doStep_32 : decode cX4_doStep 32 = .ok (.getfield 135, 3) := by decide +kernel
theorem dX4_doStep_35 : decode cX4_doStep 35 = .ok (.iload_n 2, 1) := by decide +kernel
theorem dX4_doStep_36 : decode cX4_doStep 36 = .ok (.iaload, 1) := by decide +kernel
theorem dX4_doStep_37 : decode cX4_doStep 37 = .ok (.istore 5, 2) := by decide +kernel
theorem dX4_doStep_39 : decode cX4_doStep 39 = .ok (.aload_n 0, 1) := by decide +kernel
theorem dX4_doStep_40 : decode cX4_doStep 40 = .ok (.bipush 100, 2) := by decide +kernel
theorem dX4_doStep_42 : decode cX4_doStep 42 = .ok (.iload 4, 2) := by decide +kernel
theorem dX4_doStep_44 : decode cX4_doStep 44 = .ok (.iadd, 1) := by decide +kernel
theorem dX4_doStep_45 : decode cX4_doStep 45 = .ok (.invokevirtual 138, 3) := by decide +kernel
theorem dX4_doStep_48 : decode cX4_doStep 48 = .ok (.iload 4, 2) := by decide +kernel
theorem dX4_doStep_50 : decode cX4_doStep 50 = .ok (.tableswitch 129 0 13 #[70, 86, 129, 129, 129, 114, 114, 129, 105, 105, 105, 105, 98, 114], 70) := by decide +kernel
theorem dX4_doStep_120 : decode cX4_doStep 120 = .ok (.aload_n 0, 1) := by decide +kernel
theorem dX4_doStep_121 : decode cX4_doStep 121 = .ok (.aload_n 0, 1) := by decide +kernel
theorem dX4_doStep_122 : decode cX4_doStep 122 = .ok (.iload 5, 2) := by decide +kernel
theorem dX4_doStep_124 : decode cX4_doStep 124 = .ok (.invokevirtual 69, 3) := by decide +kernel
theorem dX4_doStep_127 : decode cX4_doStep 127 = .ok (.aload_n 1, 1) := by decide +kernel
theorem dX4_doStep_128 : decode cX4_doStep 128 = .ok (.iload_n 2, 1) := by decide +kernel
theorem dX4_doStep_129 : decode cX4_doStep 129 = .ok (.iconst 1, 1) := by decide +kernel
theorem dX4_doStep_130 : decode cX4_doStep 130 = .ok (.iadd, 1) := by decide +kernel
theorem dX4_doStep_131 : decode cX4_doStep 131 = .ok (.iload_n 3, 1) := by decide +kernel
theorem dX4_doStep_132 : decode cX4_doStep 132 = .ok (.invokevirtual 142, 3) := by decide +kernel
theorem dX4_doStep_135 : decode cX4_doStep 135 = .ok (.ireturn, 1) := by decide +kernel
theorem dX4_doStep_136 : decode cX4_doStep 136 = .ok (.aload_n 0, 1) := by decide +kernel
theorem dX4_doStep_137 : decode cX4_doStep 137 = .ok (.iload 5, 2) := by decide +kernel
theorem dX4_doStep_139 : decode cX4_doStep 139 = .ok (.aload_n 1, 1) := by decide +kernel
theorem dX4_doStep_140 : decode cX4_doStep 140 = .ok (.iload_n 2, 1) := by decide +kernel
theorem dX4_doStep_141 : decode cX4_doStep 141 = .ok (.iconst 1, 1) := by decide +kernel
theorem dX4_doStep_142 : decode cX4_doStep 142 = .ok (.iadd, 1) := by decide +kernel
theorem dX4_doStep_143 : decode cX4_doStep 143 = .ok (.iload_n 3, 1) := by decide +kernel
theorem dX4_doStep_144 : decode cX4_doStep 144 = .ok (.invokevirtual 146, 3) := by decide +kernel
theorem dX4_doStep_147 : decode cX4_doStep 147 = .ok (.ireturn, 1) := by decide +kernel
theorem dX4_doStep_148 : decode cX4_doStep 148 = .ok (.aload_n 0, 1) := by decide +kernel
theorem dX4_doStep_149 : decode cX4_doStep 149 = .ok (.iload 5, 2) := by decide +kernel
theorem dX4_doStep_151 : decode cX4_doStep 151 = .ok (.invokevirtual 62, 3) := by decide +kernel
theorem dX4_doStep_154 : decode cX4_doStep 154 = .ok (.ireturn, 1) := by decide +kernel
theorem dX4_doStep_155 : decode cX4_doStep 155 = .ok (.aload_n 0, 1) := by decide +kernel
theorem dX4_doStep_156 : decode cX4_doStep 156 = .ok (.iload 4, 2) := by decide +kernel
theorem dX4_doStep_158 : decode cX4_doStep 158 = .ok (.iload 5, 2) := by decide +kernel
theorem dX4_doStep_160 : decode cX4_doStep 160 = .ok (.invokevirtual 150, 3) := by decide +kernel
theorem dX4_doStep_163 : decode cX4_doStep 163 = .ok (.ireturn, 1) := by decide +kernel
theorem dX4_doStep_164 : decode cX4_doStep 164 = .ok (.aload_n 0, 1) := by decide +kernel
theorem dX4_doStep_165 : decode cX4_doStep 165 = .ok (.iload 4, 2) := by decide +kernel
theorem dX4_doStep_167 : decode cX4_doStep 167 = .ok (.iload 5, 2) := by decide +kernel
theorem dX4_doStep_169 : decode cX4_doStep 169 = .ok (.aload_n 1, 1) := by decide +kernel
theorem dX4_doStep_170 : decode cX4_doStep 170 = .ok (.getfield 153, 3) := by decide +kernel
theorem dX4_doStep_173 : decode cX4_doStep 173 = .ok (.iload_n 2, 1) := by decide +kernel
theorem dX4_doStep_174 : decode cX4_doStep 174 = .ok (.iaload, 1) := by decide +kernel
theorem dX4_doStep_175 : decode cX4_doStep 175 = .ok (.invokevirtual 156, 3) := by decide +kernel
theorem dX4_doStep_178 : decode cX4_doStep 178 = .ok (.ireturn, 1) := by decide +kernel
theorem dX4_doStep_179 : decode cX4_doStep 179 = .ok (.aload_n 0, 1) := by decide +kernel
theorem dX4_doStep_180 : decode cX4_doStep 180 = .ok (.iload 4, 2) := by decide +kernel
theorem dX4_doStep_182 : decode cX4_doStep 182 = .ok (.aload_n 0, 1) := by decide +kernel
theorem dX4_doStep_183 : decode cX4_doStep 183 = .ok (.iload 5, 2) := by decide +kernel
theorem dX4_doStep_185 : decode cX4_doStep 185 = .ok (.invokevirtual 69, 3) := by decide +kernel
theorem dX4_doStep_188 : decode cX4_doStep 188 = .ok (.aload_n 1, 1) := by decide +kernel
theorem dX4_doStep_189 : decode cX4_doStep 189 = .ok (.getfield 153, 3) := by decide +kernel
theorem dX4_doStep_192 : decode cX4_doStep 192 = .ok (.iload_n 2, 1) := by decide +kernel
theorem dX4_doStep_193 : decode cX4_doStep 193 = .ok (.iaload, 1) := by decide +kernel
theorem dX4_doStep_194 : decode cX4_doStep 194 = .ok (.invokevirtual 160, 3) := by decide +kernel
theorem dX4_doStep_197 : decode cX4_doStep 197 = .ok (.ireturn, 1) := by decide +kernel
theorem dX4_doInside_0 : decode cX4_doInside 0 = .ok (.aload_n 1, 1) := by decide +kernel
theorem dX4_doInside_1 : decode cX4_doInside 1 = .ok (.ifnonnull 5, 3) := by decide +kernel
theorem dX4_doInside_4 : decode cX4_doInside 4 = .ok (.iconst 1, 1) := by decide +kernel
theorem dX4_doInside_5 : decode cX4_doInside 5 = .ok (.ireturn, 1) := by decide +kernel
theorem dX4_doInside_6 : decode cX4_doInside 6 = .ok (.aload_n 1, 1) := by decide +kernel
theorem dX4_doInside_7 : decode cX4_doInside 7 = .ok (.invokevirtual 164, 3) := by decide +kernel
theorem dX4_doInside_10 : decode cX4_doInside 10 = .ok (.aload_n 0, 1) := by decide +kernel
theorem dX4_doInside_11 : decode cX4_doInside 11 = .ok (.iconst 1, 1) := by decide +kernel
theorem dX4_doInside_12 : decode cX4_doInside 12 = .ok (.invokevirtual 138, 3) := by decide +kernel
theorem dX4_doInside_15 : decode cX4_doInside 15 = .ok (.aload_n 0, 1) := by decide +kernel
theorem dX4_doInside_16 : decode cX4_doInside 16 = .ok (.aload_n 2, 1) := by decide +kernel
theorem dX4_doInside_17 : decode cX4_doInside 17 = .ok (.iload_n 3, 1) := by decide +kernel
theorem dX4_doInside_18 : decode cX4_doInside 18 = .ok (.iload 4, 2) := by decide +kernel
theorem dX4_doInside_20 : decode cX4_doInside 20 = .ok (.invokevirtual 122, 3) := by decide +kernel
theorem dX4_doInside_23 : decode cX4_doInside 23 = .ok (.istore 5, 2) := by decide +kernel
theorem dX4_doInside_25 : decode cX4_doInside 25 = .ok (.aload_n 1, 1) := by decide +kernel
theorem dX4_doInside_26 : decode cX4_doInside 26 = .ok (.invokevirtual 167, 3) := by decide +kernel
theorem dX4_doInside_29 : decode cX4_doInside 29 = .ok (.aload_n 0, 1) := by decide +kernel
theorem dX4_doInside_30 : decode cX4_doInside 30 = .ok (.iconst 2, 1) := by decide +kernel
theorem dX4_doInside_31 : decode cX4_doInside 31 = .ok (.invokevirtual 138, 3) := by decide +kernel
theorem dX4_doInside_34 : decode cX4_doInside 34 = .ok (.iload 5, 2) := by decide +kernel
theorem dX4_doInside_36 : decode cX4_doInside 36 = .ok (.ireturn, 1) := by decide +kernel
theorem dX4_doTry_0 : decode cX4_doTry 0 = .ok (.aload_n 0, 1) := by decide +kernel
theorem dX4_doTry_1 : decode cX4_doTry 1 = .ok (.aload_n 2, 1) := by decide +kernel
theorem dX4_doTry_2 : decode cX4_doTry 2 = .ok (.iload_n 3, 1) := by decide +kernel
theorem dX4_doTry_3 : decode cX4_doTry 3 = .ok (.iload 4, 2) := by decide +kernel
theorem dX4_doTry_5 : decode cX4_doTry 5 = .ok (.invokevirtual 122, 3) := by decide +kernel
theorem dX4_doTry_8 : decode cX4_doTry 8 = .ok (.istore 5, 2) := by decide +kernel
theorem dX4_doTry_10 : decode cX4_doTry 10 = .ok (.iload 5, 2) := by decide +kernel
theorem dX4_doTry_12 : decode cX4_doTry 12 = .ok (.ifCond .eq 16, 3) := by decide +kernel
theorem dX4_doTry_15 : decode cX4_doTry 15 = .ok (.iload 5, 2) := by decide +kernel
theorem dX4_doTry_17 : decode cX4_doTry 17 = .ok (.iconst (-1), 1) := by decide +kernel
theorem dX4_doTry_18 : decode cX4_doTry 18 = .ok (.if_icmp .eq 10, 3) := by decide +kernel
theorem dX4_doTry_21 : decode cX4_doTry 21 = .ok (.iload 5, 2) := by decide +kernel
theorem dX4_doTry_23 : decode cX4_doTry 23 = .ok (.bipush 40, 2) := by decide +kernel
theorem dX4_doTry_25 : decode cX4_doTry 25 = .ok (.if_icmp .ne 6, 3) := by decide +kernel
theorem dX4_doTry_28 : decode cX4_doTry 28 = .ok (.iload 5, 2) := by decide +kernel
theorem dX4_doTry_30 : decode cX4_doTry 30 = .ok (.ireturn, 1) := by decide +kernel
theorem dX4_doTry_31 : decode cX4_doTry 31 = .ok (.iload_n 1, 1) := by decide +kernel
theorem dX4_doTry_32 : decode cX4_doTry 32 = .ok (.ifCond .eq 12, 3) := by decide +kernel
theorem dX4_doTry_35 : decode cX4_doTry 35 = .ok (.iload_n 1, 1) := by decide +kernel
theorem dX4_doTry_36 : decode cX4_doTry 36 = .ok (.iload 5, 2) := by decide +kernel
theorem dX4_doTry_38 : decode cX4_doTry 38 = .ok (.if_icmp .eq 6, 3) := by decide +kernel
theorem dX4_doTry_41 : decode cX4_doTry 41 = .ok (.iload 5, 2) := by decide +kernel
theorem dX4_doTry_43 : decode cX4_doTry 43 = .ok (.ireturn, 1) := by decide +kernel
theorem dX4_doTry_44 : decode cX4_doTry 44 = .ok (.aload_n 0, 1) := by decide +kernel
theorem dX4_doTry_45 : decode cX4_doTry 45 = .ok (.iload 5, 2) := by decide +kernel
theorem dX4_doTry_47 : decode cX4_doTry 47 = .ok (.putfield 50, 3) := by decide +kernel
theorem dX4_doTry_50 : decode cX4_doTry 50 = .ok (.iconst 0, 1) := by decide +kernel
theorem dX4_doTry_51 : decode cX4_doTry 51 = .ok (.ireturn, 1) := by decide +kernel
theorem dX4_doWithValue_0 : decode cX4_doWithValue 0 = .ok (.iload_n 1, 1) := by decide +kernel
theorem dX4_doWithValue_1 : decode cX4_doWithValue 1 = .ok (.tableswitch 55 8 10 #[27, 46, 48], 27) := by decide +kernel
theorem dX4_doWithValue_28 : decode cX4_doWithValue 28 = .ok (.iload_n 2, 1) := by decide +kernel
theorem dX4_doWithValue_29 : decode cX4_doWithValue 29 = .ok (.ifCond .ne 6, 3) := by decide +kernel
theorem dX4_doWithValue_32 : decode cX4_doWithValue 32 = .ok (.bipush 6, 2) := by decide +kernel
theorem dX4_doWithValue_34 : decode cX4_doWithValue 34 = .ok (.ireturn, 1) := by decide +kernel
theorem dX4_doWithValue_35 : decode cX4_doWithValue 35 = .ok (.aload_n 0, 1) := by decide +kernel
theorem dX4_doWithValue_36 : decode cX4_doWithValue 36 = .ok (.dup, 1) := by decide +kernel
theorem dX4_doWithValue_37 : decode cX4_doWithValue 37 = .ok (.getfield 50, 3) := by decide +kernel
theorem dX4_doWithValue_40 : decode cX4_doWithValue 40 = .ok (.iload_n 2, 1) := by decide +kernel
theorem dX4_doWithValue_41 : decode cX4_doWithValue 41 = .ok (.idiv, 1) := by decide +kernel
theorem dX4_doWithValue_42 : decode cX4_doWithValue 42 = .ok (.putfield 50, 3) := by decide +kernel
theorem dX4_doWithValue_45 : decode cX4_doWithValue 45 = .ok (.iconst 0, 1) := by decide +kernel
theorem dX4_doWithValue_46 : decode cX4_doWithValue 46 = .ok (.ireturn, 1) := by decide +kernel
theorem dX4_doWithValue_47 : decode cX4_doWithValue 47 = .ok (.iload_n 2, 1) := by decide +kernel
theorem dX4_doWithValue_48 : decode cX4_doWithValue 48 = .ok (.ireturn, 1) := by decide +kernel
theorem dX4_doWithValue_49 : decode cX4_doWithValue 49 = .ok (.aload_n 0, 1) := by decide +kernel
theorem dX4_doWithValue_50 : decode cX4_doWithValue 50 = .ok (.iload_n 2, 1) := by decide +kernel
theorem dX4_doWithValue_51 : decode cX4_doWithValue 51 = .ok (.putfield 50, 3) := by decide +kernel
theorem dX4_doWithValue_54 : decode cX4_doWithValue 54 = .ok (.iconst (-1), 1) := by decide +kernel
theorem dX4_doWithValue_55 : decode cX4_doWithValue 55 = .ok (.ireturn, 1) := by decide +kernel
theorem dX4_doWithValue_56 : decode cX4_doWithValue 56 = .ok (.aload_n 0, 1) := by decide +kernel
theorem dX4_doWithValue_57 : decode cX4_doWithValue 57 = .ok (.dup, 1) := by decide +kernel
theorem dX4_doWithValue_58 : decode cX4_doWithValue 58 = .ok (.getfield 50, 3) := by decide +kernel
theorem dX4_doWithValue_61 : decode cX4_doWithValue 61 = .ok (.iload_n 2, 1) := by decide +kernel
theorem dX4_doWithValue_62 : decode cX4_doWithValue 62 = .ok (.iadd, 1) := by decide +kernel
theorem dX4_doWithValue_63 : decode cX4_doWithValue 63 = .ok (.putfield 50, 3) := by decide +kernel
theorem dX4_doWithValue_66 : decode cX4_doWithValue 66 = .ok (.iconst 0, 1) := by decide +kernel
theorem dX4_doWithValue_67 : decode cX4_doWithValue 67 = .ok (.ireturn, 1) := by decide +kernel
theorem dX4_doWithRooms_0 : decode cX4_doWithRooms 0 = .ok (.iload_n 1, 1) := by decide +kernel
theorem dX4_doWithRooms_1 : decode cX4_doWithRooms 1 = .ok (.lookupswitch 54 #[(5, 27), (6, 45)], 27) := by decide +kernel
theorem dX4_doWithRooms_28 : decode cX4_doWithRooms 28 = .ok (.aload_n 0, 1) := by decide +kernel
theorem dX4_doWithRooms_29 : decode cX4_doWithRooms 29 = .ok (.iload_n 2, 1) := by decide +kernel
theorem dX4_doWithRooms_30 : decode cX4_doWithRooms 30 = .ok (.aload_n 0, 1) := by decide +kernel
theorem dX4_doWithRooms_31 : decode cX4_doWithRooms 31 = .ok (.iload_n 3, 1) := by decide +kernel
theorem dX4_doWithRooms_32 : decode cX4_doWithRooms 32 = .ok (.bipush 8, 2) := by decide +kernel
theorem dX4_doWithRooms_34 : decode cX4_doWithRooms 34 = .ok (.invokestatic 170, 3) := by decide +kernel
theorem dX4_doWithRooms_37 : decode cX4_doWithRooms 37 = .ok (.invokevirtual 69, 3) := by decide +kernel
theorem dX4_doWithRooms_40 : decode cX4_doWithRooms 40 = .ok (.invokevirtual 173, 3) := by decide +kernel
theorem dX4_doWithRooms_43 : decode cX4_doWithRooms 43 = .ok (.goto 22, 3) := by decide +kernel
theorem dX4_doWithRooms_46 : decode cX4_doWithRooms 46 = .ok (.aload_n 0, 1) := by decide +kernel
theorem dX4_doWithRooms_47 : decode cX4_doWithRooms 47 = .ok (.iload_n 2, 1) := by decide +kernel
theorem dX4_doWithRooms_48 : decode cX4_doWithRooms 48 = .ok (.aconst_null, 1) := by decide +kernel
theorem dX4_doWithRooms_49 : decode cX4_doWithRooms 49 = .ok (.invokevirtual 173, 3) := by decide +kernel
theorem dX4_doWithRooms_52 : decode cX4_doWithRooms 52 = .ok (.goto 13, 3) := by decide +kernel
theorem dX4_doWithRooms_55 : decode cX4_doWithRooms 55 = .ok (.aload_n 0, 1) := by decide +kernel
theorem dX4_doWithRooms_56 : decode cX4_doWithRooms 56 = .ok (.aload_n 0, 1) := by decide +kernel
theorem dX4_doWithRooms_57 : decode cX4_doWithRooms 57 = .ok (.iload_n 2, 1) := by decide +kernel
theorem dX4_doWithRooms_58 : decode cX4_doWithRooms 58 = .ok (.iload_n 3, 1) := by decide +kernel
theorem dX4_doWithRooms_59 : decode cX4_doWithRooms 59 = .ok (.invokevirtual 177, 3) := by decide +kernel
theorem dX4_doWithRooms_62 : decode cX4_doWithRooms 62 = .ok (.putfield 50, 3) := by decide +kernel
theorem dX4_doWithRooms_65 : decode cX4_doWithRooms 65 = .ok (.iconst 0, 1) := by decide +kernel
theorem dX4_doWithRooms_66 : decode cX4_doWithRooms 66 = .ok (.ireturn, 1) := by decide +kernel
theorem dX4_seek_0 : decode cX4_seek 0 = .ok (.iload_n 1, 1) := by decide +kernel
theorem dX4_seek_1 : decode cX4_seek 1 = .ok (.istore_n 3, 1) := by decide +kernel
theorem dX4_seek_2 : decode cX4_seek 2 = .ok (.iload_n 3, 1) := by decide +kernel
theorem dX4_seek_3 : decode cX4_seek 3 = .ok (.bipush 8, 2) := by decide +kernel
theorem dX4_seek_5 : decode cX4_seek 5 = .ok (.if_icmp .ge 54, 3) := by decide +kernel
theorem dX4_seek_8 : decode cX4_seek 8 = .ok (.aload_n 0, 1) := by decide +kernel
theorem dX4_seek_9 : decode cX4_seek 9 = .ok (.iload_n 3, 1) := by decide +kernel
theorem dX4_seek_10 : decode cX4_seek 10 = .ok (.invokevirtual 69, 3) := by decide +kernel
theorem dX4_seek_13 : decode cX4_seek 13 = .ok (.astore 4, 2) := by decide +kernel
theorem dX4_seek_15 : decode cX4_seek 15 = .ok (.aload 4, 2) := by decide +kernel
theorem dX4_seek_17 : decode cX4_seek 17 = .ok (.ifnull 36, 3) := by decide +kernel
theorem dX4_seek_20 : decode cX4_seek 20 = .ok (.aload 4, 2) := by decide +kernel
theorem dX4_seek_22 : decode cX4_seek 22 = .ok (.invokevirtual 164, 3) := by decide +kernel
theorem dX4_seek_25 : decode cX4_seek 25 = .ok (.aload 4, 2) := by decide +kernel
theorem dX4_seek_27 : decode cX4_seek 27 = .ok (.getfield 76, 3) := by decide +kernel
theorem dX4_seek_30 : decode cX4_seek 30 = .ok (.iload_n 2, 1) := by decide +kernel
theorem dX4_seek_31 : decode cX4_seek 31 = .ok (.if_icmp .lt 7, 3) := by decide +kernel
theorem dX4_seek_34 : decode cX4_seek 34 = .ok (.iconst 1, 1) := by decide +kernel
theorem dX4_seek_35 : decode cX4_seek 35 = .ok (.goto 4, 3) := by decide +kernel
theorem dX4_seek_38 : decode cX4_seek 38 = .ok (.iconst 0, 1) := by decide +kernel
theorem dX4_seek_39 : decode cX4_seek 39 = .ok (.istore 5, 2) := by decide +kernel
theorem dX4_seek_41 : decode cX4_seek 41 = .ok (.aload 4, 2) := by decide +kernel
theorem dX4_seek_43 : decode cX4_seek 43 = .ok (.invokevirtual 167, 3) := by decide +kernel
theorem dX4_seek_46 : decode cX4_seek 46 = .ok (.iload 5, 2) := by decide +kernel
theorem dX4_seek_48 : decode cX4_seek 48 = .ok (.ifCond .eq 5, 3) := by decide +kernel
theorem dX4_seek_51 : decode cX4_seek 51 = .ok (.iload_n 3, 1) := by decide +kernel
theorem dX4_seek_52 : decode cX4_seek 52 = .ok (.ireturn, 1) := by decide +kernel
theorem dX4_seek_53 : decode cX4_seek 53 = .ok (.iinc 3 1, 3) := by decide +kernel
theorem dX4_seek_56 : decode cX4_seek 56 = .ok (.goto (-54), 3) := by decide +kernel
theorem dX4_seek_59 : decode cX4_seek 59 = .ok (.iconst (-1), 1) := by decide +kernel
theorem dX4_seek_60 : decode cX4_seek 60 = .ok (.ireturn, 1) := by decide +kernel
theorem dX4_doWithSafe_0 : decode cX4_doWithSafe 0 = .ok (.aload_n 2, 1) := by decide +kernel
theorem dX4_doWithSafe_1 : decode cX4_doWithSafe 1 = .ok (.ifnonnull 5, 3) := by decide +kernel
theorem dX4_doWithSafe_4 : decode cX4_doWithSafe 4 = .ok (.iconst 1, 1) := by decide +kernel
theorem dX4_doWithSafe_5 : decode cX4_doWithSafe 5 = .ok (.ireturn, 1) := by decide +kernel
theorem dX4_doWithSafe_6 : decode cX4_doWithSafe 6 = .ok (.iload_n 1, 1) := by decide +kernel
theorem dX4_doWithSafe_7 : decode cX4_doWithSafe 7 = .ok (.tableswitch 60 2 4 #[25, 50, 31], 25) := by decide +kernel
theorem dX4_doWithSafe_32 : decode cX4_doWithSafe 32 = .ok (.aload_n 2, 1) := by decide +kernel
theorem dX4_doWithSafe_33 : decode cX4_doWithSafe 33 = .ok (.iload_n 3, 1) := by decide +kernel
theorem dX4_doWithSafe_34 : decode cX4_doWithSafe 34 = .ok (.invokevirtual 180, 3) := by decide +kernel
theorem dX4_doWithSafe_37 : decode cX4_doWithSafe 37 = .ok (.ireturn, 1) := by decide +kernel
theorem dX4_doWithSafe_38 : decode cX4_doWithSafe 38 = .ok (.aload_n 2, 1) := by decide +kernel
theorem dX4_doWithSafe_39 : decode cX4_doWithSafe 39 = .ok (.aload_n 0, 1) := by decide +kernel
theorem dX4_doWithSafe_40 : decode cX4_doWithSafe 40 = .ok (.getfield 50, 3) := by decide +kernel
theorem dX4_doWithSafe_43 : decode cX4_doWithSafe 43 = .ok (.aload_n 0, 1) := by decide +kernel
theorem dX4_doWithSafe_44 : decode cX4_doWithSafe 44 = .ok (.iload_n 3, 1) := by decide +kernel
theorem dX4_doWithSafe_45 : decode cX4_doWithSafe 45 = .ok (.bipush 8, 2) := by decide +kernel
theorem dX4_doWithSafe_47 : decode cX4_doWithSafe 47 = .ok (.invokestatic 170, 3) := by decide +kernel
theorem dX4_doWithSafe_50 : decode cX4_doWithSafe 50 = .ok (.invokevirtual 69, 3) := by decide +kernel
theorem dX4_doWithSafe_53 : decode cX4_doWithSafe 53 = .ok (.invokevirtual 183, 3) := by decide +kernel
theorem dX4_doWithSafe_56 : decode cX4_doWithSafe 56 = .ok (.ireturn, 1) := by decide +kernel
theorem dX4_doWithSafe_57 : decode cX4_doWithSafe 57 = .ok (.aload_n 0, 1) := by decide +kernel
theorem dX4_doWithSafe_58 : decode cX4_doWithSafe 58 = .ok (.aload_n 2, 1) := by decide +kernel
theorem dX4_doWithSafe_59 : decode cX4_doWithSafe 59 = .ok (.invokevirtual 187, 3) := by decide +kernel
theorem dX4_doWithSafe_62 : decode cX4_doWithSafe 62 = .ok (.putfield 50, 3) := by decide +kernel
theorem dX4_doWithSafe_65 : decode cX4_doWithSafe 65 = .ok (.iconst 0, 1) := by decide +kernel
theorem dX4_doWithSafe_66 : decode cX4_doWithSafe 66 = .ok (.ireturn, 1) := by decide +kernel
theorem dX4_doWithSafe_67 : decode cX4_doWithSafe 67 = .ok (.aload_n 0, 1) := by decide +kernel
theorem dX4_doWithSafe_68 : decode cX4_doWithSafe 68 = .ok (.aload_n 2, 1) := by decide +kernel
theorem dX4_doWithSafe_69 : decode cX4_doWithSafe 69 = .ok (.getfield 85, 3) := by decide +kernel
theorem dX4_doWithSafe_72 : decode cX4_doWithSafe 72 = .ok (.putfield 50, 3) := by decide +kernel
theorem dX4_doWithSafe_75 : decode cX4_doWithSafe 75 = .ok (.iconst 0, 1) := by decide +kernel
theorem dX4_doWithSafe_76 : decode cX4_doWithSafe 76 = .ok (.ireturn, 1) := by decide +kernel
end
section
theorem dX5_init_0 : decode cX5_init 0 = .ok (.aload_n 0, 1) := by decide +kernel
theorem dX5_init_1 : decode cX5_init 1 = .ok (.invokespecial 1, 3) := by decide +kernel
theorem dX5_init_4 : decode cX5_init 4 = .ok (.aload_n 0, 1) := by decide +kernel
theorem dX5_init_5 : decode cX5_init 5 = .ok (.sipush 4200, 3) := by decide +kernel
theorem dX5_init_8 : decode cX5_init 8 = .ok (.newarray .int, 2) := by decide +kernel
theorem dX5_init_10 : decode cX5_init 10 = .ok (.putfield 7, 3) := by decide +kernel
theorem dX5_init_13 : decode cX5_init 13 = .ok (.aload_n 0, 1) := by decide +kernel
theorem dX5_init_14 : decode cX5_init 14 = .ok (.sipush 4200, 3) := by decide +kernel
theorem dX5_init_17 : decode cX5_init 17 = .ok (.newarray .int, 2) := by decide +kernel
theorem dX5_init_19 : decode cX5_init 19 = .ok (.putfield 13, 3) := by decide +kernel
theorem dX5_init_22 : decode cX5_init 22 = .ok (.aload_n 0, 1) := by decide +kernel
theorem dX5_init_23 : decode cX5_init 23 = .ok (.sipush 4200, 3) := by decide +kernel
theorem dX5_init_26 : decode cX5_init 26 = .ok (.newarray .int, 2) := by decide +kernel
theorem dX5_init_28 : decode cX5_init 28 = .ok (.putfield 16, 3) := by decide +kernel
theorem dX5_init_31 : decode cX5_init 31 = .ok (.aload_n 0, 1) := by decide +kernel
theorem dX5_init_32 : decode cX5_init 32 = .ok (.sipush 4200, 3) := by decide +kernel
theorem dX5_init_35 : decode cX5_init 35 = .ok (.newarray .int, 2) := by decide +kernel
theorem dX5_init_37 : decode cX5_init 37 = .ok (.putfield 19, 3) := by decide +kernel
theorem dX5_init_40 : decode cX5_init 40 = .ok (.aload_n 0, 1) := by decide +kernel
theorem dX5_init_41 : decode cX5_init 41 = .ok (.sipush 4200, 3) := by decide +kernel
theorem dX5_init_44 : decode cX5_init 44 = .ok (.newarray .int, 2) := by decide +kernel
theorem dX5_init_46 : decode cX5_init 46 = .ok (.putfield 22, 3) := by decide +kernel
theorem dX5_init_49 : decode cX5_init 49 = .ok (.aload_n 0, 1) := by decide +kernel
theorem dX5_init_50 : decode cX5_init 50 = .ok (.sipush 4200, 3) := by decide +kernel
theorem dX5_init_53 : decode cX5_init 53 = .ok (.newarray .int, 2) := by decide +kernel
theorem dX5_init_55 : decode cX5_init 55 = .ok (.putfield 25, 3) := by decide +kernel
theorem dX5_init_58 : decode cX5_init 58 = .ok (.aload_n 0, 1) := by decide +kernel
theorem dX5_init_59 : decode cX5_init 59 = .ok (.bipush 8, 2) := by decide +kernel
theorem dX5_init_61 : decode cX5_init 61 = .ok (.newarray .int, 2) := by decide +kernel
theorem dX5_init_63 : decode cX5_init 63 = .ok (.dup, 1) := by decide +kernel
theorem dX5_init_64 : decode cX5_init 64 = .ok (.iconst 0, 1) := by decide +kernel
theorem dX5_init_65 : decode cX5_init 65 = .ok (.iconst (-1), 1) := by decide +kernel
theorem dX5_init_66 : decode cX5_init 66 = .ok (.iastore, 1) := by decide +kernel
theorem dX5_init_67 : decode cX5_init 67 = .ok (.dup, 1) := by decide +kernel
theorem dX5_init_68 : decode cX5_init 68 = .ok (.iconst 1, 1) := by decide +kernel
theorem dX5_init_69 : decode cX5_init 69 = .ok (.iconst (-1), 1) := by decide +kernel
theorem dX5_init_70 : decode cX5_init 70 = .ok (.iastore, 1) := by decide +kernel
theorem dX5_init_71 : decode cX5_init 71 = .ok (.dup, 1) := by decide +kernel
theorem dX5_init_72 : decode cX5_init 72 = .ok (.iconst 2, 1) := by decide +kernel
theorem dX5_init_73 : decode cX5_init 73 = .ok (.iconst (-1), 1) := by decide +kernel
theorem dX5_init_74 : decode cX5_init 74 = .ok (.iastore, 1) := by decide +kernel
theorem dX5_init_75 : decode cX5_init 75 = .ok (.dup, 1) := by decide +kernel
theorem dX5_init_76 : decode cX5_init 76 = .ok (.iconst 3, 1) := by decide +kernel
theorem dX5_init_77 : decode cX5_init 77 = .ok (.iconst (-1), 1) := by decide +kernel
theorem dX5_init_78 : decode cX5_init 78 = .ok (.iastore, 1) := by decide +kernel
theorem dX5_init_79 : decode cX5_init 79 = .ok (.dup, 1) := by decide +kernel
theorem dX5_init_80 : decode cX5_init 80 = .ok (.iconst 4, 1) := by decide +kernel
theorem dX5_init_81 : decode cX5_init 81 = .ok (.iconst (-1), 1) := by decide +kernel
theorem dX5_init_82 : decode cX5_init 82 = .ok (.iastore, 1) := by decide +kernel
theorem dX5_init_83 : decode cX5_init 83 = .ok (.dup, 1) := by decide +kernel
theorem dX5_init_84 : decode cX5_init 84 = .ok (.iconst 5, 1) := by decide +kernel
theorem dX5_init_85 : decode cX5_init 85 = .ok (.iconst (-1), 1) := by decide +kernel
theorem dX5_init_86 : decode cX5_init 86 = .ok (.iastore, 1) := by decide +kernel
theorem dX5_init_87 : decode cX5_init 87 = .ok (.dup, 1) := by decide +kernel
theorem dX5_init_88 : decode cX5_init 88 = .ok (.bipush 6, 2) := by decide +kernel
theorem dX5_init_90 : decode cX5_init 90 = .ok (.iconst (-1), 1) := by decide +kernel
theorem dX5_init_91 : decode cX5_init 91 = .ok (.iastore, 1) := by decide +kernel
theorem dX5_init_92 : decode cX5_init 92 = .ok (.dup, 1) := by decide +kernel
theorem dX5_init_93 : decode cX5_init 93 = .ok (.bipush 7, 2) := by decide +kernel
theorem dX5_init_95 : decode cX5_init 95 = .ok (.iconst (-1), 1) := by decide +kernel
theorem dX5_init_96 : decode cX5_init 96 = .ok (.iastore, 1) := by decide +kernel
theorem dX5_init_97 : decode cX5_init 97 = .ok (.putfield 28, 3) := by decide +kernel
theorem dX5_init_100 : decode cX5_init 100 = .ok (.aload_n 0, 1) := by decide +kernel
theorem dX5_init_101 : decode cX5_init 101 = .ok (.bipush 6, 2) := by decide +kernel
theorem dX5_init_103 : decode cX5_init 103 = .ok (.newarray .int, 2) := by decide +kernel
theorem dX5_init_105 : decode cX5_init 105 = .ok (.putfield 31, 3) := by decide +kernel
theorem dX5_init_108 : decode cX5_init 108 = .ok (.aload_n 0, 1) := by decide +kernel
theorem dX5_init_109 : decode cX5_init 109 = .ok (.bipush 72, 2) := by decide +kernel
theorem dX5_init_111 : decode cX5_init 111 = .ok (.newarray .int, 2) := by decide +kernel
theorem dX5_init_113 : decode cX5_init 113 = .ok (.putfield 34, 3) := by decide +kernel
theorem dX5_init_116 : decode cX5_init 116 = .ok (.aload_n 0, 1) := by decide +kernel
theorem dX5_init_117 : decode cX5_init 117 = .ok (.bipush 72, 2) := by decide +kernel
theorem dX5_init_119 : decode cX5_init 119 = .ok (.newarray .int, 2) := by decide +kernel
theorem dX5_init_121 : decode cX5_init 121 = .ok (.putfield 37, 3) := by decide +kernel
theorem dX5_init_124 : decode cX5_init 124 = .ok (.aload_n 0, 1) := by decide +kernel
theorem dX5_init_125 : decode cX5_init 125 = .ok (.bipush 72, 2) := by decide +kernel
theorem dX5_init_127 : decode cX5_init 127 = .ok (.newarray .int, 2) := by decide +kernel
theorem dX5_init_129 : decode cX5_init 129 = .ok (.putfield 40, 3) := by decide +kernel
theorem dX5_init_132 : decode cX5_init 132 = .ok (.aload_n 0, 1) := by decide +kernel
theorem dX5_init_133 : decode cX5_init 133 = .ok (.bipush 120, 2) := by decide +kernel
theorem dX5_init_135 : decode cX5_init 135 = .ok (.newarray .int, 2) := by decide +kernel
theorem dX5_init_137 : decode cX5_init 137 = .ok (.putfield 43, 3) := by decide +kernel
theorem dX5_init_140 : decode cX5_init 140 = .ok (.aload_n 0, 1) := by decide +kernel
theorem dX5_init_141 : decode cX5_init 141 = .ok (.bipush 80, 2) := by decide +kernel
theorem dX5_init_143 : decode cX5_init 143 = .ok (.newarray .int, 2) := by decide +kernel
theorem dX5_init_145 : decode cX5_init 145 = .ok (.putfield 46, 3) := by decide +kernel
theorem dX5_init_148 : decode cX5_init 148 = .ok (.aload_n 0, 1) := by decide +kernel
theorem dX5_init_149 : decode cX5_init 149 = .ok (.bipush 80, 2) := by decide +kernel
theorem dX5_init_151 : decode cX5_init 151 = .ok (.newarray .int, 2) := by decide +kernel
theorem dX5_init_153 : decode cX5_init 153 = .ok (.putfield 49, 3) := by decide +kernel
theorem dX5_init_156 : decode cX5_init 156 = .ok (.aload_n 0, 1) := by decide +kernel
theorem dX5_init_157 : decode cX5_init 157 = .ok (.bipush 80, 2) := by decide +kernel
theorem dX5_init_159 : decode cX5_init 159 = .ok (.newarray .int, 2) := by decide +kernel
theorem dX5_init_161 : decode cX5_init 161 = .ok (.putfield 52, 3) := by decide +kernel
theorem dX5_init_164 : decode cX5_init 164 = .ok (.aload_n 0, 1) := by decide +kernel
theorem dX5_init_165 : decode cX5_init 165 = .ok (.bipush 80, 2) := by decide +kernel
theorem dX5_init_167 : decode cX5_init 167 = .ok (.newarray .int, 2) := by decide +kernel
theorem dX5_init_169 : decode cX5_init 169 = .ok (.putfield 55, 3) := by decide +kernel
theorem dX5_init_172 : decode cX5_init 172 = .ok (.aload_n 0, 1) := by decide +kernel
theorem dX5_init_173 : decode cX5_init 173 = .ok (.bipush 80, 2) := by decide +kernel
theorem dX5_init_175 : decode cX5_init 175 = .ok (.newarray .int, 2) := by decide +kernel
theorem dX5_init_177 : decode cX5_init 177 = .ok (.putfield 58, 3) := by decide +kernel
theorem dX5_init_180 : decode cX5_init 180 = .ok (.return_, 1) := by decide +kernel
theorem dX5_in_0 : decode cX5_in 0 = .ok (.iload_n 0, 1) := by decide +kernel
theorem dX5_in_1 : decode cX5_in 1 = .ok (.iload_n 1, 1) := by decide +kernel
theorem dX5_in_2 : decode cX5_in 2 = .ok (.if_icmp .lt 12, 3) := by decide +kernel
theorem dX5_in_5 : decode cX5_in 5 = .ok (.iload_n 0, 1) := by decide +kernel
theorem dX5_in_6 : decode cX5_in 6 = .ok (.iload_n 2, 1) := by decide +kernel
theorem dX5_in_7 : decode cX5_in 7 = .ok (.if_icmp .gt 7, 3) := by decide +kernel
theorem dX5_in_10 : decode cX5_in 10 = .ok (.iconst 1, 1) := by decide +kernel
theorem dX5_in_11 : decode cX5_in 11 = .ok (.goto 4, 3) := by decide +kernel
theorem dX5_in_14 : decode cX5_in 14 = .ok (.iconst 0, 1) := by decide +kernel
theorem dX5_in_15 : decode cX5_in 15 = .ok (.ireturn, 1) := by decide +kernel
theorem dX5_safe_0 : decode cX5_safe 0 = .ok (.iload_n 1, 1) := by decide +kernel
theorem dX5_safe_1 : decode cX5_safe 1 = .ok (.iconst 0, 1) := by decide +kernel
theorem dX5_safe_2 : decode cX5_safe 2 = .ok (.bipush 7, 2) := by decide +kernel
theorem dX5_safe_4 : decode cX5_safe 4 = .ok (.invokestatic 61, 3) := by decide +kernel
theorem dX5_safe_7 : decode cX5_safe 7 = .ok (.ifCond .eq 22, 3) := by decide +kernel
theorem dX5_safe_10 : decode cX5_safe 10 = .ok (.iload_n 2, 1) := by decide +kernel
theorem dX5_safe_11 : decode cX5_safe 11 = .ok (.iconst 0, 1) := by decide +kernel
theorem dX5_safe_12 : decode cX5_safe 12 = .ok (.iconst 2, 1) := by decide +kernel
theorem dX5_safe_13 : decode cX5_safe 13 = .ok (.invokestatic 61, 3) := by decide +kernel
theorem dX5_safe_16 : decode cX5_safe 16 = .ok (.ifCond .eq 13, 3) := by decide +kernel
theorem dX5_safe_19 : decode cX5_safe 19 = .ok (.iload_n 3, 1) := by decide +kernel
theorem dX5_safe_20 : decode cX5_safe 20 = .ok (.iconst 0, 1) := by decide +kernel
theorem dX5_safe_21 : decode cX5_safe 21 = .ok (.ldc 65, 2) := by decide +kernel
theorem dX5_safe_23 : decode cX5_safe 23 = .ok (.invokestatic 61, 3) := by decide +kernel
theorem dX5_safe_26 : decode cX5_safe 26 = .ok (.ifCond .ne 5, 3) := by decide +kernel
theorem dX5_safe_29 : decode cX5_safe 29 = .ok (.iconst (-1), 1) := by decide +kernel
theorem dX5_safe_30 : decode cX5_safe 30 = .ok (.ireturn, 1) := by decide +kernel
theorem dX5_safe_31 : decode cX5_safe 31 = .ok (.aload_n 0, 1) := by decide +kernel
theorem dX5_safe_32 : decode cX5_safe 32 = .ok (.getfield 7, 3) := by decide +kernel
theorem dX5_safe_35 : decode cX5_safe 35 = .ok (.aload_n 0, 1) := by decide +kernel
theorem dX5_safe_36 : decode cX5_safe 36 = .ok (.getfield 66, 3) := by decide +kernel
theorem dX5_safe_39 : decode cX5_safe 39 = .ok (.iload_n 2, 1) := by decide +kernel
theorem dX5_safe_40 : decode cX5_safe 40 = .ok (.iastore, 1) := by decide +kernel
theorem dX5_safe_41 : decode cX5_safe 41 = .ok (.aload_n 0, 1) := by decide +kernel
theorem dX5_safe_42 : decode cX5_safe 42 = .ok (.getfield 13, 3) := by decide +kernel
theorem dX5_safe_45 : decode cX5_safe 45 = .ok (.aload_n 0, 1) := by decide +kernel
theorem dX5_safe_46 : decode cX5_safe 46 = .ok (.getfield 66, 3) := by decide +kernel
theorem dX5_safe_49 : decode cX5_safe 49 = .ok (.iload_n 3, 1) := by decide +kernel
theorem dX5_safe_50 : decode cX5_safe 50 = .ok (.iastore, 1) := by decide +kernel
theorem dX5_safe_51 : decode cX5_safe 51 = .ok (.aload_n 0, 1) := by decide +kernel
theorem dX5_safe_52 : decode cX5_safe 52 = .ok (.getfield 28, 3) := by decide +kernel
theorem dX5_safe_55 : decode cX5_safe 55 = .ok (.iload_n 1, 1) := by decide +kernel
theorem dX5_safe_56 : decode cX5_safe 56 = .ok (.aload_n 0, 1) := by decide +kernel
theorem dX5_safe_57 : decode cX5_safe 57 = .ok (.getfield 66, 3) := by decide +kernel
theorem dX5_safe_60 : decode cX5_safe 60 = .ok (.iastore, 1) := by decide +kernel
theorem dX5_safe_61 : decode cX5_safe 61 = .ok (.aload_n 0, 1) := by decide +kernel
theorem dX5_safe_62 : decode cX5_safe 62 = .ok (.dup, 1) := by decide +kernel
theorem dX5_safe_63 : decode cX5_safe 63 = .ok (.getfield 66, 3) := by decide +kernel
theorem dX5_safe_66 : decode cX5_safe 66 = .ok (.iconst 1, 1) := by decide +kernel
theorem dX5_safe_67 : decode cX5_safe 67 = .ok (.iadd, 1) := by decide +kernel
theorem dX5_safe_68 : decode cX5_safe 68 = .ok (.putfield 66, 3) := by decide +kernel
theorem dX5_safe_71 : decode cX5_safe 71 = .ok (.iconst 1, 1) := by decide +kernel
theorem dX5_safe_72 : decode cX5_safe 72 = .ok (.ireturn, 1) := by decide +kernel
theorem dX5_share_0 : decode cX5_share 0 = .ok (.iload_n 1, 1) := by decide +kernel
theorem dX5_share_1 : decode cX5_share 1 = .ok (.iconst 0, 1) := by decide +kernel
theorem dX5_share_2 : decode cX5_share 2 = .ok (.bipush 7, 2) := by decide +kernel
theorem dX5_share_4 : decode cX5_share 4 = .ok (.invokestatic 61, 3) := by decide +kernel
theorem dX5_share_7 : decode cX5_share 7 = .ok (.ifCond .eq 13, 3) := by decide +kernel
theorem dX5_share_10 : decode cX5_share 10 = .ok (.iload_n 2, 1) := by decide +kernel
theorem dX5_share_11 : decode cX5_share 11 = .ok (.iconst 0, 1) := by decide +kernel
theorem dX5_share_12 : decode cX5_share 12 = .ok (.bipush 7, 2) := by decide +kernel
theorem dX5_share_14 : decode cX5_share 14 = .ok (.invokestatic 61, 3) := by decide +kernel
theorem dX5_share_17 : decode cX5_share 17 = .ok (.ifCond .ne 5, 3) := by decide +kernel
theorem dX5_share_20 : decode cX5_share 20 = .ok (.iconst (-1), 1) := by decide +kernel
theorem dX5_share_21 : decode cX5_share 21 = .ok (.ireturn, 1) := by decide +kernel
theorem dX5_share_22 : decode cX5_share 22 = .ok (.aload_n 0, 1) := by decide +kernel
theorem dX5_share_23 : decode cX5_share 23 = .ok (.getfield 28, 3) := by decide +kernel
theorem dX5_share_26 : decode cX5_share 26 = .ok (.iload_n 2, 1) := by decide +kernel
theorem dX5_share_27 : decode cX5_share 27 = .ok (.aload_n 0, 1) := by decide +kernel
theorem dX5_share_28 : decode cX5_share 28 = .ok (.getfield 28, 3) := by decide +kernel
theorem dX5_share_31 : decode cX5_share 31 = .ok (.iload_n 1, 1) := by decide +kernel
theorem dX5_share_32 : decode cX5_share 32 = .ok (.iaload, 1) := by decide +kernel
theorem dX5_share_33 : decode cX5_share 33 = .ok (.iastore, 1) := by decide +kernel
theorem dX5_share_34 : decode cX5_share 34 = .ok (.aload_n 0, 1) := by decide +kernel
theorem dX5_share_35 : decode cX5_share 35 = .ok (.getfield 28, 3) := by decide +kernel
theorem dX5_share_38 : decode cX5_share 38 = .ok (.iload_n 2, 1) := by decide +kernel
theorem dX5_share_39 : decode cX5_share 39 = .ok (.iaload, 1) := by decide +kernel
theorem dX5_share_40 : decode cX5_share 40 = .ok (.iconst (-1), 1) := by decide +kernel
theorem dX5_share_41 : decode cX5_share 41 = .ok (.if_icmp .ne 7, 3) := by decide +kernel
theorem dX5_share_44 : decode cX5_share 44 = .ok (.iconst 0, 1) := by decide +kernel
theorem dX5_share_45 : decode cX5_share 45 = .ok (.goto 4, 3) := by decide +kernel
theorem dX5_share_48 : decode cX5_share 48 = .ok (.iconst 1, 1) := by decide +kernel
theorem dX5_share_49 : decode cX5_share 49 = .ok (.ireturn, 1) := by decide +kernel
theorem dX5_same_0 : decode cX5_same 0 = .ok (.iload_n 1, 1) := by decide +kernel
theorem dX5_same_1 : decode cX5_same 1 = .ok (.iconst 0, 1) := by decide +kernel
theorem dX5_same_2 : decode cX5_same 2 = .ok (.bipush 7, 2) := by decide +kernel
theorem dX5_same_4 : decode cX5_same 4 = .ok (.invokestatic 61, 3) := by decide +kernel
theorem dX5_same_7 : decode cX5_same 7 = .ok (.ifCond .eq 13, 3) := by decide +kernel
theorem dX5_same_10 : decode cX5_same 10 = .ok (.iload_n 2, 1) := by decide +kernel
theorem dX5_same_11 : decode cX5_same 11 = .ok (.iconst 0, 1) := by decide +kernel
theorem dX5_same_12 : decode cX5_same 12 = .ok (.bipush 7, 2) := by decide +kernel
theorem dX5_same_14 : decode cX5_same 14 = .ok (.invokestatic 61, 3) := by decide +kernel
theorem dX5_same_17 : decode cX5_same 17 = .ok (.ifCond .ne 7, 3) := by decide +kernel
theorem dX5_same_20 : decode cX5_same 20 = .ok (.iconst (-1), 1) := by decide +kernel
theorem dX5_same_21 : decode cX5_same 21 = .ok (.goto 23, 3) := by decide +kernel
theorem dX5_same_24 : decode cX5_same 24 = .ok (.aload_n 0, 1) := by decide +kernel
theorem dX5_same_25 : decode cX5_same 25 = .ok (.getfield 28, 3) := by decide +kernel
theorem dX5_same_28 : decode cX5_same 28 = .ok (.iload_n 1, 1) := by decide +kernel
theorem dX5_same_29 : decode cX5_same 29 = .ok (.iaload, 1) := by decide +kernel
theorem dX5_same_30 : decode cX5_same 30 = .ok (.aload_n 0, 1) := by decide +kernel
theorem dX5_same_31 : decode cX5_same 31 = .ok (.getfield 28, 3) := by decide +kernel
theorem dX5_same_34 : decode cX5_same 34 = .ok (.iload_n 2, 1) := by decide +kernel
theorem dX5_same_35 : decode cX5_same 35 = .ok (.iaload, 1) := by decide +kernel
theorem dX5_same_36 : decode cX5_same 36 = .ok (.if_icmp .ne 7, 3) := by decide +kernel
theorem dX5_same_39 : decode cX5_same 39 = .ok (.iconst 1, 1) := by decide +kernel
theorem dX5_same_40 : decode cX5_same 40 = .ok (.goto 4, 3) := by decide +kernel
theorem dX5_same_43 : decode cX5_same 43 = .ok (.iconst 0, 1) := by decide +kernel
theorem dX5_same_44 : decode cX5_same 44 = .ok (.ireturn, 1) := by decide +kernel
theorem dX5_enter_0 : decode cX5_enter 0 = .ok (.aload_n 0, 1) := by decide +kernel
theorem dX5_enter_1 : decode cX5_enter 1 = .ok (.getfield 22, 3) := by decide +kernel
theorem dX5_enter_4 : decode cX5_enter 4 = .ok (.iload_n 1, 1) := by decide +kernel
theorem dX5_enter_5 : decode cX5_enter 5 = .ok (.dup2, 1) := by decide +kernel
theorem dX5_enter_6 : decode cX5_enter 6 = .ok (.iaload, 1) := by decide +kernel
theorem dX5_enter_7 : decode cX5_enter 7 = .ok (.iconst 1, 1) := by decide +kernel
theorem dX5_enter_8 : decode cX5_enter 8 = .ok (.iadd, 1) := by decide +kernel
theorem dX5_enter_9 : decode cX5_enter 9 = .ok (.iastore, 1) := by decide +kernel
theorem dX5_enter_10 : decode cX5_enter 10 = .ok (.aload_n 0, 1) := by decide +kernel
theorem dX5_enter_11 : decode cX5_enter 11 = .ok (.getfield 19, 3) := by decide +kernel
theorem dX5_enter_14 : decode cX5_enter 14 = .ok (.iload_n 1, 1) := by decide +kernel
theorem dX5_enter_15 : decode cX5_enter 15 = .ok (.dup2, 1) := by decide +kernel
theorem dX5_enter_16 : decode cX5_enter 16 = .ok (.iaload, 1) := by decide +kernel
theorem dX5_enter_17 : decode cX5_enter 17 = .ok (.iconst 1, 1) := by decide +kernel
theorem dX5_enter_18 : decode cX5_enter 18 = .ok (.iadd, 1) := by decide +kernel
theorem dX5_enter_19 : decode cX5_enter 19 = .ok (.iastore, 1) := by decide +kernel
theorem dX5_enter_20 : decode cX5_enter 20 = .ok (.aload_n 0, 1) := by decide +kernel
theorem dX5_enter_21 : decode cX5_enter 21 = .ok (.getfield 25, 3) := by decide +kernel
theorem dX5_enter_24 : decode cX5_enter 24 = .ok (.iload_n 1, 1) := by decide +kernel
theorem dX5_enter_25 : decode cX5_enter 25 = .ok (.aload_n 0, 1) := by decide +kernel
theorem dX5_enter_26 : decode cX5_enter 26 = .ok (.getfield 22, 3) := by decide +kernel
theorem dX5_enter_29 : decode cX5_enter 29 = .ok (.iload_n 1, 1) := by decide +kernel
theorem dX5_enter_30 : decode cX5_enter 30 = .ok (.iaload, 1) := by decide +kernel
theorem dX5_enter_31 : decode cX5_enter 31 = .ok (.aload_n 0, 1) := by decide +kernel
theorem dX5_enter_32 : decode cX5_enter 32 = .ok (.getfield 25, 3) := by decide +kernel
theorem dX5_enter_35 : decode cX5_enter 35 = .ok (.iload_n 1, 1) := by decide +kernel
theorem dX5_enter_36 : decode cX5_enter 36 = .ok (.iaload, 1) := by decide +kernel
theorem dX5_enter_37 : decode cX5_enter 37 = .ok (.if_icmp .le 12, 3) := by decide +kernel
theorem dX5_enter_40 : decode cX5_enter 40 = .ok (.aload_n 0, 1) := by decide +kernel
theorem dX5_enter_41 : decode cX5_enter 41 = .ok (.getfield 22, 3) := by decide +kernel
theorem dX5_enter_44 : decode cX5_enter 44 = .ok (.iload_n 1, 1) := by decide +kernel
theorem dX5_enter_45 : decode cX5_enter 45 = .ok (.iaload, 1) := by decide +kernel
theorem dX5_enter_46 : decode cX5_enter 46 = .ok (.goto 9, 3) := by decide +kernel
theorem dX5_enter_49 : decode cX5_enter 49 = .ok (.aload_n 0, 1) := by decide +kernel
theorem dX5_enter_50 : decode cX5_enter 50 = .ok (.getfield 25, 3) := by decide +kernel
theorem dX5_enter_53 : decode cX5_enter 53 = .ok (.iload_n 1, 1) := by decide +kernel
theorem dX5_enter_54 : decode cX5_enter 54 = .ok (.iaload, 1) := by decide +kernel
theorem dX5_enter_55 : decode cX5_enter 55 = .ok (.iastore, 1) := by decide +kernel
theorem dX5_enter_56 : decode cX5_enter 56 = .ok (.return_, 1) := by decide +kernel
theorem dX5_putPlain_0 : decode cX5_putPlain 0 = .ok (.aload_n 0, 1) := by decide +kernel
theorem dX5_putPlain_1 : decode cX5_putPlain 1 = .ok (.iload_n 1, 1) := by decide +kernel
theorem dX5_putPlain_2 : decode cX5_putPlain 2 = .ok (.invokevirtual 70, 3) := by decide +kernel
theorem dX5_putPlain_5 : decode cX5_putPlain 5 = .ok (.aload_n 0, 1) := by decide +kernel
theorem dX5_putPlain_6 : decode cX5_putPlain 6 = .ok (.getfield 13, 3) := by decide +kernel
theorem dX5_putPlain_9 : decode cX5_putPlain 9 = .ok (.iload_n 1, 1) := by decide +kernel
theorem dX5_putPlain_10 : decode cX5_putPlain 10 = .ok (.iaload, 1) := by decide +kernel
theorem dX5_putPlain_11 : decode cX5_putPlain 11 = .ok (.i2l, 1) := by decide +kernel
theorem dX5_putPlain_12 : decode cX5_putPlain 12 = .ok (.iload_n 2, 1) := by decide +kernel
theorem dX5_putPlain_13 : decode cX5_putPlain 13 = .ok (.i2l, 1) := by decide +kernel
theorem dX5_putPlain_14 : decode cX5_putPlain 14 = .ok (.ladd, 1) := by decide +kernel
theorem dX5_putPlain_15 : decode cX5_putPlain 15 = .ok (.lstore_n 3, 1) := by decide +kernel
theorem dX5_putPlain_16 : decode cX5_putPlain 16 = .ok (.lload_n 3, 1) := by decide +kernel
theorem dX5_putPlain_17 : decode cX5_putPlain 17 = .ok (.lconst 0, 1) := by decide +kernel
theorem dX5_putPlain_18 : decode cX5_putPlain 18 = .ok (.lcmp, 1) := by decide +kernel
theorem dX5_putPlain_19 : decode cX5_putPlain 19 = .ok (.ifCond .lt 15, 3) := by decide +kernel
theorem dX5_putPlain_22 : decode cX5_putPlain 22 = .ok (.lload_n 3, 1) := by decide +kernel
theorem dX5_putPlain_23 : decode cX5_putPlain 23 = .ok (.ldc2_w 74, 3) := by decide +kernel
theorem dX5_putPlain_26 : decode cX5_putPlain 26 = .ok (.lcmp, 1) := by decide +kernel
theorem dX5_putPlain_27 : decode cX5_putPlain 27 = .ok (.ifCond .gt 7, 3) := by decide +kernel
theorem dX5_putPlain_30 : decode cX5_putPlain 30 = .ok (.iconst 1, 1) := by decide +kernel
theorem dX5_putPlain_31 : decode cX5_putPlain 31 = .ok (.goto 4, 3) := by decide +kernel
theorem dX5_putPlain_34 : decode cX5_putPlain 34 = .ok (.iconst 0, 1) := by decide +kernel
theorem dX5_putPlain_35 : decode cX5_putPlain 35 = .ok (.istore 5, 2) := by decide +kernel
theorem dX5_putPlain_37 : decode cX5_putPlain 37 = .ok (.aload_n 0, 1) := by decide +kernel
theorem dX5_putPlain_38 : decode cX5_putPlain 38 = .ok (.getfield 13, 3) := by decide +kernel
theorem dX5_putPlain_41 : decode cX5_putPlain 41 = .ok (.iload_n 1, 1) := by decide +kernel
theorem dX5_putPlain_42 : decode cX5_putPlain 42 = .ok (.iload 5, 2) := by decide +kernel
theorem dX5_putPlain_44 : decode cX5_putPlain 44 = .ok (.ifCond .eq 8, 3) := by decide +kernel
theorem dX5_putPlain_47 : decode cX5_putPlain 47 = .ok (.lload_n 3, 1) := by decide +kernel
theorem dX5_putPlain_48 : decode cX5_putPlain 48 = .ok (.l2i, 1) := by decide +kernel
theorem dX5_putPlain_49 : decode cX5_putPlain 49 = .ok (.goto 9, 3) := by decide +kernel
theorem dX5_putPlain_52 : decode cX5_putPlain 52 = .ok (.aload_n 0, 1) := by decide +kernel
theorem dX5_putPlain_53 : decode cX5_putPlain 53 = .ok (.getfield 13, 3) := by decide +kernel
theorem dX5_putPlain_56 : decode cX5_putPlain 56 = .ok (.iload_n 1, 1) := by decide +kernel
theorem dX5_putPlain_57 : decode cX5_putPlain 57 = .ok (.iaload, 1) := by decide +kernel
theorem dX5_putPlain_58 : decode cX5_putPlain 58 = .ok (.iastore, 1) := by decide +kernel
theorem dX5_putPlain_59 : decode cX5_putPlain 59 = .ok (.aload_n 0, 1) := by decide +kernel
theorem dX5_putPlain_60 : decode cX5_putPlain 60 = .ok (.getfield 22, 3) := by decide +kernel
theorem dX5_putPlain_63 : decode cX5_putPlain 63 = .ok (.iload_n 1, 1) := by decide +kernel
theorem dX5_putPlain_64 : decode cX5_putPlain 64 = .ok (.dup2, 1) := by decide +kernel
theorem dX5_putPlain_65 : decode cX5_putPlain 65 = .ok (.iaload, 1) := by decide +kernel
theorem dX5_putPlain_66 : decode cX5_putPlain 66 = .ok (.iconst 1, 1) := by decide +kernel
theorem dX5_putPlain_67 : decode cX5_putPlain 67 = .ok (.isub, 1) := by decide +kernel
theorem dX5_putPlain_68 : decode cX5_putPlain 68 = .ok (.iastore, 1) := by decide +kernel
theorem dX5_putPlain_69 : decode cX5_putPlain 69 = .ok (.iload 5, 2) := by decide +kernel
theorem dX5_putPlain_71 : decode cX5_putPlain 71 = .ok (.ireturn, 1) := by decide +kernel
theorem dX5_putTimed_0 : decode cX5_putTimed 0 = .ok (.aload_n 0, 1) := by decide +kernel
theorem dX5_putTimed_1 : decode cX5_putTimed 1 = .ok (.iload_n 1, 1) := by decide +kernel
theorem dX5_putTimed_2 : decode cX5_putTimed 2 = .ok (.invokevirtual 70, 3) := by decide +kernel
theorem dX5_putTimed_5 : decode cX5_putTimed 5 = .ok (.aload_n 0, 1) := by decide +kernel
theorem dX5_putTimed_6 : decode cX5_putTimed 6 = .ok (.getfield 16, 3) := by decide +kernel
theorem dX5_putTimed_9 : decode cX5_putTimed 9 = .ok (.iload_n 1, 1) := by decide +kernel
theorem dX5_putTimed_10 : decode cX5_putTimed 10 = .ok (.dup2, 1) := by decide +kernel
theorem dX5_putTimed_11 : decode cX5_putTimed 11 = .ok (.iaload, 1) := by decide +kernel
theorem dX5_putTimed_12 : decode cX5_putTimed 12 = .ok (.iconst 1, 1) := by decide +kernel
theorem dX5_putTimed_13 : decode cX5_putTimed 13 = .ok (.iadd, 1) := by decide +kernel
theorem dX5_putTimed_14 : decode cX5_putTimed 14 = .ok (.iastore, 1) := by decide +kernel
theorem dX5_putTimed_15 : decode cX5_putTimed 15 = .ok (.aload_n 0, 1) := by decide +kernel
theorem dX5_putTimed_16 : decode cX5_putTimed 16 = .ok (.iload_n 1, 1) := by decide +kernel
theorem dX5_putTimed_17 : decode cX5_putTimed 17 = .ok (.iload_n 2, 1) := by decide +kernel
theorem dX5_putTimed_18 : decode cX5_putTimed 18 = .ok (.invokevirtual 76, 3) := by decide +kernel
theorem dX5_putTimed_21 : decode cX5_putTimed 21 = .ok (.istore_n 3, 1) := by decide +kernel
theorem dX5_putTimed_22 : decode cX5_putTimed 22 = .ok (.aload_n 0, 1) := by decide +kernel
theorem dX5_putTimed_23 : decode cX5_putTimed 23 = .ok (.getfield 22, 3) := by decide +kernel
theorem dX5_putTimed_26 : decode cX5_putTimed 26 = .ok (.iload_n 1, 1) := by decide +kernel
theorem dX5_putTimed_27 : decode cX5_putTimed 27 = .ok (.dup2, 1) := by decide +kernel
theorem dX5_putTimed_28 : decode cX5_putTimed 28 = .ok (.iaload, 1) := by decide +kernel
theorem dX5_putTimed_29 : decode cX5_putTimed 29 = .ok (.iconst 1, 1) := by decide +kernel
theorem dX5_putTimed_30 : decode cX5_putTimed 30 = .ok (.isub, 1) := by decide +kernel
theorem dX5_putTimed_31 : decode cX5_putTimed 31 = .ok (.iastore, 1) := by decide +kernel
theorem dX5_putTimed_32 : decode cX5_putTimed 32 = .ok (.iload_n 3, 1) := by decide +kernel
theorem dX5_putTimed_33 : decode cX5_putTimed 33 = .ok (.ireturn, 1) := by decide +kernel
theorem dX5_put_0 : decode cX5_put 0 = .ok (.aload_n 0, 1) := by decide +kernel
theorem dX5_put_1 : decode cX5_put 1 = .ok (.getfield 7, 3) := by decide +kernel
theorem dX5_put_4 : decode cX5_put 4 = .ok (.iload_n 1, 1) := by decide +kernel
theorem dX5_put_5 : decode cX5_put 5 = .ok (.iaload, 1) := by decide +kernel
theorem dX5_put_6 : decode cX5_put 6 = .ok (.ifCond .ne 10, 3) := by decide +kernel
theorem dX5_put_9 : decode cX5_put 9 = .ok (.aload_n 0, 1) := by decide +kernel
theorem dX5_put_10 : decode cX5_put 10 = .ok (.iload_n 1, 1) := by decide +kernel
theorem dX5_put_11 : decode cX5_put 11 = .ok (.iload_n 2, 1) := by decide +kernel
theorem dX5_put_12 : decode cX5_put 12 = .ok (.invokevirtual 76, 3) := by decide +kernel
theorem dX5_put_15 : decode cX5_put 15 = .ok (.ireturn, 1) := by decide +kernel
theorem dX5_put_16 : decode cX5_put 16 = .ok (.aload_n 0, 1) := by decide +kernel
theorem dX5_put_17 : decode cX5_put 17 = .ok (.getfield 7, 3) := by decide +kernel
theorem dX5_put_20 : decode cX5_put 20 = .ok (.iload_n 1, 1) := by decide +kernel
theorem dX5_put_21 : decode cX5_put 21 = .ok (.iaload, 1) := by decide +kernel
theorem dX5_put_22 : decode cX5_put 22 = .ok (.iconst 1, 1) := by decide +kernel
theorem dX5_put_23 : decode cX5_put 23 = .ok (.if_icmp .ne 10, 3) := by decide +kernel
theorem dX5_put_26 : decode cX5_put 26 = .ok (.aload_n 0, 1) := by decide +kernel
theorem dX5_put_27 : decode cX5_put 27 = .ok (.iload_n 1, 1) := by decide +kernel
theorem dX5_put_28 : decode cX5_put 28 = .ok (.iload_n 2, 1) := by decide +kernel
theorem dX5_put_29 : decode cX5_put 29 = .ok (.invokevirtual 80, 3) := by decide +kernel
theorem dX5_put_32 : decode cX5_put 32 = .ok (.ireturn, 1) := by decide +kernel
theorem dX5_put_33 : decode cX5_put 33 = .ok (.aload_n 0, 1) := by decide +kernel
theorem dX5_put_34 : decode cX5_put 34 = .ok (.iload_n 1, 1) := by decide +kernel
theorem dX5_put_35 : decode cX5_put 35 = .ok (.invokevirtual 70, 3) := by decide +kernel
theorem dX5_put_38 : decode cX5_put 38 = .ok (.aload_n 0, 1) := by decide +kernel
theorem dX5_put_39 : decode cX5_put 39 = .ok (.iload_n 1, 1) := by decide +kernel
theorem dX5_put_40 : decode cX5_put 40 = .ok (.iload_n 2, 1) := by decide +kernel
theorem dX5_put_41 : decode cX5_put 41 = .ok (.invokevirtual 80, 3) := by decide +kernel
theorem dX5_put_44 : decode cX5_put 44 = .ok (.ifCond .eq 16, 3) := by decide +kernel
theorem dX5_put_47 : decode cX5_put 47 = .ok (.aload_n 0, 1) := by decide +kernel
theorem dX5_put_48 : decode cX5_put 48 = .ok (.iload_n 1, 1) := by decide +kernel
theorem dX5_put_49 : decode cX5_put 49 = .ok (.iload_n 2, 1) := by decide +kernel
theorem dX5_put_50 : decode cX5_put 50 = .ok (.invokevirtual 80, 3) := by decide +kernel
theorem dX5_put_53 : decode cX5_put 53 = .ok (.ifCond .eq 7, 3) := by decide +kernel
theorem dX5_put_56 : decode cX5_put 56 = .ok (.iconst 1, 1) := by decide +kernel
theorem dX5_put_57 : decode cX5_put 57 = .ok (.goto 4, 3) := by decide +kernel
theorem dX5_put_60 : decode cX5_put 60 = .ok (.iconst 0, 1) := by decide +kernel
theorem dX5_put_61 : decode cX5_put 61 = .ok (.istore_n 3, 1) := by decide +kernel
theorem dX5_put_62 : decode cX5_put 62 = .ok (.aload_n 0, 1) := by decide +kernel
theorem dX5_put_63 : decode cX5_put 63 = .ok (.getfield 22, 3) := by decide +kernel
theorem dX5_put_66 : decode cX5_put 66 = .ok (.iload_n 1, 1) := by decide +kernel
theorem dX5_put_67 : decode cX5_put 67 = .ok (.dup2, 1) := by decide +kernel
theorem dX5_put_68 : decode cX5_put 68 = .ok (.iaload, 1) := by decide +kernel
theorem dX5_put_69 : decode cX5_put 69 = .ok (.iconst 1, 1) := by decide +kernel
theorem dX5_put_70 : decode cX5_put 70 = .ok (.isub, 1) := by decide +kernel
theorem dX5_put_71 : decode cX5_put 71 = .ok (.iastore, 1) := by decide +kernel
theorem dX5_put_72 : decode cX5_put 72 = .ok (.iload_n 3, 1) := by decide +kernel
theorem dX5_put_73 : decode cX5_put 73 = .ok (.ireturn, 1) := by decide +kernel
theorem dX5_worth_0 : decode cX5_worth 0 = .ok (.iconst 0, 1) := by decide +kernel
theorem dX5_worth_1 : decode cX5_worth 1 = .ok (.istore_n 2, 1) := by decide +kernel
theorem dX5_worth_2 : decode cX5_worth 2 = .ok (.iload_n 2, 1) := by decide +kernel
theorem dX5_worth_3 : decode cX5_worth 3 = .ok (.aload_n 0, 1) := by decide +kernel
theorem dX5_worth_4 : decode cX5_worth 4 = .ok (.getfield 7, 3) := by decide +kernel
theorem dX5_worth_7 : decode cX5_worth 7 = .ok (.iload_n 1, 1) := by decide +kernel
theorem dX5_worth_8 : decode cX5_worth 8 = .ok (.iaload, 1) := by decide +kernel
theorem dX5_worth_9 : decode cX5_worth 9 = .ok (.if_icmp .gt 14, 3) := by decide +kernel
theorem dX5_worth_12 : decode cX5_worth 12 = .ok (.aload_n 0, 1) := by decide +kernel
theorem dX5_worth_13 : decode cX5_worth 13 = .ok (.iload_n 1, 1) := by decide +kernel
theorem dX5_worth_14 : decode cX5_worth 14 = .ok (.invokevirtual 70, 3) := by decide +kernel
theorem dX5_worth_17 : decode cX5_worth 17 = .ok (.iinc 2 1, 3) := by decide +kernel
theorem dX5_worth_20 : decode cX5_worth 20 = .ok (.goto (-18), 3) := by decide +kernel
theorem dX5_worth_23 : decode cX5_worth 23 = .ok (.aload_n 0, 1) := by decide +kernel
theorem dX5_worth_24 : decode cX5_worth 24 = .ok (.getfield 22, 3) := by decide +kernel
theorem dX5_worth_27 : decode cX5_worth 27 = .ok (.iload_n 1, 1) := by decide +kernel
theorem dX5_worth_28 : decode cX5_worth 28 = .ok (.dup2, 1) := by decide +kernel
theorem dX5_worth_29 : decode cX5_worth 29 = .ok (.iaload, 1) := by decide +kernel
theorem dX5_worth_30 : decode cX5_worth 30 = .ok (.aload_n 0, 1) := by decide +kernel
theorem dX5_worth_31 : decode cX5_worth 31 = .ok (.getfield 7, 3) := by decide +kernel
theorem dX5_worth_34 : decode cX5_worth 34 = .ok (.iload_n 1, 1) := by decide +kernel
theorem dX5_worth_35 : decode cX5_worth 35 = .ok (.iaload, 1) := by decide +kernel
theorem dX5_worth_36 : decode cX5_worth 36 = .ok (.iconst 1, 1) := by decide +kernel
theorem dX5_worth_37 : decode cX5_worth 37 = .ok (.iadd, 1) := by decide +kernel
theorem dX5_worth_38 : decode cX5_worth 38 = .ok (.isub, 1) := by decide +kernel
theorem dX5_worth_39 : decode cX5_worth 39 = .ok (.iastore, 1) := by decide +kernel
theorem dX5_worth_40 : decode cX5_worth 40 = .ok (.aload_n 0, 1) := by decide +kernel
theorem dX5_worth_41 : decode cX5_worth 41 = .ok (.getfield 7, 3) := by decide +kernel
theorem dX5_worth_44 : decode cX5_worth 44 = .ok (.iload_n 1, 1) := by decide +kernel
theorem dX5_worth_45 : decode cX5_worth 45 = .ok (.iaload, 1) := by decide +kernel
theorem dX5_worth_46 : decode cX5_worth 46 = .ok (.ifCond .le 19, 3) := by decide +kernel
theorem dX5_worth_49 : decode cX5_worth 49 = .ok (.aload_n 0, 1) := by decide +kernel
theorem dX5_worth_50 : decode cX5_worth 50 = .ok (.getfield 13, 3) := by decide +kernel
theorem dX5_worth_53 : decode cX5_worth 53 = .ok (.iload_n 1, 1) := by decide +kernel
theorem dX5_worth_54 : decode cX5_worth 54 = .ok (.iaload, 1) := by decide +kernel
theorem dX5_worth_55 : decode cX5_worth 55 = .ok (.aload_n 0, 1) := by decide +kernel
theorem dX5_worth_56 : decode cX5_worth 56 = .ok (.getfield 16, 3) := by decide +kernel
theorem dX5_worth_59 : decode cX5_worth 59 = .ok (.iload_n 1, 1) := by decide +kernel
theorem dX5_worth_60 : decode cX5_worth 60 = .ok (.iaload, 1) := by decide +kernel
theorem dX5_worth_61 : decode cX5_worth 61 = .ok (.iadd, 1) := by decide +kernel
theorem dX5_worth_62 : decode cX5_worth 62 = .ok (.goto 9, 3) := by decide +kernel
theorem dX5_worth_65 : decode cX5_worth 65 = .ok (.aload_n 0, 1) := by decide +kernel
theorem dX5_worth_66 : decode cX5_worth 66 = .ok (.getfield 13, 3) := by decide +kernel
theorem dX5_worth_69 : decode cX5_worth 69 = .ok (.iload_n 1, 1) := by decide +kernel
theorem dX5_worth_70 : decode cX5_worth 70 = .ok (.iaload, 1) := by decide +kernel
theorem dX5_worth_71 : decode cX5_worth 71 = .ok (.istore_n 2, 1) := by decide +kernel
theorem dX5_worth_72 : decode cX5_worth 72 = .ok (.aload_n 0, 1) := by decide +kernel
theorem dX5_worth_73 : decode cX5_worth 73 = .ok (.getfield 7, 3) := by decide +kernel
theorem dX5_worth_76 : decode cX5_worth 76 = .ok (.iload_n 1, 1) := by decide +kernel
theorem dX5_worth_77 : decode cX5_worth 77 = .ok (.iaload, 1) := by decide +kernel
theorem dX5_worth_78 : decode cX5_worth 78 = .ok (.iconst 2, 1) := by decide +kernel
theorem dX5_worth_79 : decode cX5_worth 79 = .ok (.if_icmp .ne 9, 3) := by decide +kernel
theorem dX5_worth_82 : decode cX5_worth 82 = .ok (.iconst 2, 1) := by decide +kernel
theorem dX5_worth_83 : decode cX5_worth 83 = .ok (.iload_n 2, 1) := by decide +kernel
theorem dX5_worth_84 : decode cX5_worth 84 = .ok (.imul, 1) := by decide +kernel
theorem dX5_worth_85 : decode cX5_worth 85 = .ok (.goto 4, 3) := by decide +kernel
theorem dX5_worth_88 : decode cX5_worth 88 = .ok (.iload_n 2, 1) := by decide +kernel
theorem dX5_worth_89 : decode cX5_worth 89 = .ok (.ireturn, 1) := by decide +kernel
theorem dX5_give_0 : decode cX5_give 0 = .ok (.aload_n 0, 1) := by decide +kernel
theorem dX5_give_1 : decode cX5_give 1 = .ok (.iload_n 1, 1) := by decide +kernel
theorem dX5_give_2 : decode cX5_give 2 = .ok (.invokevirtual 70, 3) := by decide +kernel
theorem dX5_give_5 : decode cX5_give 5 = .ok (.aload_n 0, 1) := by decide +kernel
theorem dX5_give_6 : decode cX5_give 6 = .ok (.iload_n 1, 1) := by decide +kernel
theorem dX5_give_7 : decode cX5_give 7 = .ok (.iload_n 3, 1) := by decide +kernel
theorem dX5_give_8 : decode cX5_give 8 = .ok (.ineg, 1) := by decide +kernel
theorem dX5_give_9 : decode cX5_give 9 = .ok (.invokevirtual 83, 3) := by decide +kernel
theorem dX5_give_12 : decode cX5_give 12 = .ok (.ifCond .eq 7, 3) := by decide +kernel
theorem dX5_give_15 : decode cX5_give 15 = .ok (.iconst 0, 1) := by decide +kernel
theorem dX5_give_16 : decode cX5_give 16 = .ok (.goto 5, 3) := by decide +kernel
theorem dX5_give_19 : decode cX5_give 19 = .ok (.bipush 30, 2) := by decide +kernel
theorem dX5_give_21 : decode cX5_give 21 = .ok (.istore 4, 2) := by decide +kernel
theorem dX5_give_23 : decode cX5_give 23 = .ok (.iload 4, 2) := by decide +kernel
theorem dX5_give_25 : decode cX5_give 25 = .ok (.ifCond .ne 42, 3) := by decide +kernel
theorem dX5_give_28 : decode cX5_give 28 = .ok (.iload_n 2, 1) := by decide +kernel
theorem dX5_give_29 : decode cX5_give 29 = .ok (.iconst (-1), 1) := by decide +kernel
theorem dX5_give_30 : decode cX5_give 30 = .ok (.if_icmp .ne 7, 3) := by decide +kernel
theorem dX5_give_33 : decode cX5_give 33 = .ok (.iconst 1, 1) := by decide +kernel
theorem dX5_give_34 : decode cX5_give 34 = .ok (.goto 18, 3) := by decide +kernel
theorem dX5_give_37 : decode cX5_give 37 = .ok (.aload_n 0, 1) := by decide +kernel
end
section
theorem dX5_give_38 : decode cX5_give 38 = .ok (.iload_n 2, 1) := by decide +kernel
theorem dX5_give_39 : decode cX5_give 39 = .ok (.iload_n 3, 1) := by decide +kernel
theorem dX5_give_40 : decode cX5_give 40 = .ok (.invokevirtual 83, 3) := by decide +kernel
theorem dX5_give_43 : decode cX5_give 43 = .ok (.ifCond .eq 7, 3) := by decide +kernel
theorem dX5_give_46 : decode cX5_give 46 = .ok (.iconst 0, 1) := by decide +kernel
theorem dX5_give_47 : decode cX5_give 47 = .ok (.goto 5, 3) := by decide +kernel
theorem dX5_give_50 : decode cX5_give 50 = .ok (.bipush 30, 2) := by decide +kernel
theorem dX5_give_52 : decode cX5_give 52 = .ok (.istore 4, 2) := by decide +kernel
theorem dX5_give_54 : decode cX5_give 54 = .ok (.iload 4, 2) := by decide +kernel
theorem dX5_give_56 : decode cX5_give 56 = .ok (.ifCond .eq 11, 3) := by decide +kernel
theorem dX5_give_59 : decode cX5_give 59 = .ok (.aload_n 0, 1) := by decide +kernel
theorem dX5_give_60 : decode cX5_give 60 = .ok (.iload_n 1, 1) := by decide +kernel
theorem dX5_give_61 : decode cX5_give 61 = .ok (.iload_n 3, 1) := by decide +kernel
theorem dX5_give_62 : decode cX5_give 62 = .ok (.invokevirtual 83, 3) := by decide +kernel
theorem dX5_give_65 : decode cX5_give 65 = .ok (.istore 5, 2) := by decide +kernel
theorem dX5_give_67 : decode cX5_give 67 = .ok (.aload_n 0, 1) := by decide +kernel
theorem dX5_give_68 : decode cX5_give 68 = .ok (.getfield 22, 3) := by decide +kernel
theorem dX5_give_71 : decode cX5_give 71 = .ok (.iload_n 1, 1) := by decide +kernel
theorem dX5_give_72 : decode cX5_give 72 = .ok (.dup2, 1) := by decide +kernel
theorem dX5_give_73 : decode cX5_give 73 = .ok (.iaload, 1) := by decide +kernel
theorem dX5_give_74 : decode cX5_give 74 = .ok (.iconst 1, 1) := by decide +kernel
theorem dX5_give_75 : decode cX5_give 75 = .ok (.isub, 1) := by decide +kernel
theorem dX5_give_76 : decode cX5_give 76 = .ok (.iastore, 1) := by decide +kernel
theorem dX5_give_77 : decode cX5_give 77 = .ok (.iload 4, 2) := by decide +kernel
theorem dX5_give_79 : decode cX5_give 79 = .ok (.ireturn, 1) := by decide +kernel
theorem dX5_step_0 : decode cX5_step 0 = .ok (.iload_n 1, 1) := by decide +kernel
theorem dX5_step_1 : decode cX5_step 1 = .ok (.iconst 0, 1) := by decide +kernel
theorem dX5_step_2 : decode cX5_step 2 = .ok (.iconst 5, 1) := by decide +kernel
theorem dX5_step_3 : decode cX5_step 3 = .ok (.invokestatic 61, 3) := by decide +kernel
theorem dX5_step_6 : decode cX5_step 6 = .ok (.ifCond .eq 13, 3) := by decide +kernel
theorem dX5_step_9 : decode cX5_step 9 = .ok (.iload_n 2, 1) := by decide +kernel
theorem dX5_step_10 : decode cX5_step 10 = .ok (.iconst 0, 1) := by decide +kernel
theorem dX5_step_11 : decode cX5_step 11 = .ok (.bipush 13, 2) := by decide +kernel
theorem dX5_step_13 : decode cX5_step 13 = .ok (.invokestatic 61, 3) := by decide +kernel
theorem dX5_step_16 : decode cX5_step 16 = .ok (.ifCond .ne 5, 3) := by decide +kernel
theorem dX5_step_19 : decode cX5_step 19 = .ok (.iconst (-1), 1) := by decide +kernel
theorem dX5_step_20 : decode cX5_step 20 = .ok (.ireturn, 1) := by decide +kernel
theorem dX5_step_21 : decode cX5_step 21 = .ok (.iload_n 2, 1) := by decide +kernel
theorem dX5_step_22 : decode cX5_step 22 = .ok (.ifCond .eq 19, 3) := by decide +kernel
theorem dX5_step_25 : decode cX5_step 25 = .ok (.iload_n 2, 1) := by decide +kernel
theorem dX5_step_26 : decode cX5_step 26 = .ok (.iconst 2, 1) := by decide +kernel
theorem dX5_step_27 : decode cX5_step 27 = .ok (.bipush 7, 2) := by decide +kernel
theorem dX5_step_29 : decode cX5_step 29 = .ok (.invokestatic 61, 3) := by decide +kernel
theorem dX5_step_32 : decode cX5_step 32 = .ok (.ifCond .ne 9, 3) := by decide +kernel
theorem dX5_step_35 : decode cX5_step 35 = .ok (.iload_n 2, 1) := by decide +kernel
theorem dX5_step_36 : decode cX5_step 36 = .ok (.bipush 13, 2) := by decide +kernel
theorem dX5_step_38 : decode cX5_step 38 = .ok (.if_icmp .ne 13, 3) := by decide +kernel
theorem dX5_step_41 : decode cX5_step 41 = .ok (.iload_n 3, 1) := by decide +kernel
theorem dX5_step_42 : decode cX5_step 42 = .ok (.iconst 0, 1) := by decide +kernel
theorem dX5_step_43 : decode cX5_step 43 = .ok (.bipush 7, 2) := by decide +kernel
theorem dX5_step_45 : decode cX5_step 45 = .ok (.invokestatic 61, 3) := by decide +kernel
theorem dX5_step_48 : decode cX5_step 48 = .ok (.ifCond .eq 35, 3) := by decide +kernel
theorem dX5_step_51 : decode cX5_step 51 = .ok (.iload_n 2, 1) := by decide +kernel
theorem dX5_step_52 : decode cX5_step 52 = .ok (.bipush 9, 2) := by decide +kernel
theorem dX5_step_54 : decode cX5_step 54 = .ok (.if_icmp .ne 14, 3) := by decide +kernel
theorem dX5_step_57 : decode cX5_step 57 = .ok (.iload_n 3, 1) := by decide +kernel
theorem dX5_step_58 : decode cX5_step 58 = .ok (.bipush 20, 2) := by decide +kernel
theorem dX5_step_60 : decode cX5_step 60 = .ok (.bipush 23, 2) := by decide +kernel
theorem dX5_step_62 : decode cX5_step 62 = .ok (.invokestatic 61, 3) := by decide +kernel
theorem dX5_step_65 : decode cX5_step 65 = .ok (.ifCond .eq 18, 3) := by decide +kernel
theorem dX5_step_68 : decode cX5_step 68 = .ok (.iload_n 2, 1) := by decide +kernel
theorem dX5_step_69 : decode cX5_step 69 = .ok (.bipush 12, 2) := by decide +kernel
theorem dX5_step_71 : decode cX5_step 71 = .ok (.if_icmp .ne 14, 3) := by decide +kernel
theorem dX5_step_74 : decode cX5_step 74 = .ok (.iload_n 3, 1) := by decide +kernel
theorem dX5_step_75 : decode cX5_step 75 = .ok (.iconst 0, 1) := by decide +kernel
theorem dX5_step_76 : decode cX5_step 76 = .ok (.iconst 5, 1) := by decide +kernel
theorem dX5_step_77 : decode cX5_step 77 = .ok (.invokestatic 61, 3) := by decide +kernel
theorem dX5_step_80 : decode cX5_step 80 = .ok (.ifCond .ne 5, 3) := by decide +kernel
theorem dX5_step_83 : decode cX5_step 83 = .ok (.iconst (-1), 1) := by decide +kernel
theorem dX5_step_84 : decode cX5_step 84 = .ok (.ireturn, 1) := by decide +kernel
theorem dX5_step_85 : decode cX5_step 85 = .ok (.iload_n 2, 1) := by decide +kernel
theorem dX5_step_86 : decode cX5_step 86 = .ok (.iconst 1, 1) := by decide +kernel
theorem dX5_step_87 : decode cX5_step 87 = .ok (.if_icmp .ne 40, 3) := by decide +kernel
theorem dX5_step_90 : decode cX5_step 90 = .ok (.iload_n 3, 1) := by decide +kernel
theorem dX5_step_91 : decode cX5_step 91 = .ok (.iconst 0, 1) := by decide +kernel
theorem dX5_step_92 : decode cX5_step 92 = .ok (.iconst 1, 1) := by decide +kernel
theorem dX5_step_93 : decode cX5_step 93 = .ok (.invokestatic 61, 3) := by decide +kernel
theorem dX5_step_96 : decode cX5_step 96 = .ok (.ifCond .ne 31, 3) := by decide +kernel
theorem dX5_step_99 : decode cX5_step 99 = .ok (.iload_n 3, 1) := by decide +kernel
theorem dX5_step_100 : decode cX5_step 100 = .ok (.bipush 6, 2) := by decide +kernel
theorem dX5_step_102 : decode cX5_step 102 = .ok (.bipush 7, 2) := by decide +kernel
theorem dX5_step_104 : decode cX5_step 104 = .ok (.invokestatic 61, 3) := by decide +kernel
theorem dX5_step_107 : decode cX5_step 107 = .ok (.ifCond .ne 20, 3) := by decide +kernel
theorem dX5_step_110 : decode cX5_step 110 = .ok (.iload_n 3, 1) := by decide +kernel
theorem dX5_step_111 : decode cX5_step 111 = .ok (.bipush 20, 2) := by decide +kernel
theorem dX5_step_113 : decode cX5_step 113 = .ok (.bipush 23, 2) := by decide +kernel
theorem dX5_step_115 : decode cX5_step 115 = .ok (.invokestatic 61, 3) := by decide +kernel
theorem dX5_step_118 : decode cX5_step 118 = .ok (.ifCond .ne 9, 3) := by decide +kernel
theorem dX5_step_121 : decode cX5_step 121 = .ok (.iload_n 3, 1) := by decide +kernel
theorem dX5_step_122 : decode cX5_step 122 = .ok (.bipush 30, 2) := by decide +kernel
theorem dX5_step_124 : decode cX5_step 124 = .ok (.if_icmp .ne 19, 3) := by decide +kernel
theorem dX5_step_127 : decode cX5_step 127 = .ok (.iload_n 2, 1) := by decide +kernel
theorem dX5_step_128 : decode cX5_step 128 = .ok (.iconst 2, 1) := by decide +kernel
theorem dX5_step_129 : decode cX5_step 129 = .ok (.if_icmp .ge 16, 3) := by decide +kernel
theorem dX5_step_132 : decode cX5_step 132 = .ok (.iload 4, 2) := by decide +kernel
theorem dX5_step_134 : decode cX5_step 134 = .ok (.iconst 1, 1) := by decide +kernel
theorem dX5_step_135 : decode cX5_step 135 = .ok (.bipush 11, 2) := by decide +kernel
theorem dX5_step_137 : decode cX5_step 137 = .ok (.invokestatic 61, 3) := by decide +kernel
theorem dX5_step_140 : decode cX5_step 140 = .ok (.ifCond .ne 5, 3) := by decide +kernel
theorem dX5_step_143 : decode cX5_step 143 = .ok (.iconst (-1), 1) := by decide +kernel
theorem dX5_step_144 : decode cX5_step 144 = .ok (.ireturn, 1) := by decide +kernel
theorem dX5_step_145 : decode cX5_step 145 = .ok (.aload_n 0, 1) := by decide +kernel
theorem dX5_step_146 : decode cX5_step 146 = .ok (.getfield 31, 3) := by decide +kernel
theorem dX5_step_149 : decode cX5_step 149 = .ok (.iload_n 1, 1) := by decide +kernel
theorem dX5_step_150 : decode cX5_step 150 = .ok (.iaload, 1) := by decide +kernel
theorem dX5_step_151 : decode cX5_step 151 = .ok (.bipush 12, 2) := by decide +kernel
theorem dX5_step_153 : decode cX5_step 153 = .ok (.if_icmp .ne 6, 3) := by decide +kernel
theorem dX5_step_156 : decode cX5_step 156 = .ok (.bipush (-2), 2) := by decide +kernel
theorem dX5_step_158 : decode cX5_step 158 = .ok (.ireturn, 1) := by decide +kernel
theorem dX5_step_159 : decode cX5_step 159 = .ok (.bipush 12, 2) := by decide +kernel
theorem dX5_step_161 : decode cX5_step 161 = .ok (.iload_n 1, 1) := by decide +kernel
theorem dX5_step_162 : decode cX5_step 162 = .ok (.imul, 1) := by decide +kernel
theorem dX5_step_163 : decode cX5_step 163 = .ok (.aload_n 0, 1) := by decide +kernel
theorem dX5_step_164 : decode cX5_step 164 = .ok (.getfield 31, 3) := by decide +kernel
theorem dX5_step_167 : decode cX5_step 167 = .ok (.iload_n 1, 1) := by decide +kernel
theorem dX5_step_168 : decode cX5_step 168 = .ok (.iaload, 1) := by decide +kernel
theorem dX5_step_169 : decode cX5_step 169 = .ok (.iadd, 1) := by decide +kernel
theorem dX5_step_170 : decode cX5_step 170 = .ok (.istore 5, 2) := by decide +kernel
theorem dX5_step_172 : decode cX5_step 172 = .ok (.aload_n 0, 1) := by decide +kernel
theorem dX5_step_173 : decode cX5_step 173 = .ok (.getfield 34, 3) := by decide +kernel
theorem dX5_step_176 : decode cX5_step 176 = .ok (.iload 5, 2) := by decide +kernel
theorem dX5_step_178 : decode cX5_step 178 = .ok (.iload_n 2, 1) := by decide +kernel
theorem dX5_step_179 : decode cX5_step 179 = .ok (.iastore, 1) := by decide +kernel
theorem dX5_step_180 : decode cX5_step 180 = .ok (.aload_n 0, 1) := by decide +kernel
theorem dX5_step_181 : decode cX5_step 181 = .ok (.getfield 37, 3) := by decide +kernel
theorem dX5_step_184 : decode cX5_step 184 = .ok (.iload 5, 2) := by decide +kernel
theorem dX5_step_186 : decode cX5_step 186 = .ok (.iload_n 3, 1) := by decide +kernel
theorem dX5_step_187 : decode cX5_step 187 = .ok (.iastore, 1) := by decide +kernel
theorem dX5_step_188 : decode cX5_step 188 = .ok (.aload_n 0, 1) := by decide +kernel
theorem dX5_step_189 : decode cX5_step 189 = .ok (.getfield 40, 3) := by decide +kernel
theorem dX5_step_192 : decode cX5_step 192 = .ok (.iload 5, 2) := by decide +kernel
theorem dX5_step_194 : decode cX5_step 194 = .ok (.iload 4, 2) := by decide +kernel
theorem dX5_step_196 : decode cX5_step 196 = .ok (.iastore, 1) := by decide +kernel
theorem dX5_step_197 : decode cX5_step 197 = .ok (.aload_n 0, 1) := by decide +kernel
theorem dX5_step_198 : decode cX5_step 198 = .ok (.getfield 31, 3) := by decide +kernel
theorem dX5_step_201 : decode cX5_step 201 = .ok (.iload_n 1, 1) := by decide +kernel
theorem dX5_step_202 : decode cX5_step 202 = .ok (.dup2, 1) := by decide +kernel
theorem dX5_step_203 : decode cX5_step 203 = .ok (.iaload, 1) := by decide +kernel
theorem dX5_step_204 : decode cX5_step 204 = .ok (.iconst 1, 1) := by decide +kernel
theorem dX5_step_205 : decode cX5_step 205 = .ok (.iadd, 1) := by decide +kernel
theorem dX5_step_206 : decode cX5_step 206 = .ok (.iastore, 1) := by decide +kernel
theorem dX5_step_207 : decode cX5_step 207 = .ok (.aload_n 0, 1) := by decide +kernel
theorem dX5_step_208 : decode cX5_step 208 = .ok (.getfield 31, 3) := by decide +kernel
theorem dX5_step_211 : decode cX5_step 211 = .ok (.iload_n 1, 1) := by decide +kernel
theorem dX5_step_212 : decode cX5_step 212 = .ok (.iaload, 1) := by decide +kernel
theorem dX5_step_213 : decode cX5_step 213 = .ok (.ireturn, 1) := by decide +kernel
theorem dX5_clear_0 : decode cX5_clear 0 = .ok (.iload_n 1, 1) := by decide +kernel
theorem dX5_clear_1 : decode cX5_clear 1 = .ok (.iconst 0, 1) := by decide +kernel
theorem dX5_clear_2 : decode cX5_clear 2 = .ok (.iconst 5, 1) := by decide +kernel
theorem dX5_clear_3 : decode cX5_clear 3 = .ok (.invokestatic 61, 3) := by decide +kernel
theorem dX5_clear_6 : decode cX5_clear 6 = .ok (.ifCond .ne 5, 3) := by decide +kernel
theorem dX5_clear_9 : decode cX5_clear 9 = .ok (.iconst (-1), 1) := by decide +kernel
theorem dX5_clear_10 : decode cX5_clear 10 = .ok (.ireturn, 1) := by decide +kernel
theorem dX5_clear_11 : decode cX5_clear 11 = .ok (.aload_n 0, 1) := by decide +kernel
theorem dX5_clear_12 : decode cX5_clear 12 = .ok (.getfield 31, 3) := by decide +kernel
theorem dX5_clear_15 : decode cX5_clear 15 = .ok (.iload_n 1, 1) := by decide +kernel
theorem dX5_clear_16 : decode cX5_clear 16 = .ok (.iaload, 1) := by decide +kernel
theorem dX5_clear_17 : decode cX5_clear 17 = .ok (.istore_n 2, 1) := by decide +kernel
theorem dX5_clear_18 : decode cX5_clear 18 = .ok (.aload_n 0, 1) := by decide +kernel
theorem dX5_clear_19 : decode cX5_clear 19 = .ok (.getfield 31, 3) := by decide +kernel
theorem dX5_clear_22 : decode cX5_clear 22 = .ok (.iload_n 1, 1) := by decide +kernel
theorem dX5_clear_23 : decode cX5_clear 23 = .ok (.iconst 0, 1) := by decide +kernel
theorem dX5_clear_24 : decode cX5_clear 24 = .ok (.iastore, 1) := by decide +kernel
theorem dX5_clear_25 : decode cX5_clear 25 = .ok (.iload_n 2, 1) := by decide +kernel
theorem dX5_clear_26 : decode cX5_clear 26 = .ok (.ireturn, 1) := by decide +kernel
theorem dX5_leave_0 : decode cX5_leave 0 = .ok (.aload_n 0, 1) := by decide +kernel
theorem dX5_leave_1 : decode cX5_leave 1 = .ok (.getfield 86, 3) := by decide +kernel
theorem dX5_leave_4 : decode cX5_leave 4 = .ok (.bipush 120, 2) := by decide +kernel
theorem dX5_leave_6 : decode cX5_leave 6 = .ok (.if_icmp .ge 23, 3) := by decide +kernel
theorem dX5_leave_9 : decode cX5_leave 9 = .ok (.aload_n 0, 1) := by decide +kernel
theorem dX5_leave_10 : decode cX5_leave 10 = .ok (.getfield 43, 3) := by decide +kernel
theorem dX5_leave_13 : decode cX5_leave 13 = .ok (.aload_n 0, 1) := by decide +kernel
theorem dX5_leave_14 : decode cX5_leave 14 = .ok (.getfield 86, 3) := by decide +kernel
theorem dX5_leave_17 : decode cX5_leave 17 = .ok (.iload_n 1, 1) := by decide +kernel
theorem dX5_leave_18 : decode cX5_leave 18 = .ok (.iastore, 1) := by decide +kernel
theorem dX5_leave_19 : decode cX5_leave 19 = .ok (.aload_n 0, 1) := by decide +kernel
theorem dX5_leave_20 : decode cX5_leave 20 = .ok (.dup, 1) := by decide +kernel
theorem dX5_leave_21 : decode cX5_leave 21 = .ok (.getfield 86, 3) := by decide +kernel
theorem dX5_leave_24 : decode cX5_leave 24 = .ok (.iconst 1, 1) := by decide +kernel
theorem dX5_leave_25 : decode cX5_leave 25 = .ok (.iadd, 1) := by decide +kernel
theorem dX5_leave_26 : decode cX5_leave 26 = .ok (.putfield 86, 3) := by decide +kernel
theorem dX5_leave_29 : decode cX5_leave 29 = .ok (.return_, 1) := by decide +kernel
theorem dX5_push_0 : decode cX5_push 0 = .ok (.aload_n 0, 1) := by decide +kernel
theorem dX5_push_1 : decode cX5_push 1 = .ok (.getfield 46, 3) := by decide +kernel
theorem dX5_push_4 : decode cX5_push 4 = .ok (.aload_n 0, 1) := by decide +kernel
theorem dX5_push_5 : decode cX5_push 5 = .ok (.getfield 89, 3) := by decide +kernel
theorem dX5_push_8 : decode cX5_push 8 = .ok (.iload_n 1, 1) := by decide +kernel
theorem dX5_push_9 : decode cX5_push 9 = .ok (.iastore, 1) := by decide +kernel
theorem dX5_push_10 : decode cX5_push 10 = .ok (.aload_n 0, 1) := by decide +kernel
theorem dX5_push_11 : decode cX5_push 11 = .ok (.getfield 49, 3) := by decide +kernel
theorem dX5_push_14 : decode cX5_push 14 = .ok (.aload_n 0, 1) := by decide +kernel
theorem dX5_push_15 : decode cX5_push 15 = .ok (.getfield 89, 3) := by decide +kernel
theorem dX5_push_18 : decode cX5_push 18 = .ok (.iload_n 2, 1) := by decide +kernel
theorem dX5_push_19 : decode cX5_push 19 = .ok (.iastore, 1) := by decide +kernel
theorem dX5_push_20 : decode cX5_push 20 = .ok (.aload_n 0, 1) := by decide +kernel
theorem dX5_push_21 : decode cX5_push 21 = .ok (.getfield 52, 3) := by decide +kernel
theorem dX5_push_24 : decode cX5_push 24 = .ok (.aload_n 0, 1) := by decide +kernel
theorem dX5_push_25 : decode cX5_push 25 = .ok (.getfield 89, 3) := by decide +kernel
theorem dX5_push_28 : decode cX5_push 28 = .ok (.iload_n 3, 1) := by decide +kernel
theorem dX5_push_29 : decode cX5_push 29 = .ok (.iastore, 1) := by decide +kernel
theorem dX5_push_30 : decode cX5_push 30 = .ok (.aload_n 0, 1) := by decide +kernel
theorem dX5_push_31 : decode cX5_push 31 = .ok (.getfield 55, 3) := by decide +kernel
theorem dX5_push_34 : decode cX5_push 34 = .ok (.aload_n 0, 1) := by decide +kernel
theorem dX5_push_35 : decode cX5_push 35 = .ok (.getfield 89, 3) := by decide +kernel
theorem dX5_push_38 : decode cX5_push 38 = .ok (.iload 4, 2) := by decide +kernel
theorem dX5_push_40 : decode cX5_push 40 = .ok (.iastore, 1) := by decide +kernel
theorem dX5_push_41 : decode cX5_push 41 = .ok (.aload_n 0, 1) := by decide +kernel
theorem dX5_push_42 : decode cX5_push 42 = .ok (.getfield 58, 3) := by decide +kernel
theorem dX5_push_45 : decode cX5_push 45 = .ok (.aload_n 0, 1) := by decide +kernel
theorem dX5_push_46 : decode cX5_push 46 = .ok (.getfield 89, 3) := by decide +kernel
theorem dX5_push_49 : decode cX5_push 49 = .ok (.iload 5, 2) := by decide +kernel
theorem dX5_push_51 : decode cX5_push 51 = .ok (.iastore, 1) := by decide +kernel
theorem dX5_push_52 : decode cX5_push 52 = .ok (.aload_n 0, 1) := by decide +kernel
theorem dX5_push_53 : decode cX5_push 53 = .ok (.dup, 1) := by decide +kernel
theorem dX5_push_54 : decode cX5_push 54 = .ok (.getfield 89, 3) := by decide +kernel
theorem dX5_push_57 : decode cX5_push 57 = .ok (.iconst 1, 1) := by decide +kernel
theorem dX5_push_58 : decode cX5_push 58 = .ok (.iadd, 1) := by decide +kernel
theorem dX5_push_59 : decode cX5_push 59 = .ok (.putfield 89, 3) := by decide +kernel
theorem dX5_push_62 : decode cX5_push 62 = .ok (.return_, 1) := by decide +kernel
theorem dX5_beginPlan_0 : decode cX5_beginPlan 0 = .ok (.aload_n 0, 1) := by decide +kernel
theorem dX5_beginPlan_1 : decode cX5_beginPlan 1 = .ok (.dup, 1) := by decide +kernel
theorem dX5_beginPlan_2 : decode cX5_beginPlan 2 = .ok (.getfield 92, 3) := by decide +kernel
theorem dX5_beginPlan_5 : decode cX5_beginPlan 5 = .ok (.iconst 1, 1) := by decide +kernel
theorem dX5_beginPlan_6 : decode cX5_beginPlan 6 = .ok (.iadd, 1) := by decide +kernel
theorem dX5_beginPlan_7 : decode cX5_beginPlan 7 = .ok (.putfield 92, 3) := by decide +kernel
theorem dX5_beginPlan_10 : decode cX5_beginPlan 10 = .ok (.aload_n 0, 1) := by decide +kernel
theorem dX5_beginPlan_11 : decode cX5_beginPlan 11 = .ok (.aload_n 0, 1) := by decide +kernel
theorem dX5_beginPlan_12 : decode cX5_beginPlan 12 = .ok (.getfield 92, 3) := by decide +kernel
theorem dX5_beginPlan_15 : decode cX5_beginPlan 15 = .ok (.aload_n 0, 1) := by decide +kernel
theorem dX5_beginPlan_16 : decode cX5_beginPlan 16 = .ok (.getfield 95, 3) := by decide +kernel
theorem dX5_beginPlan_19 : decode cX5_beginPlan 19 = .ok (.if_icmp .le 10, 3) := by decide +kernel
theorem dX5_beginPlan_22 : decode cX5_beginPlan 22 = .ok (.aload_n 0, 1) := by decide +kernel
theorem dX5_beginPlan_23 : decode cX5_beginPlan 23 = .ok (.getfield 92, 3) := by decide +kernel
theorem dX5_beginPlan_26 : decode cX5_beginPlan 26 = .ok (.goto 7, 3) := by decide +kernel
theorem dX5_beginPlan_29 : decode cX5_beginPlan 29 = .ok (.aload_n 0, 1) := by decide +kernel
theorem dX5_beginPlan_30 : decode cX5_beginPlan 30 = .ok (.getfield 95, 3) := by decide +kernel
theorem dX5_beginPlan_33 : decode cX5_beginPlan 33 = .ok (.putfield 95, 3) := by decide +kernel
theorem dX5_beginPlan_36 : decode cX5_beginPlan 36 = .ok (.aload_n 0, 1) := by decide +kernel
theorem dX5_beginPlan_37 : decode cX5_beginPlan 37 = .ok (.iconst 0, 1) := by decide +kernel
theorem dX5_beginPlan_38 : decode cX5_beginPlan 38 = .ok (.iload_n 1, 1) := by decide +kernel
theorem dX5_beginPlan_39 : decode cX5_beginPlan 39 = .ok (.iconst 0, 1) := by decide +kernel
theorem dX5_beginPlan_40 : decode cX5_beginPlan 40 = .ok (.aload_n 0, 1) := by decide +kernel
theorem dX5_beginPlan_41 : decode cX5_beginPlan 41 = .ok (.getfield 31, 3) := by decide +kernel
theorem dX5_beginPlan_44 : decode cX5_beginPlan 44 = .ok (.iload_n 1, 1) := by decide +kernel
theorem dX5_beginPlan_45 : decode cX5_beginPlan 45 = .ok (.iaload, 1) := by decide +kernel
theorem dX5_beginPlan_46 : decode cX5_beginPlan 46 = .ok (.iconst (-1), 1) := by decide +kernel
theorem dX5_beginPlan_47 : decode cX5_beginPlan 47 = .ok (.invokevirtual 98, 3) := by decide +kernel
theorem dX5_beginPlan_50 : decode cX5_beginPlan 50 = .ok (.return_, 1) := by decide +kernel
theorem dX5_pop_0 : decode cX5_pop 0 = .ok (.aload_n 0, 1) := by decide +kernel
theorem dX5_pop_1 : decode cX5_pop 1 = .ok (.dup, 1) := by decide +kernel
theorem dX5_pop_2 : decode cX5_pop 2 = .ok (.getfield 89, 3) := by decide +kernel
theorem dX5_pop_5 : decode cX5_pop 5 = .ok (.iconst 1, 1) := by decide +kernel
theorem dX5_pop_6 : decode cX5_pop 6 = .ok (.isub, 1) := by decide +kernel
theorem dX5_pop_7 : decode cX5_pop 7 = .ok (.putfield 89, 3) := by decide +kernel
theorem dX5_pop_10 : decode cX5_pop 10 = .ok (.aload_n 0, 1) := by decide +kernel
theorem dX5_pop_11 : decode cX5_pop 11 = .ok (.getfield 46, 3) := by decide +kernel
theorem dX5_pop_14 : decode cX5_pop 14 = .ok (.aload_n 0, 1) := by decide +kernel
theorem dX5_pop_15 : decode cX5_pop 15 = .ok (.getfield 89, 3) := by decide +kernel
theorem dX5_pop_18 : decode cX5_pop 18 = .ok (.iaload, 1) := by decide +kernel
theorem dX5_pop_19 : decode cX5_pop 19 = .ok (.iconst 1, 1) := by decide +kernel
theorem dX5_pop_20 : decode cX5_pop 20 = .ok (.if_icmp .ne 29, 3) := by decide +kernel
theorem dX5_pop_23 : decode cX5_pop 23 = .ok (.aload_n 0, 1) := by decide +kernel
theorem dX5_pop_24 : decode cX5_pop 24 = .ok (.getfield 22, 3) := by decide +kernel
theorem dX5_pop_27 : decode cX5_pop 27 = .ok (.aload_n 0, 1) := by decide +kernel
theorem dX5_pop_28 : decode cX5_pop 28 = .ok (.getfield 58, 3) := by decide +kernel
theorem dX5_pop_31 : decode cX5_pop 31 = .ok (.aload_n 0, 1) := by decide +kernel
theorem dX5_pop_32 : decode cX5_pop 32 = .ok (.getfield 89, 3) := by decide +kernel
theorem dX5_pop_35 : decode cX5_pop 35 = .ok (.iaload, 1) := by decide +kernel
theorem dX5_pop_36 : decode cX5_pop 36 = .ok (.dup2, 1) := by decide +kernel
theorem dX5_pop_37 : decode cX5_pop 37 = .ok (.iaload, 1) := by decide +kernel
theorem dX5_pop_38 : decode cX5_pop 38 = .ok (.iconst 1, 1) := by decide +kernel
theorem dX5_pop_39 : decode cX5_pop 39 = .ok (.isub, 1) := by decide +kernel
theorem dX5_pop_40 : decode cX5_pop 40 = .ok (.iastore, 1) := by decide +kernel
theorem dX5_pop_41 : decode cX5_pop 41 = .ok (.aload_n 0, 1) := by decide +kernel
theorem dX5_pop_42 : decode cX5_pop 42 = .ok (.iconst 2, 1) := by decide +kernel
theorem dX5_pop_43 : decode cX5_pop 43 = .ok (.invokevirtual 102, 3) := by decide +kernel
theorem dX5_pop_46 : decode cX5_pop 46 = .ok (.goto 25, 3) := by decide +kernel
theorem dX5_pop_49 : decode cX5_pop 49 = .ok (.aload_n 0, 1) := by decide +kernel
theorem dX5_pop_50 : decode cX5_pop 50 = .ok (.getfield 46, 3) := by decide +kernel
theorem dX5_pop_53 : decode cX5_pop 53 = .ok (.aload_n 0, 1) := by decide +kernel
theorem dX5_pop_54 : decode cX5_pop 54 = .ok (.getfield 89, 3) := by decide +kernel
theorem dX5_pop_57 : decode cX5_pop 57 = .ok (.iaload, 1) := by decide +kernel
theorem dX5_pop_58 : decode cX5_pop 58 = .ok (.ifCond .ne 13, 3) := by decide +kernel
theorem dX5_pop_61 : decode cX5_pop 61 = .ok (.aload_n 0, 1) := by decide +kernel
theorem dX5_pop_62 : decode cX5_pop 62 = .ok (.dup, 1) := by decide +kernel
theorem dX5_pop_63 : decode cX5_pop 63 = .ok (.getfield 92, 3) := by decide +kernel
theorem dX5_pop_66 : decode cX5_pop 66 = .ok (.iconst 1, 1) := by decide +kernel
theorem dX5_pop_67 : decode cX5_pop 67 = .ok (.isub, 1) := by decide +kernel
theorem dX5_pop_68 : decode cX5_pop 68 = .ok (.putfield 92, 3) := by decide +kernel
theorem dX5_pop_71 : decode cX5_pop 71 = .ok (.return_, 1) := by decide +kernel
theorem dX5_fails_0 : decode cX5_fails 0 = .ok (.aload_n 0, 1) := by decide +kernel
theorem dX5_fails_1 : decode cX5_fails 1 = .ok (.getfield 89, 3) := by decide +kernel
theorem dX5_fails_4 : decode cX5_fails 4 = .ok (.ifCond .le 76, 3) := by decide +kernel
theorem dX5_fails_7 : decode cX5_fails 7 = .ok (.aload_n 0, 1) := by decide +kernel
theorem dX5_fails_8 : decode cX5_fails 8 = .ok (.getfield 46, 3) := by decide +kernel
theorem dX5_fails_11 : decode cX5_fails 11 = .ok (.aload_n 0, 1) := by decide +kernel
theorem dX5_fails_12 : decode cX5_fails 12 = .ok (.getfield 89, 3) := by decide +kernel
theorem dX5_fails_15 : decode cX5_fails 15 = .ok (.iconst 1, 1) := by decide +kernel
theorem dX5_fails_16 : decode cX5_fails 16 = .ok (.isub, 1) := by decide +kernel
theorem dX5_fails_17 : decode cX5_fails 17 = .ok (.iaload, 1) := by decide +kernel
theorem dX5_fails_18 : decode cX5_fails 18 = .ok (.iconst 2, 1) := by decide +kernel
theorem dX5_fails_19 : decode cX5_fails 19 = .ok (.if_icmp .ne 42, 3) := by decide +kernel
theorem dX5_fails_22 : decode cX5_fails 22 = .ok (.iload_n 1, 1) := by decide +kernel
theorem dX5_fails_23 : decode cX5_fails 23 = .ok (.bipush 40, 2) := by decide +kernel
theorem dX5_fails_25 : decode cX5_fails 25 = .ok (.if_icmp .eq 36, 3) := by decide +kernel
theorem dX5_fails_28 : decode cX5_fails 28 = .ok (.aload_n 0, 1) := by decide +kernel
theorem dX5_fails_29 : decode cX5_fails 29 = .ok (.getfield 58, 3) := by decide +kernel
theorem dX5_fails_32 : decode cX5_fails 32 = .ok (.aload_n 0, 1) := by decide +kernel
theorem dX5_fails_33 : decode cX5_fails 33 = .ok (.getfield 89, 3) := by decide +kernel
theorem dX5_fails_36 : decode cX5_fails 36 = .ok (.iconst 1, 1) := by decide +kernel
theorem dX5_fails_37 : decode cX5_fails 37 = .ok (.isub, 1) := by decide +kernel
theorem dX5_fails_38 : decode cX5_fails 38 = .ok (.iaload, 1) := by decide +kernel
theorem dX5_fails_39 : decode cX5_fails 39 = .ok (.ifCond .eq 18, 3) := by decide +kernel
theorem dX5_fails_42 : decode cX5_fails 42 = .ok (.aload_n 0, 1) := by decide +kernel
theorem dX5_fails_43 : decode cX5_fails 43 = .ok (.getfield 58, 3) := by decide +kernel
theorem dX5_fails_46 : decode cX5_fails 46 = .ok (.aload_n 0, 1) := by decide +kernel
theorem dX5_fails_47 : decode cX5_fails 47 = .ok (.getfield 89, 3) := by decide +kernel
theorem dX5_fails_50 : decode cX5_fails 50 = .ok (.iconst 1, 1) := by decide +kernel
theorem dX5_fails_51 : decode cX5_fails 51 = .ok (.isub, 1) := by decide +kernel
theorem dX5_fails_52 : decode cX5_fails 52 = .ok (.iaload, 1) := by decide +kernel
theorem dX5_fails_53 : decode cX5_fails 53 = .ok (.iload_n 1, 1) := by decide +kernel
theorem dX5_fails_54 : decode cX5_fails 54 = .ok (.if_icmp .ne 7, 3) := by decide +kernel
theorem dX5_fails_57 : decode cX5_fails 57 = .ok (.iconst 1, 1) := by decide +kernel
theorem dX5_fails_58 : decode cX5_fails 58 = .ok (.goto 4, 3) := by decide +kernel
theorem dX5_fails_61 : decode cX5_fails 61 = .ok (.iconst 0, 1) := by decide +kernel
theorem dX5_fails_62 : decode cX5_fails 62 = .ok (.istore_n 2, 1) := by decide +kernel
theorem dX5_fails_63 : decode cX5_fails 63 = .ok (.aload_n 0, 1) := by decide +kernel
theorem dX5_fails_64 : decode cX5_fails 64 = .ok (.invokevirtual 105, 3) := by decide +kernel
theorem dX5_fails_67 : decode cX5_fails 67 = .ok (.iload_n 2, 1) := by decide +kernel
theorem dX5_fails_68 : decode cX5_fails 68 = .ok (.ifCond .eq 9, 3) := by decide +kernel
theorem dX5_fails_71 : decode cX5_fails 71 = .ok (.aload_n 0, 1) := by decide +kernel
theorem dX5_fails_72 : decode cX5_fails 72 = .ok (.iload_n 1, 1) := by decide +kernel
theorem dX5_fails_73 : decode cX5_fails 73 = .ok (.putfield 108, 3) := by decide +kernel
theorem dX5_fails_76 : decode cX5_fails 76 = .ok (.return_, 1) := by decide +kernel
theorem dX5_fails_77 : decode cX5_fails 77 = .ok (.goto (-77), 3) := by decide +kernel
theorem dX5_fails_80 : decode cX5_fails 80 = .ok (.aload_n 0, 1) := by decide +kernel
theorem dX5_fails_81 : decode cX5_fails 81 = .ok (.iload_n 1, 1) := by decide +kernel
theorem dX5_fails_82 : decode cX5_fails 82 = .ok (.putfield 111, 3) := by decide +kernel
theorem dX5_fails_85 : decode cX5_fails 85 = .ok (.return_, 1) := by decide +kernel
theorem dX5_within_0 : decode cX5_within 0 = .ok (.aload_n 0, 1) := by decide +kernel
theorem dX5_within_1 : decode cX5_within 1 = .ok (.getfield 89, 3) := by decide +kernel
theorem dX5_within_4 : decode cX5_within 4 = .ok (.iconst 1, 1) := by decide +kernel
theorem dX5_within_5 : decode cX5_within 5 = .ok (.isub, 1) := by decide +kernel
theorem dX5_within_6 : decode cX5_within 6 = .ok (.istore 4, 2) := by decide +kernel
theorem dX5_within_8 : decode cX5_within 8 = .ok (.aload_n 0, 1) := by decide +kernel
theorem dX5_within_9 : decode cX5_within 9 = .ok (.getfield 52, 3) := by decide +kernel
theorem dX5_within_12 : decode cX5_within 12 = .ok (.iload 4, 2) := by decide +kernel
theorem dX5_within_14 : decode cX5_within 14 = .ok (.iaload, 1) := by decide +kernel
theorem dX5_within_15 : decode cX5_within 15 = .ok (.istore 5, 2) := by decide +kernel
theorem dX5_within_17 : decode cX5_within 17 = .ok (.iload 5, 2) := by decide +kernel
theorem dX5_within_19 : decode cX5_within 19 = .ok (.iload_n 2, 1) := by decide +kernel
theorem dX5_within_20 : decode cX5_within 20 = .ok (.iadd, 1) := by decide +kernel
theorem dX5_within_21 : decode cX5_within 21 = .ok (.aload_n 0, 1) := by decide +kernel
theorem dX5_within_22 : decode cX5_within 22 = .ok (.getfield 55, 3) := by decide +kernel
theorem dX5_within_25 : decode cX5_within 25 = .ok (.iload 4, 2) := by decide +kernel
theorem dX5_within_27 : decode cX5_within 27 = .ok (.iaload, 1) := by decide +kernel
theorem dX5_within_28 : decode cX5_within 28 = .ok (.if_icmp .ge 10, 3) := by decide +kernel
theorem dX5_within_31 : decode cX5_within 31 = .ok (.iload 5, 2) := by decide +kernel
theorem dX5_within_33 : decode cX5_within 33 = .ok (.iload_n 2, 1) := by decide +kernel
theorem dX5_within_34 : decode cX5_within 34 = .ok (.iadd, 1) := by decide +kernel
theorem dX5_within_35 : decode cX5_within 35 = .ok (.goto 10, 3) := by decide +kernel
theorem dX5_within_38 : decode cX5_within 38 = .ok (.aload_n 0, 1) := by decide +kernel
theorem dX5_within_39 : decode cX5_within 39 = .ok (.getfield 55, 3) := by decide +kernel
theorem dX5_within_42 : decode cX5_within 42 = .ok (.iload 4, 2) := by decide +kernel
theorem dX5_within_44 : decode cX5_within 44 = .ok (.iaload, 1) := by decide +kernel
theorem dX5_within_45 : decode cX5_within 45 = .ok (.istore 6, 2) := by decide +kernel
theorem dX5_within_47 : decode cX5_within 47 = .ok (.aload_n 0, 1) := by decide +kernel
theorem dX5_within_48 : decode cX5_within 48 = .ok (.getfield 52, 3) := by decide +kernel
theorem dX5_within_51 : decode cX5_within 51 = .ok (.iload 4, 2) := by decide +kernel
theorem dX5_within_53 : decode cX5_within 53 = .ok (.iload 6, 2) := by decide +kernel
theorem dX5_within_55 : decode cX5_within 55 = .ok (.iastore, 1) := by decide +kernel
theorem dX5_within_56 : decode cX5_within 56 = .ok (.aload_n 0, 1) := by decide +kernel
theorem dX5_within_57 : decode cX5_within 57 = .ok (.iload_n 1, 1) := by decide +kernel
theorem dX5_within_58 : decode cX5_within 58 = .ok (.aload_n 0, 1) := by decide +kernel
theorem dX5_within_59 : decode cX5_within 59 = .ok (.getfield 49, 3) := by decide +kernel
theorem dX5_within_62 : decode cX5_within 62 = .ok (.iload 4, 2) := by decide +kernel
theorem dX5_within_64 : decode cX5_within 64 = .ok (.iaload, 1) := by decide +kernel
theorem dX5_within_65 : decode cX5_within 65 = .ok (.iload 5, 2) := by decide +kernel
theorem dX5_within_67 : decode cX5_within 67 = .ok (.iload 6, 2) := by decide +kernel
theorem dX5_within_69 : decode cX5_within 69 = .ok (.iload_n 3, 1) := by decide +kernel
theorem dX5_within_70 : decode cX5_within 70 = .ok (.invokevirtual 98, 3) := by decide +kernel
theorem dX5_within_73 : decode cX5_within 73 = .ok (.return_, 1) := by decide +kernel
theorem dX5_back_0 : decode cX5_back 0 = .ok (.aload_n 0, 1) := by decide +kernel
theorem dX5_back_1 : decode cX5_back 1 = .ok (.iload_n 1, 1) := by decide +kernel
theorem dX5_back_2 : decode cX5_back 2 = .ok (.putfield 108, 3) := by decide +kernel
theorem dX5_back_5 : decode cX5_back 5 = .ok (.aload_n 0, 1) := by decide +kernel
theorem dX5_back_6 : decode cX5_back 6 = .ok (.getfield 46, 3) := by decide +kernel
theorem dX5_back_9 : decode cX5_back 9 = .ok (.aload_n 0, 1) := by decide +kernel
theorem dX5_back_10 : decode cX5_back 10 = .ok (.getfield 89, 3) := by decide +kernel
theorem dX5_back_13 : decode cX5_back 13 = .ok (.iconst 1, 1) := by decide +kernel
theorem dX5_back_14 : decode cX5_back 14 = .ok (.isub, 1) := by decide +kernel
theorem dX5_back_15 : decode cX5_back 15 = .ok (.iaload, 1) := by decide +kernel
theorem dX5_back_16 : decode cX5_back 16 = .ok (.ifCond .eq 10, 3) := by decide +kernel
theorem dX5_back_19 : decode cX5_back 19 = .ok (.aload_n 0, 1) := by decide +kernel
theorem dX5_back_20 : decode cX5_back 20 = .ok (.invokevirtual 105, 3) := by decide +kernel
theorem dX5_back_23 : decode cX5_back 23 = .ok (.goto (-18), 3) := by decide +kernel
theorem dX5_back_26 : decode cX5_back 26 = .ok (.aload_n 0, 1) := by decide +kernel
theorem dX5_back_27 : decode cX5_back 27 = .ok (.invokevirtual 105, 3) := by decide +kernel
theorem dX5_back_30 : decode cX5_back 30 = .ok (.return_, 1) := by decide +kernel
theorem dX5_seek_0 : decode cX5_seek 0 = .ok (.aload_n 0, 1) := by decide +kernel
theorem dX5_seek_1 : decode cX5_seek 1 = .ok (.iconst (-1), 1) := by decide +kernel
theorem dX5_seek_2 : decode cX5_seek 2 = .ok (.putfield 108, 3) := by decide +kernel
theorem dX5_seek_5 : decode cX5_seek 5 = .ok (.iload_n 1, 1) := by decide +kernel
theorem dX5_seek_6 : decode cX5_seek 6 = .ok (.istore_n 3, 1) := by decide +kernel
theorem dX5_seek_7 : decode cX5_seek 7 = .ok (.iload_n 3, 1) := by decide +kernel
theorem dX5_seek_8 : decode cX5_seek 8 = .ok (.bipush 8, 2) := by decide +kernel
theorem dX5_seek_10 : decode cX5_seek 10 = .ok (.if_icmp .ge 67, 3) := by decide +kernel
theorem dX5_seek_13 : decode cX5_seek 13 = .ok (.aload_n 0, 1) := by decide +kernel
theorem dX5_seek_14 : decode cX5_seek 14 = .ok (.getfield 108, 3) := by decide +kernel
theorem dX5_seek_17 : decode cX5_seek 17 = .ok (.ifCond .ge 60, 3) := by decide +kernel
theorem dX5_seek_20 : decode cX5_seek 20 = .ok (.aload_n 0, 1) := by decide +kernel
theorem dX5_seek_21 : decode cX5_seek 21 = .ok (.getfield 28, 3) := by decide +kernel
theorem dX5_seek_24 : decode cX5_seek 24 = .ok (.iload_n 3, 1) := by decide +kernel
theorem dX5_seek_25 : decode cX5_seek 25 = .ok (.iaload, 1) := by decide +kernel
theorem dX5_seek_26 : decode cX5_seek 26 = .ok (.istore 4, 2) := by decide +kernel
theorem dX5_seek_28 : decode cX5_seek 28 = .ok (.iload 4, 2) := by decide +kernel
theorem dX5_seek_30 : decode cX5_seek 30 = .ok (.iconst (-1), 1) := by decide +kernel
theorem dX5_seek_31 : decode cX5_seek 31 = .ok (.if_icmp .eq 40, 3) := by decide +kernel
theorem dX5_seek_34 : decode cX5_seek 34 = .ok (.aload_n 0, 1) := by decide +kernel
theorem dX5_seek_35 : decode cX5_seek 35 = .ok (.iload 4, 2) := by decide +kernel
theorem dX5_seek_37 : decode cX5_seek 37 = .ok (.invokevirtual 70, 3) := by decide +kernel
theorem dX5_seek_40 : decode cX5_seek 40 = .ok (.aload_n 0, 1) := by decide +kernel
theorem dX5_seek_41 : decode cX5_seek 41 = .ok (.getfield 22, 3) := by decide +kernel
theorem dX5_seek_44 : decode cX5_seek 44 = .ok (.iload 4, 2) := by decide +kernel
theorem dX5_seek_46 : decode cX5_seek 46 = .ok (.dup2, 1) := by decide +kernel
theorem dX5_seek_47 : decode cX5_seek 47 = .ok (.iaload, 1) := by decide +kernel
theorem dX5_seek_48 : decode cX5_seek 48 = .ok (.iconst 1, 1) := by decide +kernel
theorem dX5_seek_49 : decode cX5_seek 49 = .ok (.isub, 1) := by decide +kernel
theorem dX5_seek_50 : decode cX5_seek 50 = .ok (.iastore, 1) := by decide +kernel
theorem dX5_seek_51 : decode cX5_seek 51 = .ok (.aload_n 0, 1) := by decide +kernel
theorem dX5_seek_52 : decode cX5_seek 52 = .ok (.aload_n 0, 1) := by decide +kernel
theorem dX5_seek_53 : decode cX5_seek 53 = .ok (.getfield 13, 3) := by decide +kernel
theorem dX5_seek_56 : decode cX5_seek 56 = .ok (.iload 4, 2) := by decide +kernel
theorem dX5_seek_58 : decode cX5_seek 58 = .ok (.iaload, 1) := by decide +kernel
theorem dX5_seek_59 : decode cX5_seek 59 = .ok (.iload_n 2, 1) := by decide +kernel
theorem dX5_seek_60 : decode cX5_seek 60 = .ok (.if_icmp .lt 7, 3) := by decide +kernel
theorem dX5_seek_63 : decode cX5_seek 63 = .ok (.iload_n 3, 1) := by decide +kernel
theorem dX5_seek_64 : decode cX5_seek 64 = .ok (.goto 4, 3) := by decide +kernel
theorem dX5_seek_67 : decode cX5_seek 67 = .ok (.iconst (-1), 1) := by decide +kernel
theorem dX5_seek_68 : decode cX5_seek 68 = .ok (.putfield 108, 3) := by decide +kernel
theorem dX5_seek_71 : decode cX5_seek 71 = .ok (.iinc 3 1, 3) := by decide +kernel
theorem dX5_seek_74 : decode cX5_seek 74 = .ok (.goto (-67), 3) := by decide +kernel
theorem dX5_seek_77 : decode cX5_seek 77 = .ok (.return_, 1) := by decide +kernel
theorem dX5_withSafe_0 : decode cX5_withSafe 0 = .ok (.iload_n 2, 1) := by decide +kernel
theorem dX5_withSafe_1 : decode cX5_withSafe 1 = .ok (.iconst (-1), 1) := by decide +kernel
theorem dX5_withSafe_2 : decode cX5_withSafe 2 = .ok (.if_icmp .ne 9, 3) := by decide +kernel
theorem dX5_withSafe_5 : decode cX5_withSafe 5 = .ok (.aload_n 0, 1) := by decide +kernel
theorem dX5_withSafe_6 : decode cX5_withSafe 6 = .ok (.iconst 1, 1) := by decide +kernel
theorem dX5_withSafe_7 : decode cX5_withSafe 7 = .ok (.invokevirtual 114, 3) := by decide +kernel
theorem dX5_withSafe_10 : decode cX5_withSafe 10 = .ok (.return_, 1) := by decide +kernel
end
section
theorem dX5_withSafe_11 : decode cX5_withSafe 11 = .ok (.iconst 0, 1) := by decide +kernel
theorem dX5_withSafe_12 : decode cX5_withSafe 12 = .ok (.istore 4, 2) := by decide +kernel
theorem dX5_withSafe_14 : decode cX5_withSafe 14 = .ok (.iload_n 1, 1) := by decide +kernel
theorem dX5_withSafe_15 : decode cX5_withSafe 15 = .ok (.tableswitch 108 0 4 #[33, 108, 53, 73, 85], 33) := by decide +kernel
theorem dX5_withSafe_48 : decode cX5_withSafe 48 = .ok (.aload_n 0, 1) := by decide +kernel
theorem dX5_withSafe_49 : decode cX5_withSafe 49 = .ok (.iload_n 2, 1) := by decide +kernel
theorem dX5_withSafe_50 : decode cX5_withSafe 50 = .ok (.invokevirtual 70, 3) := by decide +kernel
theorem dX5_withSafe_53 : decode cX5_withSafe 53 = .ok (.aload_n 0, 1) := by decide +kernel
theorem dX5_withSafe_54 : decode cX5_withSafe 54 = .ok (.iconst 1, 1) := by decide +kernel
theorem dX5_withSafe_55 : decode cX5_withSafe 55 = .ok (.invokevirtual 102, 3) := by decide +kernel
theorem dX5_withSafe_58 : decode cX5_withSafe 58 = .ok (.aload_n 0, 1) := by decide +kernel
theorem dX5_withSafe_59 : decode cX5_withSafe 59 = .ok (.iconst 1, 1) := by decide +kernel
theorem dX5_withSafe_60 : decode cX5_withSafe 60 = .ok (.iload_n 3, 1) := by decide +kernel
theorem dX5_withSafe_61 : decode cX5_withSafe 61 = .ok (.iload_n 2, 1) := by decide +kernel
theorem dX5_withSafe_62 : decode cX5_withSafe 62 = .ok (.invokevirtual 117, 3) := by decide +kernel
theorem dX5_withSafe_65 : decode cX5_withSafe 65 = .ok (.goto 68, 3) := by decide +kernel
theorem dX5_withSafe_68 : decode cX5_withSafe 68 = .ok (.aload_n 0, 1) := by decide +kernel
theorem dX5_withSafe_69 : decode cX5_withSafe 69 = .ok (.iload_n 2, 1) := by decide +kernel
theorem dX5_withSafe_70 : decode cX5_withSafe 70 = .ok (.iload_n 3, 1) := by decide +kernel
theorem dX5_withSafe_71 : decode cX5_withSafe 71 = .ok (.invokevirtual 83, 3) := by decide +kernel
theorem dX5_withSafe_74 : decode cX5_withSafe 74 = .ok (.ifCond .eq 7, 3) := by decide +kernel
theorem dX5_withSafe_77 : decode cX5_withSafe 77 = .ok (.iconst 0, 1) := by decide +kernel
theorem dX5_withSafe_78 : decode cX5_withSafe 78 = .ok (.goto 5, 3) := by decide +kernel
theorem dX5_withSafe_81 : decode cX5_withSafe 81 = .ok (.bipush 30, 2) := by decide +kernel
theorem dX5_withSafe_83 : decode cX5_withSafe 83 = .ok (.istore 4, 2) := by decide +kernel
theorem dX5_withSafe_85 : decode cX5_withSafe 85 = .ok (.goto 48, 3) := by decide +kernel
theorem dX5_withSafe_88 : decode cX5_withSafe 88 = .ok (.aload_n 0, 1) := by decide +kernel
theorem dX5_withSafe_89 : decode cX5_withSafe 89 = .ok (.aload_n 0, 1) := by decide +kernel
theorem dX5_withSafe_90 : decode cX5_withSafe 90 = .ok (.iload_n 2, 1) := by decide +kernel
theorem dX5_withSafe_91 : decode cX5_withSafe 91 = .ok (.invokevirtual 121, 3) := by decide +kernel
theorem dX5_withSafe_94 : decode cX5_withSafe 94 = .ok (.putfield 108, 3) := by decide +kernel
theorem dX5_withSafe_97 : decode cX5_withSafe 97 = .ok (.goto 36, 3) := by decide +kernel
theorem dX5_withSafe_100 : decode cX5_withSafe 100 = .ok (.aload_n 0, 1) := by decide +kernel
theorem dX5_withSafe_101 : decode cX5_withSafe 101 = .ok (.iload_n 2, 1) := by decide +kernel
theorem dX5_withSafe_102 : decode cX5_withSafe 102 = .ok (.aload_n 0, 1) := by decide +kernel
theorem dX5_withSafe_103 : decode cX5_withSafe 103 = .ok (.getfield 28, 3) := by decide +kernel
theorem dX5_withSafe_106 : decode cX5_withSafe 106 = .ok (.iload_n 3, 1) := by decide +kernel
theorem dX5_withSafe_107 : decode cX5_withSafe 107 = .ok (.bipush 7, 2) := by decide +kernel
theorem dX5_withSafe_109 : decode cX5_withSafe 109 = .ok (.iand, 1) := by decide +kernel
theorem dX5_withSafe_110 : decode cX5_withSafe 110 = .ok (.iaload, 1) := by decide +kernel
theorem dX5_withSafe_111 : decode cX5_withSafe 111 = .ok (.aload_n 0, 1) := by decide +kernel
theorem dX5_withSafe_112 : decode cX5_withSafe 112 = .ok (.getfield 108, 3) := by decide +kernel
theorem dX5_withSafe_115 : decode cX5_withSafe 115 = .ok (.invokevirtual 125, 3) := by decide +kernel
theorem dX5_withSafe_118 : decode cX5_withSafe 118 = .ok (.istore 4, 2) := by decide +kernel
theorem dX5_withSafe_120 : decode cX5_withSafe 120 = .ok (.goto 13, 3) := by decide +kernel
theorem dX5_withSafe_123 : decode cX5_withSafe 123 = .ok (.aload_n 0, 1) := by decide +kernel
theorem dX5_withSafe_124 : decode cX5_withSafe 124 = .ok (.aload_n 0, 1) := by decide +kernel
theorem dX5_withSafe_125 : decode cX5_withSafe 125 = .ok (.getfield 22, 3) := by decide +kernel
theorem dX5_withSafe_128 : decode cX5_withSafe 128 = .ok (.iload_n 2, 1) := by decide +kernel
theorem dX5_withSafe_129 : decode cX5_withSafe 129 = .ok (.iaload, 1) := by decide +kernel
theorem dX5_withSafe_130 : decode cX5_withSafe 130 = .ok (.putfield 108, 3) := by decide +kernel
theorem dX5_withSafe_133 : decode cX5_withSafe 133 = .ok (.iload 4, 2) := by decide +kernel
theorem dX5_withSafe_135 : decode cX5_withSafe 135 = .ok (.ifCond .eq 9, 3) := by decide +kernel
theorem dX5_withSafe_138 : decode cX5_withSafe 138 = .ok (.aload_n 0, 1) := by decide +kernel
theorem dX5_withSafe_139 : decode cX5_withSafe 139 = .ok (.iload 4, 2) := by decide +kernel
theorem dX5_withSafe_141 : decode cX5_withSafe 141 = .ok (.invokevirtual 114, 3) := by decide +kernel
theorem dX5_withSafe_144 : decode cX5_withSafe 144 = .ok (.return_, 1) := by decide +kernel
theorem dX5_does_0 : decode cX5_does 0 = .ok (.iload_n 1, 1) := by decide +kernel
theorem dX5_does_1 : decode cX5_does 1 = .ok (.tableswitch 194 1 13 #[67, 194, 194, 194, 77, 95, 194, 105, 131, 139, 147, 160, 185], 67) := by decide +kernel
theorem dX5_does_68 : decode cX5_does 68 = .ok (.aload_n 0, 1) := by decide +kernel
theorem dX5_does_69 : decode cX5_does 69 = .ok (.iconst 2, 1) := by decide +kernel
theorem dX5_does_70 : decode cX5_does 70 = .ok (.iload_n 3, 1) := by decide +kernel
theorem dX5_does_71 : decode cX5_does 71 = .ok (.iload_n 2, 1) := by decide +kernel
theorem dX5_does_72 : decode cX5_does 72 = .ok (.invokevirtual 117, 3) := by decide +kernel
theorem dX5_does_75 : decode cX5_does 75 = .ok (.goto 132, 3) := by decide +kernel
theorem dX5_does_78 : decode cX5_does 78 = .ok (.aload_n 0, 1) := by decide +kernel
theorem dX5_does_79 : decode cX5_does 79 = .ok (.getfield 28, 3) := by decide +kernel
theorem dX5_does_82 : decode cX5_does 82 = .ok (.iload_n 2, 1) := by decide +kernel
theorem dX5_does_83 : decode cX5_does 83 = .ok (.aload_n 0, 1) := by decide +kernel
theorem dX5_does_84 : decode cX5_does 84 = .ok (.getfield 28, 3) := by decide +kernel
theorem dX5_does_87 : decode cX5_does 87 = .ok (.iload_n 3, 1) := by decide +kernel
theorem dX5_does_88 : decode cX5_does 88 = .ok (.bipush 7, 2) := by decide +kernel
theorem dX5_does_90 : decode cX5_does 90 = .ok (.iand, 1) := by decide +kernel
theorem dX5_does_91 : decode cX5_does 91 = .ok (.iaload, 1) := by decide +kernel
theorem dX5_does_92 : decode cX5_does 92 = .ok (.iastore, 1) := by decide +kernel
theorem dX5_does_93 : decode cX5_does 93 = .ok (.goto 114, 3) := by decide +kernel
theorem dX5_does_96 : decode cX5_does 96 = .ok (.aload_n 0, 1) := by decide +kernel
theorem dX5_does_97 : decode cX5_does 97 = .ok (.getfield 28, 3) := by decide +kernel
theorem dX5_does_100 : decode cX5_does 100 = .ok (.iload_n 2, 1) := by decide +kernel
theorem dX5_does_101 : decode cX5_does 101 = .ok (.iconst (-1), 1) := by decide +kernel
theorem dX5_does_102 : decode cX5_does 102 = .ok (.iastore, 1) := by decide +kernel
theorem dX5_does_103 : decode cX5_does 103 = .ok (.goto 104, 3) := by decide +kernel
theorem dX5_does_106 : decode cX5_does 106 = .ok (.iload_n 2, 1) := by decide +kernel
theorem dX5_does_107 : decode cX5_does 107 = .ok (.ifCond .ne 12, 3) := by decide +kernel
theorem dX5_does_110 : decode cX5_does 110 = .ok (.aload_n 0, 1) := by decide +kernel
theorem dX5_does_111 : decode cX5_does 111 = .ok (.bipush 6, 2) := by decide +kernel
theorem dX5_does_113 : decode cX5_does 113 = .ok (.invokevirtual 114, 3) := by decide +kernel
theorem dX5_does_116 : decode cX5_does 116 = .ok (.goto 91, 3) := by decide +kernel
theorem dX5_does_119 : decode cX5_does 119 = .ok (.aload_n 0, 1) := by decide +kernel
theorem dX5_does_120 : decode cX5_does 120 = .ok (.aload_n 0, 1) := by decide +kernel
theorem dX5_does_121 : decode cX5_does 121 = .ok (.getfield 108, 3) := by decide +kernel
theorem dX5_does_124 : decode cX5_does 124 = .ok (.iload_n 2, 1) := by decide +kernel
theorem dX5_does_125 : decode cX5_does 125 = .ok (.idiv, 1) := by decide +kernel
theorem dX5_does_126 : decode cX5_does 126 = .ok (.putfield 108, 3) := by decide +kernel
theorem dX5_does_129 : decode cX5_does 129 = .ok (.goto 78, 3) := by decide +kernel
theorem dX5_does_132 : decode cX5_does 132 = .ok (.aload_n 0, 1) := by decide +kernel
theorem dX5_does_133 : decode cX5_does 133 = .ok (.iload_n 2, 1) := by decide +kernel
theorem dX5_does_134 : decode cX5_does 134 = .ok (.invokevirtual 114, 3) := by decide +kernel
theorem dX5_does_137 : decode cX5_does 137 = .ok (.goto 70, 3) := by decide +kernel
theorem dX5_does_140 : decode cX5_does 140 = .ok (.aload_n 0, 1) := by decide +kernel
theorem dX5_does_141 : decode cX5_does 141 = .ok (.iload_n 2, 1) := by decide +kernel
theorem dX5_does_142 : decode cX5_does 142 = .ok (.invokevirtual 129, 3) := by decide +kernel
theorem dX5_does_145 : decode cX5_does 145 = .ok (.goto 62, 3) := by decide +kernel
theorem dX5_does_148 : decode cX5_does 148 = .ok (.aload_n 0, 1) := by decide +kernel
theorem dX5_does_149 : decode cX5_does 149 = .ok (.aload_n 0, 1) := by decide +kernel
theorem dX5_does_150 : decode cX5_does 150 = .ok (.getfield 108, 3) := by decide +kernel
theorem dX5_does_153 : decode cX5_does 153 = .ok (.iload_n 2, 1) := by decide +kernel
theorem dX5_does_154 : decode cX5_does 154 = .ok (.iadd, 1) := by decide +kernel
theorem dX5_does_155 : decode cX5_does 155 = .ok (.putfield 108, 3) := by decide +kernel
theorem dX5_does_158 : decode cX5_does 158 = .ok (.goto 49, 3) := by decide +kernel
theorem dX5_does_161 : decode cX5_does 161 = .ok (.aload_n 0, 1) := by decide +kernel
theorem dX5_does_162 : decode cX5_does 162 = .ok (.getfield 92, 3) := by decide +kernel
theorem dX5_does_165 : decode cX5_does 165 = .ok (.iconst 4, 1) := by decide +kernel
theorem dX5_does_166 : decode cX5_does 166 = .ok (.if_icmp .ne 12, 3) := by decide +kernel
theorem dX5_does_169 : decode cX5_does 169 = .ok (.aload_n 0, 1) := by decide +kernel
theorem dX5_does_170 : decode cX5_does 170 = .ok (.bipush 7, 2) := by decide +kernel
theorem dX5_does_172 : decode cX5_does 172 = .ok (.invokevirtual 114, 3) := by decide +kernel
theorem dX5_does_175 : decode cX5_does 175 = .ok (.goto 32, 3) := by decide +kernel
theorem dX5_does_178 : decode cX5_does 178 = .ok (.aload_n 0, 1) := by decide +kernel
theorem dX5_does_179 : decode cX5_does 179 = .ok (.iload_n 2, 1) := by decide +kernel
theorem dX5_does_180 : decode cX5_does 180 = .ok (.invokevirtual 132, 3) := by decide +kernel
theorem dX5_does_183 : decode cX5_does 183 = .ok (.goto 24, 3) := by decide +kernel
theorem dX5_does_186 : decode cX5_does 186 = .ok (.aload_n 0, 1) := by decide +kernel
theorem dX5_does_187 : decode cX5_does 187 = .ok (.iload_n 2, 1) := by decide +kernel
theorem dX5_does_188 : decode cX5_does 188 = .ok (.iload_n 3, 1) := by decide +kernel
theorem dX5_does_189 : decode cX5_does 189 = .ok (.invokevirtual 135, 3) := by decide +kernel
theorem dX5_does_192 : decode cX5_does 192 = .ok (.goto 15, 3) := by decide +kernel
theorem dX5_does_195 : decode cX5_does 195 = .ok (.aload_n 0, 1) := by decide +kernel
theorem dX5_does_196 : decode cX5_does 196 = .ok (.iload_n 1, 1) := by decide +kernel
theorem dX5_does_197 : decode cX5_does 197 = .ok (.aload_n 0, 1) := by decide +kernel
theorem dX5_does_198 : decode cX5_does 198 = .ok (.getfield 28, 3) := by decide +kernel
theorem dX5_does_201 : decode cX5_does 201 = .ok (.iload_n 2, 1) := by decide +kernel
theorem dX5_does_202 : decode cX5_does 202 = .ok (.iaload, 1) := by decide +kernel
theorem dX5_does_203 : decode cX5_does 203 = .ok (.iload_n 3, 1) := by decide +kernel
theorem dX5_does_204 : decode cX5_does 204 = .ok (.invokevirtual 139, 3) := by decide +kernel
theorem dX5_does_207 : decode cX5_does 207 = .ok (.return_, 1) := by decide +kernel
theorem dX5_run_0 : decode cX5_run 0 = .ok (.iload_n 1, 1) := by decide +kernel
theorem dX5_run_1 : decode cX5_run 1 = .ok (.iconst 0, 1) := by decide +kernel
theorem dX5_run_2 : decode cX5_run 2 = .ok (.iconst 5, 1) := by decide +kernel
theorem dX5_run_3 : decode cX5_run 3 = .ok (.invokestatic 61, 3) := by decide +kernel
theorem dX5_run_6 : decode cX5_run 6 = .ok (.ifCond .ne 5, 3) := by decide +kernel
theorem dX5_run_9 : decode cX5_run 9 = .ok (.iconst (-1), 1) := by decide +kernel
theorem dX5_run_10 : decode cX5_run 10 = .ok (.ireturn, 1) := by decide +kernel
theorem dX5_run_11 : decode cX5_run 11 = .ok (.aload_n 0, 1) := by decide +kernel
theorem dX5_run_12 : decode cX5_run 12 = .ok (.iload_n 2, 1) := by decide +kernel
theorem dX5_run_13 : decode cX5_run 13 = .ok (.putfield 108, 3) := by decide +kernel
theorem dX5_run_16 : decode cX5_run 16 = .ok (.aload_n 0, 1) := by decide +kernel
theorem dX5_run_17 : decode cX5_run 17 = .ok (.iconst 0, 1) := by decide +kernel
theorem dX5_run_18 : decode cX5_run 18 = .ok (.putfield 142, 3) := by decide +kernel
theorem dX5_run_21 : decode cX5_run 21 = .ok (.aload_n 0, 1) := by decide +kernel
theorem dX5_run_22 : decode cX5_run 22 = .ok (.iconst 0, 1) := by decide +kernel
theorem dX5_run_23 : decode cX5_run 23 = .ok (.putfield 111, 3) := by decide +kernel
theorem dX5_run_26 : decode cX5_run 26 = .ok (.aload_n 0, 1) := by decide +kernel
theorem dX5_run_27 : decode cX5_run 27 = .ok (.iconst 0, 1) := by decide +kernel
theorem dX5_run_28 : decode cX5_run 28 = .ok (.putfield 92, 3) := by decide +kernel
theorem dX5_run_31 : decode cX5_run 31 = .ok (.aload_n 0, 1) := by decide +kernel
theorem dX5_run_32 : decode cX5_run 32 = .ok (.iconst 0, 1) := by decide +kernel
theorem dX5_run_33 : decode cX5_run 33 = .ok (.putfield 95, 3) := by decide +kernel
theorem dX5_run_36 : decode cX5_run 36 = .ok (.aload_n 0, 1) := by decide +kernel
theorem dX5_run_37 : decode cX5_run 37 = .ok (.iconst 0, 1) := by decide +kernel
theorem dX5_run_38 : decode cX5_run 38 = .ok (.putfield 86, 3) := by decide +kernel
theorem dX5_run_41 : decode cX5_run 41 = .ok (.aload_n 0, 1) := by decide +kernel
theorem dX5_run_42 : decode cX5_run 42 = .ok (.iconst 0, 1) := by decide +kernel
theorem dX5_run_43 : decode cX5_run 43 = .ok (.putfield 89, 3) := by decide +kernel
theorem dX5_run_46 : decode cX5_run 46 = .ok (.aload_n 0, 1) := by decide +kernel
theorem dX5_run_47 : decode cX5_run 47 = .ok (.iload_n 1, 1) := by decide +kernel
theorem dX5_run_48 : decode cX5_run 48 = .ok (.invokevirtual 132, 3) := by decide +kernel
theorem dX5_run_51 : decode cX5_run 51 = .ok (.aload_n 0, 1) := by decide +kernel
theorem dX5_run_52 : decode cX5_run 52 = .ok (.getfield 89, 3) := by decide +kernel
theorem dX5_run_55 : decode cX5_run 55 = .ok (.ifCond .le 131, 3) := by decide +kernel
theorem dX5_run_58 : decode cX5_run 58 = .ok (.aload_n 0, 1) := by decide +kernel
theorem dX5_run_59 : decode cX5_run 59 = .ok (.getfield 89, 3) := by decide +kernel
theorem dX5_run_62 : decode cX5_run 62 = .ok (.iconst 1, 1) := by decide +kernel
theorem dX5_run_63 : decode cX5_run 63 = .ok (.isub, 1) := by decide +kernel
theorem dX5_run_64 : decode cX5_run 64 = .ok (.istore_n 3, 1) := by decide +kernel
theorem dX5_run_65 : decode cX5_run 65 = .ok (.aload_n 0, 1) := by decide +kernel
theorem dX5_run_66 : decode cX5_run 66 = .ok (.getfield 52, 3) := by decide +kernel
theorem dX5_run_69 : decode cX5_run 69 = .ok (.iload_n 3, 1) := by decide +kernel
theorem dX5_run_70 : decode cX5_run 70 = .ok (.iaload, 1) := by decide +kernel
theorem dX5_run_71 : decode cX5_run 71 = .ok (.aload_n 0, 1) := by decide +kernel
theorem dX5_run_72 : decode cX5_run 72 = .ok (.getfield 55, 3) := by decide +kernel
theorem dX5_run_75 : decode cX5_run 75 = .ok (.iload_n 3, 1) := by decide +kernel
theorem dX5_run_76 : decode cX5_run 76 = .ok (.iaload, 1) := by decide +kernel
theorem dX5_run_77 : decode cX5_run 77 = .ok (.if_icmp .ne 10, 3) := by decide +kernel
theorem dX5_run_80 : decode cX5_run 80 = .ok (.aload_n 0, 1) := by decide +kernel
theorem dX5_run_81 : decode cX5_run 81 = .ok (.invokevirtual 105, 3) := by decide +kernel
theorem dX5_run_84 : decode cX5_run 84 = .ok (.goto 99, 3) := by decide +kernel
theorem dX5_run_87 : decode cX5_run 87 = .ok (.aload_n 0, 1) := by decide +kernel
theorem dX5_run_88 : decode cX5_run 88 = .ok (.getfield 142, 3) := by decide +kernel
theorem dX5_run_91 : decode cX5_run 91 = .ok (.sipush 200, 3) := by decide +kernel
theorem dX5_run_94 : decode cX5_run 94 = .ok (.if_icmp .ne 12, 3) := by decide +kernel
theorem dX5_run_97 : decode cX5_run 97 = .ok (.aload_n 0, 1) := by decide +kernel
theorem dX5_run_98 : decode cX5_run 98 = .ok (.bipush 40, 2) := by decide +kernel
theorem dX5_run_100 : decode cX5_run 100 = .ok (.invokevirtual 114, 3) := by decide +kernel
theorem dX5_run_103 : decode cX5_run 103 = .ok (.goto 80, 3) := by decide +kernel
theorem dX5_run_106 : decode cX5_run 106 = .ok (.bipush 12, 2) := by decide +kernel
theorem dX5_run_108 : decode cX5_run 108 = .ok (.aload_n 0, 1) := by decide +kernel
theorem dX5_run_109 : decode cX5_run 109 = .ok (.getfield 49, 3) := by decide +kernel
theorem dX5_run_112 : decode cX5_run 112 = .ok (.iload_n 3, 1) := by decide +kernel
theorem dX5_run_113 : decode cX5_run 113 = .ok (.iaload, 1) := by decide +kernel
theorem dX5_run_114 : decode cX5_run 114 = .ok (.imul, 1) := by decide +kernel
theorem dX5_run_115 : decode cX5_run 115 = .ok (.aload_n 0, 1) := by decide +kernel
theorem dX5_run_116 : decode cX5_run 116 = .ok (.getfield 52, 3) := by decide +kernel
theorem dX5_run_119 : decode cX5_run 119 = .ok (.iload_n 3, 1) := by decide +kernel
theorem dX5_run_120 : decode cX5_run 120 = .ok (.iaload, 1) := by decide +kernel
theorem dX5_run_121 : decode cX5_run 121 = .ok (.iadd, 1) := by decide +kernel
theorem dX5_run_122 : decode cX5_run 122 = .ok (.istore 4, 2) := by decide +kernel
theorem dX5_run_124 : decode cX5_run 124 = .ok (.aload_n 0, 1) := by decide +kernel
theorem dX5_run_125 : decode cX5_run 125 = .ok (.getfield 52, 3) := by decide +kernel
theorem dX5_run_128 : decode cX5_run 128 = .ok (.iload_n 3, 1) := by decide +kernel
theorem dX5_run_129 : decode cX5_run 129 = .ok (.dup2, 1) := by decide +kernel
theorem dX5_run_130 : decode cX5_run 130 = .ok (.iaload, 1) := by decide +kernel
theorem dX5_run_131 : decode cX5_run 131 = .ok (.iconst 1, 1) := by decide +kernel
theorem dX5_run_132 : decode cX5_run 132 = .ok (.iadd, 1) := by decide +kernel
theorem dX5_run_133 : decode cX5_run 133 = .ok (.iastore, 1) := by decide +kernel
theorem dX5_run_134 : decode cX5_run 134 = .ok (.aload_n 0, 1) := by decide +kernel
theorem dX5_run_135 : decode cX5_run 135 = .ok (.dup, 1) := by decide +kernel
theorem dX5_run_136 : decode cX5_run 136 = .ok (.getfield 142, 3) := by decide +kernel
theorem dX5_run_139 : decode cX5_run 139 = .ok (.iconst 1, 1) := by decide +kernel
theorem dX5_run_140 : decode cX5_run 140 = .ok (.iadd, 1) := by decide +kernel
theorem dX5_run_141 : decode cX5_run 141 = .ok (.putfield 142, 3) := by decide +kernel
theorem dX5_run_144 : decode cX5_run 144 = .ok (.aload_n 0, 1) := by decide +kernel
theorem dX5_run_145 : decode cX5_run 145 = .ok (.bipush 100, 2) := by decide +kernel
theorem dX5_run_147 : decode cX5_run 147 = .ok (.aload_n 0, 1) := by decide +kernel
theorem dX5_run_148 : decode cX5_run 148 = .ok (.getfield 34, 3) := by decide +kernel
theorem dX5_run_151 : decode cX5_run 151 = .ok (.iload 4, 2) := by decide +kernel
theorem dX5_run_153 : decode cX5_run 153 = .ok (.iaload, 1) := by decide +kernel
theorem dX5_run_154 : decode cX5_run 154 = .ok (.iadd, 1) := by decide +kernel
theorem dX5_run_155 : decode cX5_run 155 = .ok (.invokevirtual 102, 3) := by decide +kernel
theorem dX5_run_158 : decode cX5_run 158 = .ok (.aload_n 0, 1) := by decide +kernel
theorem dX5_run_159 : decode cX5_run 159 = .ok (.aload_n 0, 1) := by decide +kernel
theorem dX5_run_160 : decode cX5_run 160 = .ok (.getfield 34, 3) := by decide +kernel
theorem dX5_run_163 : decode cX5_run 163 = .ok (.iload 4, 2) := by decide +kernel
theorem dX5_run_165 : decode cX5_run 165 = .ok (.iaload, 1) := by decide +kernel
theorem dX5_run_166 : decode cX5_run 166 = .ok (.aload_n 0, 1) := by decide +kernel
theorem dX5_run_167 : decode cX5_run 167 = .ok (.getfield 37, 3) := by decide +kernel
theorem dX5_run_170 : decode cX5_run 170 = .ok (.iload 4, 2) := by decide +kernel
theorem dX5_run_172 : decode cX5_run 172 = .ok (.iaload, 1) := by decide +kernel
theorem dX5_run_173 : decode cX5_run 173 = .ok (.aload_n 0, 1) := by decide +kernel
theorem dX5_run_174 : decode cX5_run 174 = .ok (.getfield 40, 3) := by decide +kernel
theorem dX5_run_177 : decode cX5_run 177 = .ok (.iload 4, 2) := by decide +kernel
theorem dX5_run_179 : decode cX5_run 179 = .ok (.iaload, 1) := by decide +kernel
theorem dX5_run_180 : decode cX5_run 180 = .ok (.invokevirtual 145, 3) := by decide +kernel
theorem dX5_run_183 : decode cX5_run 183 = .ok (.goto (-132), 3) := by decide +kernel
theorem dX5_run_186 : decode cX5_run 186 = .ok (.aload_n 0, 1) := by decide +kernel
theorem dX5_run_187 : decode cX5_run 187 = .ok (.aload_n 0, 1) := by decide +kernel
theorem dX5_run_188 : decode cX5_run 188 = .ok (.getfield 111, 3) := by decide +kernel
theorem dX5_run_191 : decode cX5_run 191 = .ok (.putfield 148, 3) := by decide +kernel
theorem dX5_run_194 : decode cX5_run 194 = .ok (.aload_n 0, 1) := by decide +kernel
theorem dX5_run_195 : decode cX5_run 195 = .ok (.getfield 111, 3) := by decide +kernel
theorem dX5_run_198 : decode cX5_run 198 = .ok (.ifCond .ne 7, 3) := by decide +kernel
theorem dX5_run_201 : decode cX5_run 201 = .ok (.iconst 1, 1) := by decide +kernel
theorem dX5_run_202 : decode cX5_run 202 = .ok (.goto 10, 3) := by decide +kernel
theorem dX5_run_205 : decode cX5_run 205 = .ok (.bipush (-10), 2) := by decide +kernel
theorem dX5_run_207 : decode cX5_run 207 = .ok (.aload_n 0, 1) := by decide +kernel
theorem dX5_run_208 : decode cX5_run 208 = .ok (.getfield 111, 3) := by decide +kernel
theorem dX5_run_211 : decode cX5_run 211 = .ok (.isub, 1) := by decide +kernel
theorem dX5_run_212 : decode cX5_run 212 = .ok (.ireturn, 1) := by decide +kernel
theorem dX5_value_0 : decode cX5_value 0 = .ok (.aload_n 0, 1) := by decide +kernel
theorem dX5_value_1 : decode cX5_value 1 = .ok (.getfield 108, 3) := by decide +kernel
theorem dX5_value_4 : decode cX5_value 4 = .ok (.ireturn, 1) := by decide +kernel
theorem dX5_trace_0 : decode cX5_trace 0 = .ok (.iload_n 1, 1) := by decide +kernel
theorem dX5_trace_1 : decode cX5_trace 1 = .ok (.iconst (-1), 1) := by decide +kernel
theorem dX5_trace_2 : decode cX5_trace 2 = .ok (.if_icmp .ne 10, 3) := by decide +kernel
theorem dX5_trace_5 : decode cX5_trace 5 = .ok (.aload_n 0, 1) := by decide +kernel
theorem dX5_trace_6 : decode cX5_trace 6 = .ok (.getfield 86, 3) := by decide +kernel
theorem dX5_trace_9 : decode cX5_trace 9 = .ok (.goto 27, 3) := by decide +kernel
theorem dX5_trace_12 : decode cX5_trace 12 = .ok (.iload_n 1, 1) := by decide +kernel
theorem dX5_trace_13 : decode cX5_trace 13 = .ok (.iconst 0, 1) := by decide +kernel
theorem dX5_trace_14 : decode cX5_trace 14 = .ok (.aload_n 0, 1) := by decide +kernel
theorem dX5_trace_15 : decode cX5_trace 15 = .ok (.getfield 86, 3) := by decide +kernel
theorem dX5_trace_18 : decode cX5_trace 18 = .ok (.iconst 1, 1) := by decide +kernel
theorem dX5_trace_19 : decode cX5_trace 19 = .ok (.isub, 1) := by decide +kernel
theorem dX5_trace_20 : decode cX5_trace 20 = .ok (.invokestatic 61, 3) := by decide +kernel
theorem dX5_trace_23 : decode cX5_trace 23 = .ok (.ifCond .eq 12, 3) := by decide +kernel
theorem dX5_trace_26 : decode cX5_trace 26 = .ok (.aload_n 0, 1) := by decide +kernel
theorem dX5_trace_27 : decode cX5_trace 27 = .ok (.getfield 43, 3) := by decide +kernel
theorem dX5_trace_30 : decode cX5_trace 30 = .ok (.iload_n 1, 1) := by decide +kernel
theorem dX5_trace_31 : decode cX5_trace 31 = .ok (.iaload, 1) := by decide +kernel
theorem dX5_trace_32 : decode cX5_trace 32 = .ok (.goto 4, 3) := by decide +kernel
theorem dX5_trace_35 : decode cX5_trace 35 = .ok (.iconst (-1), 1) := by decide +kernel
theorem dX5_trace_36 : decode cX5_trace 36 = .ok (.ireturn, 1) := by decide +kernel
theorem dX5_told_0 : decode cX5_told 0 = .ok (.iload_n 1, 1) := by decide +kernel
theorem dX5_told_1 : decode cX5_told 1 = .ok (.iconst 0, 1) := by decide +kernel
theorem dX5_told_2 : decode cX5_told 2 = .ok (.bipush 7, 2) := by decide +kernel
theorem dX5_told_4 : decode cX5_told 4 = .ok (.invokestatic 61, 3) := by decide +kernel
theorem dX5_told_7 : decode cX5_told 7 = .ok (.ifCond .eq 22, 3) := by decide +kernel
theorem dX5_told_10 : decode cX5_told 10 = .ok (.aload_n 0, 1) := by decide +kernel
theorem dX5_told_11 : decode cX5_told 11 = .ok (.getfield 28, 3) := by decide +kernel
theorem dX5_told_14 : decode cX5_told 14 = .ok (.iload_n 1, 1) := by decide +kernel
theorem dX5_told_15 : decode cX5_told 15 = .ok (.iaload, 1) := by decide +kernel
theorem dX5_told_16 : decode cX5_told 16 = .ok (.iconst (-1), 1) := by decide +kernel
theorem dX5_told_17 : decode cX5_told 17 = .ok (.if_icmp .eq 12, 3) := by decide +kernel
theorem dX5_told_20 : decode cX5_told 20 = .ok (.iload_n 2, 1) := by decide +kernel
theorem dX5_told_21 : decode cX5_told 21 = .ok (.iconst 0, 1) := by decide +kernel
theorem dX5_told_22 : decode cX5_told 22 = .ok (.iconst 5, 1) := by decide +kernel
theorem dX5_told_23 : decode cX5_told 23 = .ok (.invokestatic 61, 3) := by decide +kernel
theorem dX5_told_26 : decode cX5_told 26 = .ok (.ifCond .ne 5, 3) := by decide +kernel
theorem dX5_told_29 : decode cX5_told 29 = .ok (.iconst (-1), 1) := by decide +kernel
theorem dX5_told_30 : decode cX5_told 30 = .ok (.ireturn, 1) := by decide +kernel
theorem dX5_told_31 : decode cX5_told 31 = .ok (.aload_n 0, 1) := by decide +kernel
theorem dX5_told_32 : decode cX5_told 32 = .ok (.getfield 28, 3) := by decide +kernel
theorem dX5_told_35 : decode cX5_told 35 = .ok (.iload_n 1, 1) := by decide +kernel
theorem dX5_told_36 : decode cX5_told 36 = .ok (.iaload, 1) := by decide +kernel
theorem dX5_told_37 : decode cX5_told 37 = .ok (.istore_n 3, 1) := by decide +kernel
theorem dX5_told_38 : decode cX5_told 38 = .ok (.iload_n 2, 1) := by decide +kernel
theorem dX5_told_39 : decode cX5_told 39 = .ok (.ifCond .ne 12, 3) := by decide +kernel
theorem dX5_told_42 : decode cX5_told 42 = .ok (.aload_n 0, 1) := by decide +kernel
theorem dX5_told_43 : decode cX5_told 43 = .ok (.getfield 7, 3) := by decide +kernel
theorem dX5_told_46 : decode cX5_told 46 = .ok (.iload_n 3, 1) := by decide +kernel
theorem dX5_told_47 : decode cX5_told 47 = .ok (.iaload, 1) := by decide +kernel
theorem dX5_told_48 : decode cX5_told 48 = .ok (.goto 65, 3) := by decide +kernel
theorem dX5_told_51 : decode cX5_told 51 = .ok (.iload_n 2, 1) := by decide +kernel
theorem dX5_told_52 : decode cX5_told 52 = .ok (.iconst 1, 1) := by decide +kernel
theorem dX5_told_53 : decode cX5_told 53 = .ok (.if_icmp .ne 12, 3) := by decide +kernel
theorem dX5_told_56 : decode cX5_told 56 = .ok (.aload_n 0, 1) := by decide +kernel
theorem dX5_told_57 : decode cX5_told 57 = .ok (.getfield 13, 3) := by decide +kernel
theorem dX5_told_60 : decode cX5_told 60 = .ok (.iload_n 3, 1) := by decide +kernel
theorem dX5_told_61 : decode cX5_told 61 = .ok (.iaload, 1) := by decide +kernel
theorem dX5_told_62 : decode cX5_told 62 = .ok (.goto 51, 3) := by decide +kernel
theorem dX5_told_65 : decode cX5_told 65 = .ok (.iload_n 2, 1) := by decide +kernel
theorem dX5_told_66 : decode cX5_told 66 = .ok (.iconst 2, 1) := by decide +kernel
theorem dX5_told_67 : decode cX5_told 67 = .ok (.if_icmp .ne 12, 3) := by decide +kernel
theorem dX5_told_70 : decode cX5_told 70 = .ok (.aload_n 0, 1) := by decide +kernel
theorem dX5_told_71 : decode cX5_told 71 = .ok (.getfield 16, 3) := by decide +kernel
theorem dX5_told_74 : decode cX5_told 74 = .ok (.iload_n 3, 1) := by decide +kernel
theorem dX5_told_75 : decode cX5_told 75 = .ok (.iaload, 1) := by decide +kernel
theorem dX5_told_76 : decode cX5_told 76 = .ok (.goto 37, 3) := by decide +kernel
theorem dX5_told_79 : decode cX5_told 79 = .ok (.iload_n 2, 1) := by decide +kernel
theorem dX5_told_80 : decode cX5_told 80 = .ok (.iconst 3, 1) := by decide +kernel
theorem dX5_told_81 : decode cX5_told 81 = .ok (.if_icmp .ne 12, 3) := by decide +kernel
theorem dX5_told_84 : decode cX5_told 84 = .ok (.aload_n 0, 1) := by decide +kernel
theorem dX5_told_85 : decode cX5_told 85 = .ok (.getfield 19, 3) := by decide +kernel
theorem dX5_told_88 : decode cX5_told 88 = .ok (.iload_n 3, 1) := by decide +kernel
theorem dX5_told_89 : decode cX5_told 89 = .ok (.iaload, 1) := by decide +kernel
theorem dX5_told_90 : decode cX5_told 90 = .ok (.goto 23, 3) := by decide +kernel
theorem dX5_told_93 : decode cX5_told 93 = .ok (.iload_n 2, 1) := by decide +kernel
theorem dX5_told_94 : decode cX5_told 94 = .ok (.iconst 4, 1) := by decide +kernel
theorem dX5_told_95 : decode cX5_told 95 = .ok (.if_icmp .ne 12, 3) := by decide +kernel
theorem dX5_told_98 : decode cX5_told 98 = .ok (.aload_n 0, 1) := by decide +kernel
theorem dX5_told_99 : decode cX5_told 99 = .ok (.getfield 22, 3) := by decide +kernel
theorem dX5_told_102 : decode cX5_told 102 = .ok (.iload_n 3, 1) := by decide +kernel
theorem dX5_told_103 : decode cX5_told 103 = .ok (.iaload, 1) := by decide +kernel
theorem dX5_told_104 : decode cX5_told 104 = .ok (.goto 9, 3) := by decide +kernel
theorem dX5_told_107 : decode cX5_told 107 = .ok (.aload_n 0, 1) := by decide +kernel
theorem dX5_told_108 : decode cX5_told 108 = .ok (.getfield 25, 3) := by decide +kernel
theorem dX5_told_111 : decode cX5_told 111 = .ok (.iload_n 3, 1) := by decide +kernel
theorem dX5_told_112 : decode cX5_told 112 = .ok (.iaload, 1) := by decide +kernel
theorem dX5_told_113 : decode cX5_told 113 = .ok (.ireturn, 1) := by decide +kernel
theorem dX5_count_0 : decode cX5_count 0 = .ok (.iload_n 1, 1) := by decide +kernel
theorem dX5_count_1 : decode cX5_count 1 = .ok (.iconst 3, 1) := by decide +kernel
theorem dX5_count_2 : decode cX5_count 2 = .ok (.if_icmp .ne 39, 3) := by decide +kernel
theorem dX5_count_5 : decode cX5_count 5 = .ok (.iconst 0, 1) := by decide +kernel
theorem dX5_count_6 : decode cX5_count 6 = .ok (.istore_n 2, 1) := by decide +kernel
theorem dX5_count_7 : decode cX5_count 7 = .ok (.iconst 0, 1) := by decide +kernel
theorem dX5_count_8 : decode cX5_count 8 = .ok (.istore_n 3, 1) := by decide +kernel
theorem dX5_count_9 : decode cX5_count 9 = .ok (.iload_n 3, 1) := by decide +kernel
theorem dX5_count_10 : decode cX5_count 10 = .ok (.bipush 8, 2) := by decide +kernel
theorem dX5_count_12 : decode cX5_count 12 = .ok (.if_icmp .ge 27, 3) := by decide +kernel
theorem dX5_count_15 : decode cX5_count 15 = .ok (.aload_n 0, 1) := by decide +kernel
theorem dX5_count_16 : decode cX5_count 16 = .ok (.getfield 28, 3) := by decide +kernel
theorem dX5_count_19 : decode cX5_count 19 = .ok (.iload_n 3, 1) := by decide +kernel
theorem dX5_count_20 : decode cX5_count 20 = .ok (.iaload, 1) := by decide +kernel
theorem dX5_count_21 : decode cX5_count 21 = .ok (.iconst (-1), 1) := by decide +kernel
theorem dX5_count_22 : decode cX5_count 22 = .ok (.if_icmp .ne 7, 3) := by decide +kernel
theorem dX5_count_25 : decode cX5_count 25 = .ok (.iload_n 2, 1) := by decide +kernel
theorem dX5_count_26 : decode cX5_count 26 = .ok (.goto 6, 3) := by decide +kernel
theorem dX5_count_29 : decode cX5_count 29 = .ok (.iload_n 2, 1) := by decide +kernel
theorem dX5_count_30 : decode cX5_count 30 = .ok (.iconst 1, 1) := by decide +kernel
theorem dX5_count_31 : decode cX5_count 31 = .ok (.iadd, 1) := by decide +kernel
theorem dX5_count_32 : decode cX5_count 32 = .ok (.istore_n 2, 1) := by decide +kernel
theorem dX5_count_33 : decode cX5_count 33 = .ok (.iinc 3 1, 3) := by decide +kernel
theorem dX5_count_36 : decode cX5_count 36 = .ok (.goto (-27), 3) := by decide +kernel
theorem dX5_count_39 : decode cX5_count 39 = .ok (.iload_n 2, 1) := by decide +kernel
theorem dX5_count_40 : decode cX5_count 40 = .ok (.ireturn, 1) := by decide +kernel
theorem dX5_count_41 : decode cX5_count 41 = .ok (.iload_n 1, 1) := by decide +kernel
theorem dX5_count_42 : decode cX5_count 42 = .ok (.ifCond .ne 10, 3) := by decide +kernel
theorem dX5_count_45 : decode cX5_count 45 = .ok (.aload_n 0, 1) := by decide +kernel
theorem dX5_count_46 : decode cX5_count 46 = .ok (.getfield 142, 3) := by decide +kernel
theorem dX5_count_49 : decode cX5_count 49 = .ok (.goto 49, 3) := by decide +kernel
theorem dX5_count_52 : decode cX5_count 52 = .ok (.iload_n 1, 1) := by decide +kernel
theorem dX5_count_53 : decode cX5_count 53 = .ok (.iconst 1, 1) := by decide +kernel
theorem dX5_count_54 : decode cX5_count 54 = .ok (.if_icmp .ne 10, 3) := by decide +kernel
theorem dX5_count_57 : decode cX5_count 57 = .ok (.aload_n 0, 1) := by decide +kernel
theorem dX5_count_58 : decode cX5_count 58 = .ok (.getfield 148, 3) := by decide +kernel
theorem dX5_count_61 : decode cX5_count 61 = .ok (.goto 37, 3) := by decide +kernel
theorem dX5_count_64 : decode cX5_count 64 = .ok (.iload_n 1, 1) := by decide +kernel
theorem dX5_count_65 : decode cX5_count 65 = .ok (.iconst 2, 1) := by decide +kernel
theorem dX5_count_66 : decode cX5_count 66 = .ok (.if_icmp .ne 10, 3) := by decide +kernel
theorem dX5_count_69 : decode cX5_count 69 = .ok (.aload_n 0, 1) := by decide +kernel
theorem dX5_count_70 : decode cX5_count 70 = .ok (.getfield 95, 3) := by decide +kernel
theorem dX5_count_73 : decode cX5_count 73 = .ok (.goto 25, 3) := by decide +kernel
theorem dX5_count_76 : decode cX5_count 76 = .ok (.iload_n 1, 1) := by decide +kernel
theorem dX5_count_77 : decode cX5_count 77 = .ok (.iconst 4, 1) := by decide +kernel
theorem dX5_count_78 : decode cX5_count 78 = .ok (.bipush 9, 2) := by decide +kernel
theorem dX5_count_80 : decode cX5_count 80 = .ok (.invokestatic 61, 3) := by decide +kernel
theorem dX5_count_83 : decode cX5_count 83 = .ok (.ifCond .eq 14, 3) := by decide +kernel
theorem dX5_count_86 : decode cX5_count 86 = .ok (.aload_n 0, 1) := by decide +kernel
theorem dX5_count_87 : decode cX5_count 87 = .ok (.getfield 31, 3) := by decide +kernel
theorem dX5_count_90 : decode cX5_count 90 = .ok (.iload_n 1, 1) := by decide +kernel
theorem dX5_count_91 : decode cX5_count 91 = .ok (.iconst 4, 1) := by decide +kernel
theorem dX5_count_92 : decode cX5_count 92 = .ok (.isub, 1) := by decide +kernel
theorem dX5_count_93 : decode cX5_count 93 = .ok (.iaload, 1) := by decide +kernel
theorem dX5_count_94 : decode cX5_count 94 = .ok (.goto 4, 3) := by decide +kernel
theorem dX5_count_97 : decode cX5_count 97 = .ok (.iconst (-1), 1) := by decide +kernel
theorem dX5_count_98 : decode cX5_count 98 = .ok (.ireturn, 1) := by decide +kernel
end
section
theorem dL_law_0 : decode cL_law 0 = .ok (.new 7, 3) := by decide +kernel
theorem dL_law_3 : decode cL_law 3 = .ok (.dup, 1) := by decide +kernel
theorem dL_law_4 : decode cL_law 4 = .ok (.invokespecial 9, 3) := by decide +kernel
theorem dL_law_7 : decode cL_law 7 = .ok (.astore_n 1, 1) := by decide +kernel
theorem dL_law_8 : decode cL_law 8 = .ok (.new 10, 3) := by decide +kernel
theorem dL_law_11 : decode cL_law 11 = .ok (.dup, 1) := by decide +kernel
theorem dL_law_12 : decode cL_law 12 = .ok (.invokespecial 12, 3) := by decide +kernel
theorem dL_law_15 : decode cL_law 15 = .ok (.astore_n 2, 1) := by decide +kernel
theorem dL_law_16 : decode cL_law 16 = .ok (.iconst 0, 1) := by decide +kernel
theorem dL_law_17 : decode cL_law 17 = .ok (.istore_n 3, 1) := by decide +kernel
theorem dL_law_18 : decode cL_law 18 = .ok (.iload_n 3, 1) := by decide +kernel
theorem dL_law_19 : decode cL_law 19 = .ok (.aload_n 0, 1) := by decide +kernel
theorem dL_law_20 : decode cL_law 20 = .ok (.arraylength, 1) := by decide +kernel
theorem dL_law_21 : decode cL_law 21 = .ok (.iconst 5, 1) := by decide +kernel
theorem dL_law_22 : decode cL_law 22 = .ok (.isub, 1) := by decide +kernel
theorem dL_law_23 : decode cL_law 23 = .ok (.if_icmp .gt 381, 3) := by decide +kernel
theorem dL_law_26 : decode cL_law 26 = .ok (.aload_n 0, 1) := by decide +kernel
theorem dL_law_27 : decode cL_law 27 = .ok (.iload_n 3, 1) := by decide +kernel
theorem dL_law_28 : decode cL_law 28 = .ok (.iaload, 1) := by decide +kernel
theorem dL_law_29 : decode cL_law 29 = .ok (.bipush 15, 2) := by decide +kernel
theorem dL_law_31 : decode cL_law 31 = .ok (.iand, 1) := by decide +kernel
theorem dL_law_32 : decode cL_law 32 = .ok (.tableswitch 366 0 9 #[56, 99, 132, 165, 218, 241, 274, 287, 310, 343], 56) := by decide +kernel
theorem dL_law_88 : decode cL_law 88 = .ok (.aload_n 1, 1) := by decide +kernel
theorem dL_law_89 : decode cL_law 89 = .ok (.aload_n 0, 1) := by decide +kernel
theorem dL_law_90 : decode cL_law 90 = .ok (.iload_n 3, 1) := by decide +kernel
theorem dL_law_91 : decode cL_law 91 = .ok (.iconst 1, 1) := by decide +kernel
theorem dL_law_92 : decode cL_law 92 = .ok (.iadd, 1) := by decide +kernel
theorem dL_law_93 : decode cL_law 93 = .ok (.iaload, 1) := by decide +kernel
theorem dL_law_94 : decode cL_law 94 = .ok (.aload_n 0, 1) := by decide +kernel
theorem dL_law_95 : decode cL_law 95 = .ok (.iload_n 3, 1) := by decide +kernel
theorem dL_law_96 : decode cL_law 96 = .ok (.iconst 2, 1) := by decide +kernel
theorem dL_law_97 : decode cL_law 97 = .ok (.iadd, 1) := by decide +kernel
theorem dL_law_98 : decode cL_law 98 = .ok (.iaload, 1) := by decide +kernel
theorem dL_law_99 : decode cL_law 99 = .ok (.aload_n 0, 1) := by decide +kernel
theorem dL_law_100 : decode cL_law 100 = .ok (.iload_n 3, 1) := by decide +kernel
theorem dL_law_101 : decode cL_law 101 = .ok (.iconst 3, 1) := by decide +kernel
theorem dL_law_102 : decode cL_law 102 = .ok (.iadd, 1) := by decide +kernel
theorem dL_law_103 : decode cL_law 103 = .ok (.iaload, 1) := by decide +kernel
theorem dL_law_104 : decode cL_law 104 = .ok (.invokevirtual 13, 3) := by decide +kernel
theorem dL_law_107 : decode cL_law 107 = .ok (.aload_n 2, 1) := by decide +kernel
theorem dL_law_108 : decode cL_law 108 = .ok (.aload_n 0, 1) := by decide +kernel
theorem dL_law_109 : decode cL_law 109 = .ok (.iload_n 3, 1) := by decide +kernel
theorem dL_law_110 : decode cL_law 110 = .ok (.iconst 1, 1) := by decide +kernel
theorem dL_law_111 : decode cL_law 111 = .ok (.iadd, 1) := by decide +kernel
theorem dL_law_112 : decode cL_law 112 = .ok (.iaload, 1) := by decide +kernel
theorem dL_law_113 : decode cL_law 113 = .ok (.aload_n 0, 1) := by decide +kernel
theorem dL_law_114 : decode cL_law 114 = .ok (.iload_n 3, 1) := by decide +kernel
theorem dL_law_115 : decode cL_law 115 = .ok (.iconst 2, 1) := by decide +kernel
theorem dL_law_116 : decode cL_law 116 = .ok (.iadd, 1) := by decide +kernel
theorem dL_law_117 : decode cL_law 117 = .ok (.iaload, 1) := by decide +kernel
theorem dL_law_118 : decode cL_law 118 = .ok (.aload_n 0, 1) := by decide +kernel
theorem dL_law_119 : decode cL_law 119 = .ok (.iload_n 3, 1) := by decide +kernel
theorem dL_law_120 : decode cL_law 120 = .ok (.iconst 3, 1) := by decide +kernel
theorem dL_law_121 : decode cL_law 121 = .ok (.iadd, 1) := by decide +kernel
theorem dL_law_122 : decode cL_law 122 = .ok (.iaload, 1) := by decide +kernel
theorem dL_law_123 : decode cL_law 123 = .ok (.invokevirtual 17, 3) := by decide +kernel
theorem dL_law_126 : decode cL_law 126 = .ok (.if_icmp .eq 272, 3) := by decide +kernel
theorem dL_law_129 : decode cL_law 129 = .ok (.iconst 0, 1) := by decide +kernel
theorem dL_law_130 : decode cL_law 130 = .ok (.ireturn, 1) := by decide +kernel
theorem dL_law_131 : decode cL_law 131 = .ok (.aload_n 1, 1) := by decide +kernel
theorem dL_law_132 : decode cL_law 132 = .ok (.aload_n 0, 1) := by decide +kernel
theorem dL_law_133 : decode cL_law 133 = .ok (.iload_n 3, 1) := by decide +kernel
theorem dL_law_134 : decode cL_law 134 = .ok (.iconst 1, 1) := by decide +kernel
theorem dL_law_135 : decode cL_law 135 = .ok (.iadd, 1) := by decide +kernel
theorem dL_law_136 : decode cL_law 136 = .ok (.iaload, 1) := by decide +kernel
theorem dL_law_137 : decode cL_law 137 = .ok (.aload_n 0, 1) := by decide +kernel
theorem dL_law_138 : decode cL_law 138 = .ok (.iload_n 3, 1) := by decide +kernel
theorem dL_law_139 : decode cL_law 139 = .ok (.iconst 2, 1) := by decide +kernel
theorem dL_law_140 : decode cL_law 140 = .ok (.iadd, 1) := by decide +kernel
theorem dL_law_141 : decode cL_law 141 = .ok (.iaload, 1) := by decide +kernel
theorem dL_law_142 : decode cL_law 142 = .ok (.invokevirtual 18, 3) := by decide +kernel
theorem dL_law_145 : decode cL_law 145 = .ok (.aload_n 2, 1) := by decide +kernel
theorem dL_law_146 : decode cL_law 146 = .ok (.aload_n 0, 1) := by decide +kernel
theorem dL_law_147 : decode cL_law 147 = .ok (.iload_n 3, 1) := by decide +kernel
theorem dL_law_148 : decode cL_law 148 = .ok (.iconst 1, 1) := by decide +kernel
theorem dL_law_149 : decode cL_law 149 = .ok (.iadd, 1) := by decide +kernel
theorem dL_law_150 : decode cL_law 150 = .ok (.iaload, 1) := by decide +kernel
theorem dL_law_151 : decode cL_law 151 = .ok (.aload_n 0, 1) := by decide +kernel
theorem dL_law_152 : decode cL_law 152 = .ok (.iload_n 3, 1) := by decide +kernel
theorem dL_law_153 : decode cL_law 153 = .ok (.iconst 2, 1) := by decide +kernel
theorem dL_law_154 : decode cL_law 154 = .ok (.iadd, 1) := by decide +kernel
theorem dL_law_155 : decode cL_law 155 = .ok (.iaload, 1) := by decide +kernel
theorem dL_law_156 : decode cL_law 156 = .ok (.invokevirtual 22, 3) := by decide +kernel
theorem dL_law_159 : decode cL_law 159 = .ok (.if_icmp .eq 239, 3) := by decide +kernel
theorem dL_law_162 : decode cL_law 162 = .ok (.iconst 0, 1) := by decide +kernel
theorem dL_law_163 : decode cL_law 163 = .ok (.ireturn, 1) := by decide +kernel
theorem dL_law_164 : decode cL_law 164 = .ok (.aload_n 1, 1) := by decide +kernel
theorem dL_law_165 : decode cL_law 165 = .ok (.aload_n 0, 1) := by decide +kernel
theorem dL_law_166 : decode cL_law 166 = .ok (.iload_n 3, 1) := by decide +kernel
theorem dL_law_167 : decode cL_law 167 = .ok (.iconst 1, 1) := by decide +kernel
theorem dL_law_168 : decode cL_law 168 = .ok (.iadd, 1) := by decide +kernel
theorem dL_law_169 : decode cL_law 169 = .ok (.iaload, 1) := by decide +kernel
theorem dL_law_170 : decode cL_law 170 = .ok (.aload_n 0, 1) := by decide +kernel
theorem dL_law_171 : decode cL_law 171 = .ok (.iload_n 3, 1) := by decide +kernel
theorem dL_law_172 : decode cL_law 172 = .ok (.iconst 2, 1) := by decide +kernel
theorem dL_law_173 : decode cL_law 173 = .ok (.iadd, 1) := by decide +kernel
theorem dL_law_174 : decode cL_law 174 = .ok (.iaload, 1) := by decide +kernel
theorem dL_law_175 : decode cL_law 175 = .ok (.invokevirtual 23, 3) := by decide +kernel
theorem dL_law_178 : decode cL_law 178 = .ok (.aload_n 2, 1) := by decide +kernel
theorem dL_law_179 : decode cL_law 179 = .ok (.aload_n 0, 1) := by decide +kernel
theorem dL_law_180 : decode cL_law 180 = .ok (.iload_n 3, 1) := by decide +kernel
theorem dL_law_181 : decode cL_law 181 = .ok (.iconst 1, 1) := by decide +kernel
theorem dL_law_182 : decode cL_law 182 = .ok (.iadd, 1) := by decide +kernel
theorem dL_law_183 : decode cL_law 183 = .ok (.iaload, 1) := by decide +kernel
theorem dL_law_184 : decode cL_law 184 = .ok (.aload_n 0, 1) := by decide +kernel
theorem dL_law_185 : decode cL_law 185 = .ok (.iload_n 3, 1) := by decide +kernel
theorem dL_law_186 : decode cL_law 186 = .ok (.iconst 2, 1) := by decide +kernel
theorem dL_law_187 : decode cL_law 187 = .ok (.iadd, 1) := by decide +kernel
theorem dL_law_188 : decode cL_law 188 = .ok (.iaload, 1) := by decide +kernel
theorem dL_law_189 : decode cL_law 189 = .ok (.invokevirtual 26, 3) := by decide +kernel
theorem dL_law_192 : decode cL_law 192 = .ok (.if_icmp .eq 206, 3) := by decide +kernel
theorem dL_law_195 : decode cL_law 195 = .ok (.iconst 0, 1) := by decide +kernel
theorem dL_law_196 : decode cL_law 196 = .ok (.ireturn, 1) := by decide +kernel
theorem dL_law_197 : decode cL_law 197 = .ok (.aload_n 1, 1) := by decide +kernel
theorem dL_law_198 : decode cL_law 198 = .ok (.aload_n 0, 1) := by decide +kernel
theorem dL_law_199 : decode cL_law 199 = .ok (.iload_n 3, 1) := by decide +kernel
theorem dL_law_200 : decode cL_law 200 = .ok (.iconst 1, 1) := by decide +kernel
theorem dL_law_201 : decode cL_law 201 = .ok (.iadd, 1) := by decide +kernel
theorem dL_law_202 : decode cL_law 202 = .ok (.iaload, 1) := by decide +kernel
theorem dL_law_203 : decode cL_law 203 = .ok (.aload_n 0, 1) := by decide +kernel
theorem dL_law_204 : decode cL_law 204 = .ok (.iload_n 3, 1) := by decide +kernel
theorem dL_law_205 : decode cL_law 205 = .ok (.iconst 2, 1) := by decide +kernel
theorem dL_law_206 : decode cL_law 206 = .ok (.iadd, 1) := by decide +kernel
theorem dL_law_207 : decode cL_law 207 = .ok (.iaload, 1) := by decide +kernel
theorem dL_law_208 : decode cL_law 208 = .ok (.aload_n 0, 1) := by decide +kernel
theorem dL_law_209 : decode cL_law 209 = .ok (.iload_n 3, 1) := by decide +kernel
theorem dL_law_210 : decode cL_law 210 = .ok (.iconst 3, 1) := by decide +kernel
theorem dL_law_211 : decode cL_law 211 = .ok (.iadd, 1) := by decide +kernel
theorem dL_law_212 : decode cL_law 212 = .ok (.iaload, 1) := by decide +kernel
theorem dL_law_213 : decode cL_law 213 = .ok (.aload_n 0, 1) := by decide +kernel
theorem dL_law_214 : decode cL_law 214 = .ok (.iload_n 3, 1) := by decide +kernel
theorem dL_law_215 : decode cL_law 215 = .ok (.iconst 4, 1) := by decide +kernel
theorem dL_law_216 : decode cL_law 216 = .ok (.iadd, 1) := by decide +kernel
theorem dL_law_217 : decode cL_law 217 = .ok (.iaload, 1) := by decide +kernel
theorem dL_law_218 : decode cL_law 218 = .ok (.invokevirtual 27, 3) := by decide +kernel
theorem dL_law_221 : decode cL_law 221 = .ok (.aload_n 2, 1) := by decide +kernel
theorem dL_law_222 : decode cL_law 222 = .ok (.aload_n 0, 1) := by decide +kernel
theorem dL_law_223 : decode cL_law 223 = .ok (.iload_n 3, 1) := by decide +kernel
theorem dL_law_224 : decode cL_law 224 = .ok (.iconst 1, 1) := by decide +kernel
theorem dL_law_225 : decode cL_law 225 = .ok (.iadd, 1) := by decide +kernel
theorem dL_law_226 : decode cL_law 226 = .ok (.iaload, 1) := by decide +kernel
theorem dL_law_227 : decode cL_law 227 = .ok (.aload_n 0, 1) := by decide +kernel
theorem dL_law_228 : decode cL_law 228 = .ok (.iload_n 3, 1) := by decide +kernel
theorem dL_law_229 : decode cL_law 229 = .ok (.iconst 2, 1) := by decide +kernel
theorem dL_law_230 : decode cL_law 230 = .ok (.iadd, 1) := by decide +kernel
theorem dL_law_231 : decode cL_law 231 = .ok (.iaload, 1) := by decide +kernel
theorem dL_law_232 : decode cL_law 232 = .ok (.aload_n 0, 1) := by decide +kernel
theorem dL_law_233 : decode cL_law 233 = .ok (.iload_n 3, 1) := by decide +kernel
theorem dL_law_234 : decode cL_law 234 = .ok (.iconst 3, 1) := by decide +kernel
theorem dL_law_235 : decode cL_law 235 = .ok (.iadd, 1) := by decide +kernel
theorem dL_law_236 : decode cL_law 236 = .ok (.iaload, 1) := by decide +kernel
theorem dL_law_237 : decode cL_law 237 = .ok (.aload_n 0, 1) := by decide +kernel
theorem dL_law_238 : decode cL_law 238 = .ok (.iload_n 3, 1) := by decide +kernel
theorem dL_law_239 : decode cL_law 239 = .ok (.iconst 4, 1) := by decide +kernel
theorem dL_law_240 : decode cL_law 240 = .ok (.iadd, 1) := by decide +kernel
theorem dL_law_241 : decode cL_law 241 = .ok (.iaload, 1) := by decide +kernel
theorem dL_law_242 : decode cL_law 242 = .ok (.invokevirtual 31, 3) := by decide +kernel
theorem dL_law_245 : decode cL_law 245 = .ok (.if_icmp .eq 153, 3) := by decide +kernel
theorem dL_law_248 : decode cL_law 248 = .ok (.iconst 0, 1) := by decide +kernel
theorem dL_law_249 : decode cL_law 249 = .ok (.ireturn, 1) := by decide +kernel
theorem dL_law_250 : decode cL_law 250 = .ok (.aload_n 1, 1) := by decide +kernel
theorem dL_law_251 : decode cL_law 251 = .ok (.aload_n 0, 1) := by decide +kernel
theorem dL_law_252 : decode cL_law 252 = .ok (.iload_n 3, 1) := by decide +kernel
theorem dL_law_253 : decode cL_law 253 = .ok (.iconst 1, 1) := by decide +kernel
theorem dL_law_254 : decode cL_law 254 = .ok (.iadd, 1) := by decide +kernel
theorem dL_law_255 : decode cL_law 255 = .ok (.iaload, 1) := by decide +kernel
theorem dL_law_256 : decode cL_law 256 = .ok (.invokevirtual 32, 3) := by decide +kernel
theorem dL_law_259 : decode cL_law 259 = .ok (.aload_n 2, 1) := by decide +kernel
theorem dL_law_260 : decode cL_law 260 = .ok (.aload_n 0, 1) := by decide +kernel
theorem dL_law_261 : decode cL_law 261 = .ok (.iload_n 3, 1) := by decide +kernel
theorem dL_law_262 : decode cL_law 262 = .ok (.iconst 1, 1) := by decide +kernel
theorem dL_law_263 : decode cL_law 263 = .ok (.iadd, 1) := by decide +kernel
theorem dL_law_264 : decode cL_law 264 = .ok (.iaload, 1) := by decide +kernel
theorem dL_law_265 : decode cL_law 265 = .ok (.invokevirtual 36, 3) := by decide +kernel
theorem dL_law_268 : decode cL_law 268 = .ok (.if_icmp .eq 130, 3) := by decide +kernel
theorem dL_law_271 : decode cL_law 271 = .ok (.iconst 0, 1) := by decide +kernel
theorem dL_law_272 : decode cL_law 272 = .ok (.ireturn, 1) := by decide +kernel
theorem dL_law_273 : decode cL_law 273 = .ok (.aload_n 1, 1) := by decide +kernel
theorem dL_law_274 : decode cL_law 274 = .ok (.aload_n 0, 1) := by decide +kernel
theorem dL_law_275 : decode cL_law 275 = .ok (.iload_n 3, 1) := by decide +kernel
theorem dL_law_276 : decode cL_law 276 = .ok (.iconst 1, 1) := by decide +kernel
theorem dL_law_277 : decode cL_law 277 = .ok (.iadd, 1) := by decide +kernel
theorem dL_law_278 : decode cL_law 278 = .ok (.iaload, 1) := by decide +kernel
theorem dL_law_279 : decode cL_law 279 = .ok (.aload_n 0, 1) := by decide +kernel
theorem dL_law_280 : decode cL_law 280 = .ok (.iload_n 3, 1) := by decide +kernel
theorem dL_law_281 : decode cL_law 281 = .ok (.iconst 2, 1) := by decide +kernel
theorem dL_law_282 : decode cL_law 282 = .ok (.iadd, 1) := by decide +kernel
theorem dL_law_283 : decode cL_law 283 = .ok (.iaload, 1) := by decide +kernel
theorem dL_law_284 : decode cL_law 284 = .ok (.invokevirtual 37, 3) := by decide +kernel
theorem dL_law_287 : decode cL_law 287 = .ok (.aload_n 2, 1) := by decide +kernel
theorem dL_law_288 : decode cL_law 288 = .ok (.aload_n 0, 1) := by decide +kernel
theorem dL_law_289 : decode cL_law 289 = .ok (.iload_n 3, 1) := by decide +kernel
theorem dL_law_290 : decode cL_law 290 = .ok (.iconst 1, 1) := by decide +kernel
theorem dL_law_291 : decode cL_law 291 = .ok (.iadd, 1) := by decide +kernel
theorem dL_law_292 : decode cL_law 292 = .ok (.iaload, 1) := by decide +kernel
theorem dL_law_293 : decode cL_law 293 = .ok (.aload_n 0, 1) := by decide +kernel
theorem dL_law_294 : decode cL_law 294 = .ok (.iload_n 3, 1) := by decide +kernel
theorem dL_law_295 : decode cL_law 295 = .ok (.iconst 2, 1) := by decide +kernel
theorem dL_law_296 : decode cL_law 296 = .ok (.iadd, 1) := by decide +kernel
theorem dL_law_297 : decode cL_law 297 = .ok (.iaload, 1) := by decide +kernel
theorem dL_law_298 : decode cL_law 298 = .ok (.invokevirtual 40, 3) := by decide +kernel
theorem dL_law_301 : decode cL_law 301 = .ok (.if_icmp .eq 97, 3) := by decide +kernel
theorem dL_law_304 : decode cL_law 304 = .ok (.iconst 0, 1) := by decide +kernel
theorem dL_law_305 : decode cL_law 305 = .ok (.ireturn, 1) := by decide +kernel
theorem dL_law_306 : decode cL_law 306 = .ok (.aload_n 1, 1) := by decide +kernel
theorem dL_law_307 : decode cL_law 307 = .ok (.invokevirtual 41, 3) := by decide +kernel
theorem dL_law_310 : decode cL_law 310 = .ok (.aload_n 2, 1) := by decide +kernel
theorem dL_law_311 : decode cL_law 311 = .ok (.invokevirtual 45, 3) := by decide +kernel
theorem dL_law_314 : decode cL_law 314 = .ok (.if_icmp .eq 84, 3) := by decide +kernel
theorem dL_law_317 : decode cL_law 317 = .ok (.iconst 0, 1) := by decide +kernel
theorem dL_law_318 : decode cL_law 318 = .ok (.ireturn, 1) := by decide +kernel
theorem dL_law_319 : decode cL_law 319 = .ok (.aload_n 1, 1) := by decide +kernel
theorem dL_law_320 : decode cL_law 320 = .ok (.aload_n 0, 1) := by decide +kernel
theorem dL_law_321 : decode cL_law 321 = .ok (.iload_n 3, 1) := by decide +kernel
theorem dL_law_322 : decode cL_law 322 = .ok (.iconst 1, 1) := by decide +kernel
theorem dL_law_323 : decode cL_law 323 = .ok (.iadd, 1) := by decide +kernel
theorem dL_law_324 : decode cL_law 324 = .ok (.iaload, 1) := by decide +kernel
theorem dL_law_325 : decode cL_law 325 = .ok (.invokevirtual 46, 3) := by decide +kernel
theorem dL_law_328 : decode cL_law 328 = .ok (.aload_n 2, 1) := by decide +kernel
theorem dL_law_329 : decode cL_law 329 = .ok (.aload_n 0, 1) := by decide +kernel
theorem dL_law_330 : decode cL_law 330 = .ok (.iload_n 3, 1) := by decide +kernel
theorem dL_law_331 : decode cL_law 331 = .ok (.iconst 1, 1) := by decide +kernel
theorem dL_law_332 : decode cL_law 332 = .ok (.iadd, 1) := by decide +kernel
theorem dL_law_333 : decode cL_law 333 = .ok (.iaload, 1) := by decide +kernel
theorem dL_law_334 : decode cL_law 334 = .ok (.invokevirtual 49, 3) := by decide +kernel
theorem dL_law_337 : decode cL_law 337 = .ok (.if_icmp .eq 61, 3) := by decide +kernel
theorem dL_law_340 : decode cL_law 340 = .ok (.iconst 0, 1) := by decide +kernel
theorem dL_law_341 : decode cL_law 341 = .ok (.ireturn, 1) := by decide +kernel
theorem dL_law_342 : decode cL_law 342 = .ok (.aload_n 1, 1) := by decide +kernel
theorem dL_law_343 : decode cL_law 343 = .ok (.aload_n 0, 1) := by decide +kernel
theorem dL_law_344 : decode cL_law 344 = .ok (.iload_n 3, 1) := by decide +kernel
theorem dL_law_345 : decode cL_law 345 = .ok (.iconst 1, 1) := by decide +kernel
theorem dL_law_346 : decode cL_law 346 = .ok (.iadd, 1) := by decide +kernel
theorem dL_law_347 : decode cL_law 347 = .ok (.iaload, 1) := by decide +kernel
theorem dL_law_348 : decode cL_law 348 = .ok (.aload_n 0, 1) := by decide +kernel
theorem dL_law_349 : decode cL_law 349 = .ok (.iload_n 3, 1) := by decide +kernel
theorem dL_law_350 : decode cL_law 350 = .ok (.iconst 2, 1) := by decide +kernel
theorem dL_law_351 : decode cL_law 351 = .ok (.iadd, 1) := by decide +kernel
theorem dL_law_352 : decode cL_law 352 = .ok (.iaload, 1) := by decide +kernel
theorem dL_law_353 : decode cL_law 353 = .ok (.invokevirtual 50, 3) := by decide +kernel
theorem dL_law_356 : decode cL_law 356 = .ok (.aload_n 2, 1) := by decide +kernel
theorem dL_law_357 : decode cL_law 357 = .ok (.aload_n 0, 1) := by decide +kernel
theorem dL_law_358 : decode cL_law 358 = .ok (.iload_n 3, 1) := by decide +kernel
theorem dL_law_359 : decode cL_law 359 = .ok (.iconst 1, 1) := by decide +kernel
theorem dL_law_360 : decode cL_law 360 = .ok (.iadd, 1) := by decide +kernel
theorem dL_law_361 : decode cL_law 361 = .ok (.iaload, 1) := by decide +kernel
theorem dL_law_362 : decode cL_law 362 = .ok (.aload_n 0, 1) := by decide +kernel
theorem dL_law_363 : decode cL_law 363 = .ok (.iload_n 3, 1) := by decide +kernel
theorem dL_law_364 : decode cL_law 364 = .ok (.iconst 2, 1) := by decide +kernel
theorem dL_law_365 : decode cL_law 365 = .ok (.iadd, 1) := by decide +kernel
theorem dL_law_366 : decode cL_law 366 = .ok (.iaload, 1) := by decide +kernel
theorem dL_law_367 : decode cL_law 367 = .ok (.invokevirtual 53, 3) := by decide +kernel
theorem dL_law_370 : decode cL_law 370 = .ok (.if_icmp .eq 28, 3) := by decide +kernel
theorem dL_law_373 : decode cL_law 373 = .ok (.iconst 0, 1) := by decide +kernel
theorem dL_law_374 : decode cL_law 374 = .ok (.ireturn, 1) := by decide +kernel
theorem dL_law_375 : decode cL_law 375 = .ok (.aload_n 1, 1) := by decide +kernel
theorem dL_law_376 : decode cL_law 376 = .ok (.aload_n 0, 1) := by decide +kernel
theorem dL_law_377 : decode cL_law 377 = .ok (.iload_n 3, 1) := by decide +kernel
theorem dL_law_378 : decode cL_law 378 = .ok (.iconst 1, 1) := by decide +kernel
theorem dL_law_379 : decode cL_law 379 = .ok (.iadd, 1) := by decide +kernel
theorem dL_law_380 : decode cL_law 380 = .ok (.iaload, 1) := by decide +kernel
theorem dL_law_381 : decode cL_law 381 = .ok (.invokevirtual 54, 3) := by decide +kernel
theorem dL_law_384 : decode cL_law 384 = .ok (.aload_n 2, 1) := by decide +kernel
theorem dL_law_385 : decode cL_law 385 = .ok (.aload_n 0, 1) := by decide +kernel
theorem dL_law_386 : decode cL_law 386 = .ok (.iload_n 3, 1) := by decide +kernel
theorem dL_law_387 : decode cL_law 387 = .ok (.iconst 1, 1) := by decide +kernel
theorem dL_law_388 : decode cL_law 388 = .ok (.iadd, 1) := by decide +kernel
theorem dL_law_389 : decode cL_law 389 = .ok (.iaload, 1) := by decide +kernel
theorem dL_law_390 : decode cL_law 390 = .ok (.invokevirtual 57, 3) := by decide +kernel
theorem dL_law_393 : decode cL_law 393 = .ok (.if_icmp .eq 5, 3) := by decide +kernel
theorem dL_law_396 : decode cL_law 396 = .ok (.iconst 0, 1) := by decide +kernel
theorem dL_law_397 : decode cL_law 397 = .ok (.ireturn, 1) := by decide +kernel
theorem dL_law_398 : decode cL_law 398 = .ok (.iinc 3 5, 3) := by decide +kernel
theorem dL_law_401 : decode cL_law 401 = .ok (.goto (-383), 3) := by decide +kernel
theorem dL_law_404 : decode cL_law 404 = .ok (.iconst 1, 1) := by decide +kernel
theorem dL_law_405 : decode cL_law 405 = .ok (.ireturn, 1) := by decide +kernel
end
section
/-! the worlds of the class and of the reference: cells by place, each over a row of ints -/
abbrev Sg : Type := Nat → Nat → Int32
def wd (cell : Nat → (Nat → Int32) → va_E) (ad : Nat → Nat) (n : Nat) (σ : Sg) : va_W := (List.range n).map (fun k => (ad k, cell k (σ k)))
theorem wd_at {cell : Nat → (Nat → Int32) → va_E} {ad : Nat → Nat} {n : Nat} {σ : Sg} {k : Nat} {e : va_E} (hk : k < n) (he : cell k (σ k) = e) : (wd cell ad n σ)[k]? = some (ad k, e) := by
  subst he
  simp [wd, hk]
theorem wd_set {cell : Nat → (Nat → Int32) → va_E} {ad : Nat → Nat} {n : Nat} {σ : Sg} {k : Nat} {e : va_E} {r : Nat → Int32} (hk : k < n) (he : e = cell k r) : (wd cell ad n σ).set k (ad k, e) = wd cell ad n (va_up σ k r) := by
  subst he
  apply List.ext_getElem?
  intro j
  by_cases hj : j = k
  · subst hj
    rw [List.getElem?_set_self (by simp [wd, hk])]
    simp [wd, hk, va_up]
  · rw [List.getElem?_set_ne (Ne.symm hj)]
    by_cases hn : j < n
    · simp [wd, hn, va_up, hj]
    · simp [wd, hn]
/-- one int of one row -/
def up2 (σ : Sg) (k i : Nat) (v : Int32) : Sg := va_up σ k (va_up (σ k) i v)
theorem up2_self (σ : Sg) (k i : Nat) (v : Int32) : up2 σ k i v k i = v := by simp [up2, va_up]
theorem up2_row (σ : Sg) (k : Nat) {i j : Nat} (v : Int32) (h : j ≠ i) : up2 σ k i v k j = σ k j := by simp [up2, va_up, h]
theorem up2_off (σ : Sg) {k l : Nat} {i j : Nat} (v : Int32) (h : l ≠ k) : up2 σ k i v l j = σ l j := by simp [up2, va_up, h]
/-- a reference out of a number: -1 none, else a safe -/
def rfa (ad : Nat → Nat) (v : Int32) : Option Nat := if v = -1 then none else some (ad (28 + v.toNatClampNeg))
theorem rfa_m1 (ad : Nat → Nat) : rfa ad (-1) = none := rfl
theorem rfa_ne {ad : Nat → Nat} {v : Int32} (h : ¬ v = -1) : rfa ad v = some (ad (28 + v.toNatClampNeg)) := if_neg h
theorem rf_cat (o : Option Nat) : (va_rf o).category = 1 := by cases o <;> rfl
/-- the class's cells: 0 the desk, 1 rooms, 2 plans, 3 the trace, 4 .. 9 the plans, 10 .. 27 their rows, 28 .. the safes -/
def cD (g : Gy) (ad : Nat → Nat) (k : Nat) (r : Nat → Int32) : va_E :=
  if k = 0 then .inr (4, [.ref (ad 1), .ref (ad 2), .ref (ad 3), .int (r 3), .int (r 4), .int (r 5), .int (r 6), .int (r 7), .int (r 8)])
  else if k = 1 then .inl (g.2.2.1, 8, .inr (.inr (.inr (.inr (fun i => if i < 8 then rfa ad (r i) else none)))))
  else if k = 2 then .inl (g.2.2.2, 6, .inr (.inr (.inr (.inr (fun i => if i < 6 then some (ad (4 + i)) else none)))))
  else if k = 3 then .inl (g.2.1, 120, .inl r)
  else if k < 10 then .inr (0, [.ref (ad (10 + 3 * (k - 4))), .ref (ad (10 + 3 * (k - 4) + 1)), .ref (ad (10 + 3 * (k - 4) + 2)), .int (r 3)])
  else if k < 28 then .inl (g.2.1, 12, .inl r)
  else .inr (if r 0 = 0 then 1 else if r 0 = 1 then 2 else 3, [.int (r 0), .int (r 1), .int (r 2), .int (r 3), .int (r 4), .int (r 5)])
abbrev wC (g : Gy) (ad : Nat → Nat) (n : Nat) (σ : Sg) : va_W := wd (cD g ad) ad n σ
theorem cD_0 (g : Gy) (ad : Nat → Nat) (r : Nat → Int32) : cD g ad 0 r = .inr (4, [.ref (ad 1), .ref (ad 2), .ref (ad 3), .int (r 3), .int (r 4), .int (r 5), .int (r 6), .int (r 7), .int (r 8)]) := rfl
theorem cD_1 (g : Gy) (ad : Nat → Nat) (r : Nat → Int32) : cD g ad 1 r = .inl (g.2.2.1, 8, .inr (.inr (.inr (.inr (fun i => if i < 8 then rfa ad (r i) else none))))) := rfl
theorem cD_2 (g : Gy) (ad : Nat → Nat) (r : Nat → Int32) : cD g ad 2 r = .inl (g.2.2.2, 6, .inr (.inr (.inr (.inr (fun i => if i < 6 then some (ad (4 + i)) else none))))) := rfl
theorem cD_3 (g : Gy) (ad : Nat → Nat) (r : Nat → Int32) : cD g ad 3 r = .inl (g.2.1, 120, .inl r) := rfl
theorem cD_p (g : Gy) (ad : Nat → Nat) {p : Nat} (hp : p < 6) (r : Nat → Int32) : cD g ad (4 + p) r = .inr (0, [.ref (ad (10 + 3 * p)), .ref (ad (10 + 3 * p + 1)), .ref (ad (10 + 3 * p + 2)), .int (r 3)]) := by
  have h0 : ¬ 4 + p = 0 := by omega
  have h1 : ¬ 4 + p = 1 := by omega
  have h2 : ¬ 4 + p = 2 := by omega
  have h3 : ¬ 4 + p = 3 := by omega
  have h4 : 4 + p < 10 := by omega
  have h5 : 4 + p - 4 = p := by omega
  simp only [cD, if_neg h0, if_neg h1, if_neg h2, if_neg h3, if_pos h4, h5]
theorem cD_r (g : Gy) (ad : Nat → Nat) {p q : Nat} (hp : p < 6) (hq : q < 3) (r : Nat → Int32) : cD g ad (10 + 3 * p + q) r = .inl (g.2.1, 12, .inl r) := by
  have h0 : ¬ 10 + 3 * p + q = 0 := by omega
  have h1 : ¬ 10 + 3 * p + q = 1 := by omega
  have h2 : ¬ 10 + 3 * p + q = 2 := by omega
  have h3 : ¬ 10 + 3 * p + q = 3 := by omega
  have h4 : ¬ 10 + 3 * p + q < 10 := by omega
  have h5 : 10 + 3 * p + q < 28 := by omega
  simp only [cD, if_neg h0, if_neg h1, if_neg h2, if_neg h3, if_neg h4, if_pos h5]
def kcl (v : Int32) : Nat := if v = 0 then 1 else if v = 1 then 2 else 3
theorem cD_s (g : Gy) (ad : Nat → Nat) {k : Nat} (hk : 28 ≤ k) (r : Nat → Int32) : cD g ad k r = .inr (kcl (r 0), [.int (r 0), .int (r 1), .int (r 2), .int (r 3), .int (r 4), .int (r 5)]) := by
  have h0 : ¬ k = 0 := by omega
  have h1 : ¬ k = 1 := by omega
  have h2 : ¬ k = 2 := by omega
  have h3 : ¬ k = 3 := by omega
  have h4 : ¬ k < 10 := by omega
  have h5 : ¬ k < 28 := by omega
  simp only [cD, if_neg h0, if_neg h1, if_neg h2, if_neg h3, if_neg h4, if_neg h5, kcl]
theorem kcl_123 (v : Int32) : kcl v = 1 ∨ kcl v = 2 ∨ kcl v = 3 := by
  unfold kcl
  split
  · exact Or.inl rfl
  · split
    · exact Or.inr (Or.inl rfl)
    · exact Or.inr (Or.inr rfl)
theorem upd_va (f : Nat → Int32) (k : Nat) (v : Int32) : upd f k v = va_up f k v := rfl
/-- the reference's cells: 0 the object, 1 .. 17 its arrays -/
def mln (k : Nat) : Nat := if k < 7 then 4200 else if k = 7 then 8 else if k = 8 then 6 else if k < 12 then 72 else if k = 12 then 120 else 80
def cM (g : Gy) (ad : Nat → Nat) (k : Nat) (r : Nat → Int32) : va_E :=
  if k = 0 then .inr (5, [.int (r 0), .ref (ad 1), .ref (ad 2), .ref (ad 3), .ref (ad 4), .ref (ad 5), .ref (ad 6), .ref (ad 7), .ref (ad 8), .ref (ad 9), .ref (ad 10), .ref (ad 11), .int (r 12), .int (r 13), .int (r 14), .int (r 15), .int (r 16), .int (r 17), .int (r 18), .ref (ad 12), .int (r 20), .ref (ad 13), .ref (ad 14), .ref (ad 15), .ref (ad 16), .ref (ad 17)])
  else .inl (g.2.1, mln k, .inl r)
abbrev wM (g : Gy) (ad : Nat → Nat) (σ : Sg) : va_W := wd (cM g ad) ad 18 σ
theorem cM_0 (g : Gy) (ad : Nat → Nat) (r : Nat → Int32) : cM g ad 0 r = .inr (5, [.int (r 0), .ref (ad 1), .ref (ad 2), .ref (ad 3), .ref (ad 4), .ref (ad 5), .ref (ad 6), .ref (ad 7), .ref (ad 8), .ref (ad 9), .ref (ad 10), .ref (ad 11), .int (r 12), .int (r 13), .int (r 14), .int (r 15), .int (r 16), .int (r 17), .int (r 18), .ref (ad 12), .int (r 20), .ref (ad 13), .ref (ad 14), .ref (ad 15), .ref (ad 16), .ref (ad 17)]) := rfl
theorem cM_a (g : Gy) (ad : Nat → Nat) {k : Nat} (hk : 0 < k) (r : Nat → Int32) : cM g ad k r = .inl (g.2.1, mln k, .inl r) := by
  have h0 : ¬ k = 0 := by omega
  simp only [cM, if_neg h0]
theorem iX0 : ∀ w ∈ u_ws RX0 TX0 4, w ∈ gd_tbl := by decide +kernel
theorem iX1 : ∀ w ∈ u_ws RX1 TX1 6, w ∈ gd_tbl := by decide +kernel
theorem iX2 : ∀ w ∈ u_ws RX2 TX2 6, w ∈ gd_tbl := by decide +kernel
theorem iX3 : ∀ w ∈ u_ws RX3 TX3 6, w ∈ gd_tbl := by decide +kernel
theorem iX4 : ∀ w ∈ u_ws RX4 TX4 9, w ∈ gd_tbl := by decide +kernel
theorem iX5 : ∀ w ∈ u_ws RX5 TX5 26, w ∈ gd_tbl := by decide +kernel
section JW
variable {x : Cx} {cc : ByteArray} {own : String} {ret : Option FieldType} {cells slots pc : Nat} {lv : List (Nat × Value)} {st : List Value} {ad : Nat → Nat} {n index : Nat} {σ : Sg}

theorem J_Dg3 (h : Ok x cc own ret) (hn : 0 < n) (hlink : Cond.fieldLink own index RX4 (TX4 3).2.1 (TX4 3).2.2.1 ∈ gd_tbl) (v : Int32) (hv : σ 0 3 = v) (d : decode cc pc = .ok (.getfield index, 3)) (k : J x cells slots (wC (xG x) ad n σ) (pc + 3) lv (.int v :: st)) : J x cells slots (wC (xG x) ad n σ) pc lv (.ref (ad 0) :: st) := J_get h (q0 := 0) (kf := 3) iX4 (wd_at hn (cD_0 _ _ _)) rfl (by decide) hlink (fun _ q => q) (by rw [← hv]; rfl) d k
theorem J_Dp3 (h : Ok x cc own ret) {v : Int32} (hn : 0 < n) (hlink : Cond.fieldLink own index RX4 (TX4 3).2.1 (TX4 3).2.2.1 ∈ gd_tbl) (d : decode cc pc = .ok (.putfield index, 3)) (k : J x cells slots (wC (xG x) ad n (up2 σ 0 3 v)) (pc + 3) lv st) : J x cells slots (wC (xG x) ad n σ) pc lv (.int v :: .ref (ad 0) :: st) := J_put h (q0 := 0) (kf := 3) (ty := .int) _ iX4 tyX4_ok nmX4 (wd_at hn (cD_0 _ _ _)) rfl (by decide) hlink (fun _ q => q) rfl (by decide +kernel) rfl rfl (Nat.le_of_ble_eq_true rfl) (wd_set hn (by rw [cD_0]; rfl)) d k
theorem J_Dg4 (h : Ok x cc own ret) (hn : 0 < n) (hlink : Cond.fieldLink own index RX4 (TX4 4).2.1 (TX4 4).2.2.1 ∈ gd_tbl) (v : Int32) (hv : σ 0 4 = v) (d : decode cc pc = .ok (.getfield index, 3)) (k : J x cells slots (wC (xG x) ad n σ) (pc + 3) lv (.int v :: st)) : J x cells slots (wC (xG x) ad n σ) pc lv (.ref (ad 0) :: st) := J_get h (q0 := 0) (kf := 4) iX4 (wd_at hn (cD_0 _ _ _)) rfl (by decide) hlink (fun _ q => q) (by rw [← hv]; rfl) d k
theorem J_Dp4 (h : Ok x cc own ret) {v : Int32} (hn : 0 < n) (hlink : Cond.fieldLink own index RX4 (TX4 4).2.1 (TX4 4).2.2.1 ∈ gd_tbl) (d : decode cc pc = .ok (.putfield index, 3)) (k : J x cells slots (wC (xG x) ad n (up2 σ 0 4 v)) (pc + 3) lv st) : J x cells slots (wC (xG x) ad n σ) pc lv (.int v :: .ref (ad 0) :: st) := J_put h (q0 := 0) (kf := 4) (ty := .int) _ iX4 tyX4_ok nmX4 (wd_at hn (cD_0 _ _ _)) rfl (by decide) hlink (fun _ q => q) rfl (by decide +kernel) rfl rfl (Nat.le_of_ble_eq_true rfl) (wd_set hn (by rw [cD_0]; rfl)) d k
theorem J_Dg5 (h : Ok x cc own ret) (hn : 0 < n) (hlink : Cond.fieldLink own index RX4 (TX4 5).2.1 (TX4 5).2.2.1 ∈ gd_tbl) (v : Int32) (hv : σ 0 5 = v) (d : decode cc pc = .ok (.getfield index, 3)) (k : J x cells slots (wC (xG x) ad n σ) (pc + 3) lv (.int v :: st)) : J x cells slots (wC (xG x) ad n σ) pc lv (.ref (ad 0) :: st) := J_get h (q0 := 0) (kf := 5) iX4 (wd_at hn (cD_0 _ _ _)) rfl (by decide) hlink (fun _ q => q) (by rw [← hv]; rfl) d k
theorem J_Dp5 (h : Ok x cc own ret) {v : Int32} (hn : 0 < n) (hlink : Cond.fieldLink own index RX4 (TX4 5).2.1 (TX4 5).2.2.1 ∈ gd_tbl) (d : decode cc pc = .ok (.putfield index, 3)) (k : J x cells slots (wC (xG x) ad n (up2 σ 0 5 v)) (pc + 3) lv st) : J x cells slots (wC (xG x) ad n σ) pc lv (.int v :: .ref (ad 0) :: st) := J_put h (q0 := 0) (kf := 5) (ty := .int) _ iX4 tyX4_ok nmX4 (wd_at hn (cD_0 _ _ _)) rfl (by decide) hlink (fun _ q => q) rfl (by decide +kernel) rfl rfl (Nat.le_of_ble_eq_true rfl) (wd_set hn (by rw [cD_0]; rfl)) d k
theorem J_Dg6 (h : Ok x cc own ret) (hn : 0 < n) (hlink : Cond.fieldLink own index RX4 (TX4 6).2.1 (TX4 6).2.2.1 ∈ gd_tbl) (v : Int32) (hv : σ 0 6 = v) (d : decode cc pc = .ok (.getfield index, 3)) (k : J x cells slots (wC (xG x) ad n σ) (pc + 3) lv (.int v :: st)) : J x cells slots (wC (xG x) ad n σ) pc lv (.ref (ad 0) :: st) := J_get h (q0 := 0) (kf := 6) iX4 (wd_at hn (cD_0 _ _ _)) rfl (by decide) hlink (fun _ q => q) (by rw [← hv]; rfl) d k
theorem J_Dp6 (h : Ok x cc own ret) {v : Int32} (hn : 0 < n) (hlink : Cond.fieldLink own index RX4 (TX4 6).2.1 (TX4 6).2.2.1 ∈ gd_tbl) (d : decode cc pc = .ok (.putfield index, 3)) (k : J x cells slots (wC (xG x) ad n (up2 σ 0 6 v)) (pc + 3) lv st) : J x cells slots (wC (xG x) ad n σ) pc lv (.int v :: .ref (ad 0) :: st) := J_put h (q0 := 0) (kf := 6) (ty := .int) _ iX4 tyX4_ok nmX4 (wd_at hn (cD_0 _ _ _)) rfl (by decide) hlink (fun _ q => q) rfl (by decide +kernel) rfl rfl (Nat.le_of_ble_eq_true rfl) (wd_set hn (by rw [cD_0]; rfl)) d k
theorem J_Dg7 (h : Ok x cc own ret) (hn : 0 < n) (hlink : Cond.fieldLink own index RX4 (TX4 7).2.1 (TX4 7).2.2.1 ∈ gd_tbl) (v : Int32) (hv : σ 0 7 = v) (d : decode cc pc = .ok (.getfield index, 3)) (k : J x cells slots (wC (xG x) ad n σ) (pc + 3) lv (.int v :: st)) : J x cells slots (wC (xG x) ad n σ) pc lv (.ref (ad 0) :: st) := J_get h (q0 := 0) (kf := 7) iX4 (wd_at hn (cD_0 _ _ _)) rfl (by decide) hlink (fun _ q => q) (by rw [← hv]; rfl) d k
theorem J_Dp7 (h : Ok x cc own ret) {v : Int32} (hn : 0 < n) (hlink : Cond.fieldLink own index RX4 (TX4 7).2.1 (TX4 7).2.2.1 ∈ gd_tbl) (d : decode cc pc = .ok (.putfield index, 3)) (k : J x cells slots (wC (xG x) ad n (up2 σ 0 7 v)) (pc + 3) lv st) : J x cells slots (wC (xG x) ad n σ) pc lv (.int v :: .ref (ad 0) :: st) := J_put h (q0 := 0) (kf := 7) (ty := .int) _ iX4 tyX4_ok nmX4 (wd_at hn (cD_0 _ _ _)) rfl (by decide) hlink (fun _ q => q) rfl (by decide +kernel) rfl rfl (Nat.le_of_ble_eq_true rfl) (wd_set hn (by rw [cD_0]; rfl)) d k
theorem J_Dg8 (h : Ok x cc own ret) (hn : 0 < n) (hlink : Cond.fieldLink own index RX4 (TX4 8).2.1 (TX4 8).2.2.1 ∈ gd_tbl) (v : Int32) (hv : σ 0 8 = v) (d : decode cc pc = .ok (.getfield index, 3)) (k : J x cells slots (wC (xG x) ad n σ) (pc + 3) lv (.int v :: st)) : J x cells slots (wC (xG x) ad n σ) pc lv (.ref (ad 0) :: st) := J_get h (q0 := 0) (kf := 8) iX4 (wd_at hn (cD_0 _ _ _)) rfl (by decide) hlink (fun _ q => q) (by rw [← hv]; rfl) d k
theorem J_Dp8 (h : Ok x cc own ret) {v : Int32} (hn : 0 < n) (hlink : Cond.fieldLink own index RX4 (TX4 8).2.1 (TX4 8).2.2.1 ∈ gd_tbl) (d : decode cc pc = .ok (.putfield index, 3)) (k : J x cells slots (wC (xG x) ad n (up2 σ 0 8 v)) (pc + 3) lv st) : J x cells slots (wC (xG x) ad n σ) pc lv (.int v :: .ref (ad 0) :: st) := J_put h (q0 := 0) (kf := 8) (ty := .int) _ iX4 tyX4_ok nmX4 (wd_at hn (cD_0 _ _ _)) rfl (by decide) hlink (fun _ q => q) rfl (by decide +kernel) rfl rfl (Nat.le_of_ble_eq_true rfl) (wd_set hn (by rw [cD_0]; rfl)) d k
theorem J_Dr0 (h : Ok x cc own ret) (hn : 0 < n) (hlink : Cond.fieldLink own index RX4 (TX4 0).2.1 (TX4 0).2.2.1 ∈ gd_tbl) (d : decode cc pc = .ok (.getfield index, 3)) (k : J x cells slots (wC (xG x) ad n σ) (pc + 3) lv (.ref (ad 1) :: st)) : J x cells slots (wC (xG x) ad n σ) pc lv (.ref (ad 0) :: st) := J_get h (q0 := 0) (kf := 0) iX4 (wd_at hn (cD_0 _ _ _)) rfl (by decide) hlink (fun _ q => q) rfl d k
theorem J_Dr1 (h : Ok x cc own ret) (hn : 0 < n) (hlink : Cond.fieldLink own index RX4 (TX4 1).2.1 (TX4 1).2.2.1 ∈ gd_tbl) (d : decode cc pc = .ok (.getfield index, 3)) (k : J x cells slots (wC (xG x) ad n σ) (pc + 3) lv (.ref (ad 2) :: st)) : J x cells slots (wC (xG x) ad n σ) pc lv (.ref (ad 0) :: st) := J_get h (q0 := 0) (kf := 1) iX4 (wd_at hn (cD_0 _ _ _)) rfl (by decide) hlink (fun _ q => q) rfl d k
theorem J_Dr2 (h : Ok x cc own ret) (hn : 0 < n) (hlink : Cond.fieldLink own index RX4 (TX4 2).2.1 (TX4 2).2.2.1 ∈ gd_tbl) (d : decode cc pc = .ok (.getfield index, 3)) (k : J x cells slots (wC (xG x) ad n σ) (pc + 3) lv (.ref (ad 3) :: st)) : J x cells slots (wC (xG x) ad n σ) pc lv (.ref (ad 0) :: st) := J_get h (q0 := 0) (kf := 2) iX4 (wd_at hn (cD_0 _ _ _)) rfl (by decide) hlink (fun _ q => q) rfl d k
theorem J_Ra (h : Ok x cc own ret) {i : Int32} (hn : 1 < n) (hin : vp_in i 8) (v : Int32) (hv : σ 1 i.toNatClampNeg = v) (d : decode cc pc = .ok (.aaload, 1)) (k : J x cells slots (wC (xG x) ad n σ) (pc + 1) lv (va_rf (rfa ad v) :: st)) : J x cells slots (wC (xG x) ad n σ) pc lv (.int i :: .ref (ad 1) :: st) := J_aald h (q0 := 1) (t0 := 1) (wd_at hn (cD_1 _ _ _)) rfl hin d (by rw [if_pos (Nat.not_le.mp fun q => hin (Or.inr q)), hv]; exact k)
theorem J_Pa (h : Ok x cc own ret) {i : Int32} (hn : 2 < n) (hin : vp_in i 6) (d : decode cc pc = .ok (.aaload, 1)) (k : J x cells slots (wC (xG x) ad n σ) (pc + 1) lv (.ref (ad (4 + i.toNatClampNeg)) :: st)) : J x cells slots (wC (xG x) ad n σ) pc lv (.int i :: .ref (ad 2) :: st) := J_aald h (q0 := 2) (t0 := 2) (wd_at hn (cD_2 _ _ _)) rfl hin d (by rw [if_pos (Nat.not_le.mp fun q => hin (Or.inr q))]; exact k)
theorem J_Ta (h : Ok x cc own ret) {i : Int32} (hn : 3 < n) (hin : vp_in i 120) (v : Int32) (hv : σ 3 i.toNatClampNeg = v) (d : decode cc pc = .ok (.iaload, 1)) (k : J x cells slots (wC (xG x) ad n σ) (pc + 1) lv (.int v :: st)) : J x cells slots (wC (xG x) ad n σ) pc lv (.int i :: .ref (ad 3) :: st) := J_iald h (q0 := 3) (wd_at hn (cD_3 _ _ _)) hin d (by rw [hv]; exact k)
theorem J_Ts (h : Ok x cc own ret) {i v : Int32} (hn : 3 < n) (hin : vp_in i 120) (d : decode cc pc = .ok (.iastore, 1)) (k : J x cells slots (wC (xG x) ad n (up2 σ 3 i.toNatClampNeg v)) (pc + 1) lv st) : J x cells slots (wC (xG x) ad n σ) pc lv (.int v :: .int i :: .ref (ad 3) :: st) := J_iast h (q0 := 3) _ (wd_at hn (cD_3 _ _ _)) hin (wd_set hn (by rw [cD_3]; rfl)) d k
theorem J_Ia (h : Ok x cc own ret) {i : Int32} {p q : Nat} (hp : p < 6) (hq : q < 3) (hn : 27 < n) (hin : vp_in i 12) (v : Int32) (hv : σ (10 + 3 * p + q) i.toNatClampNeg = v) (d : decode cc pc = .ok (.iaload, 1)) (k : J x cells slots (wC (xG x) ad n σ) (pc + 1) lv (.int v :: st)) : J x cells slots (wC (xG x) ad n σ) pc lv (.int i :: .ref (ad (10 + 3 * p + q)) :: st) := J_iald h (q0 := 10 + 3 * p + q) (wd_at (by omega) (cD_r _ _ hp hq _)) hin d (by rw [hv]; exact k)
theorem J_Is (h : Ok x cc own ret) {i v : Int32} {p q : Nat} (hp : p < 6) (hq : q < 3) (hn : 27 < n) (hin : vp_in i 12) (d : decode cc pc = .ok (.iastore, 1)) (k : J x cells slots (wC (xG x) ad n (up2 σ (10 + 3 * p + q) i.toNatClampNeg v)) (pc + 1) lv st) : J x cells slots (wC (xG x) ad n σ) pc lv (.int v :: .int i :: .ref (ad (10 + 3 * p + q)) :: st) := J_iast h (q0 := 10 + 3 * p + q) _ (wd_at (by omega) (cD_r _ _ hp hq _)) hin (wd_set (by omega) (by rw [cD_r _ _ hp hq]; rfl)) d k
theorem J_Pr0 (h : Ok x cc own ret) {p : Nat} (hp : p < 6) (hn : 27 < n) (hlink : Cond.fieldLink own index RX0 (TX0 0).2.1 (TX0 0).2.2.1 ∈ gd_tbl) (d : decode cc pc = .ok (.getfield index, 3)) (k : J x cells slots (wC (xG x) ad n σ) (pc + 3) lv (.ref (ad (10 + 3 * p + 0)) :: st)) : J x cells slots (wC (xG x) ad n σ) pc lv (.ref (ad (4 + p)) :: st) := J_get h (q0 := 4 + p) (kf := 0) iX0 (wd_at (by omega) (cD_p _ _ hp _)) rfl (by decide) hlink (fun _ q => q) rfl d k
theorem J_Pr1 (h : Ok x cc own ret) {p : Nat} (hp : p < 6) (hn : 27 < n) (hlink : Cond.fieldLink own index RX0 (TX0 1).2.1 (TX0 1).2.2.1 ∈ gd_tbl) (d : decode cc pc = .ok (.getfield index, 3)) (k : J x cells slots (wC (xG x) ad n σ) (pc + 3) lv (.ref (ad (10 + 3 * p + 1)) :: st)) : J x cells slots (wC (xG x) ad n σ) pc lv (.ref (ad (4 + p)) :: st) := J_get h (q0 := 4 + p) (kf := 1) iX0 (wd_at (by omega) (cD_p _ _ hp _)) rfl (by decide) hlink (fun _ q => q) rfl d k
theorem J_Pr2 (h : Ok x cc own ret) {p : Nat} (hp : p < 6) (hn : 27 < n) (hlink : Cond.fieldLink own index RX0 (TX0 2).2.1 (TX0 2).2.2.1 ∈ gd_tbl) (d : decode cc pc = .ok (.getfield index, 3)) (k : J x cells slots (wC (xG x) ad n σ) (pc + 3) lv (.ref (ad (10 + 3 * p + 2)) :: st)) : J x cells slots (wC (xG x) ad n σ) pc lv (.ref (ad (4 + p)) :: st) := J_get h (q0 := 4 + p) (kf := 2) iX0 (wd_at (by omega) (cD_p _ _ hp _)) rfl (by decide) hlink (fun _ q => q) rfl d k
theorem J_Pz (h : Ok x cc own ret) {p : Nat} (hp : p < 6) (hn : 27 < n) (hlink : Cond.fieldLink own index RX0 (TX0 3).2.1 (TX0 3).2.2.1 ∈ gd_tbl) (v : Int32) (hv : σ (4 + p) 3 = v) (d : decode cc pc = .ok (.getfield index, 3)) (k : J x cells slots (wC (xG x) ad n σ) (pc + 3) lv (.int v :: st)) : J x cells slots (wC (xG x) ad n σ) pc lv (.ref (ad (4 + p)) :: st) := J_get h (q0 := 4 + p) (kf := 3) iX0 (wd_at (by omega) (cD_p _ _ hp _)) rfl (by decide) hlink (fun _ q => q) (by rw [← hv]; rfl) d k
theorem J_Pzp (h : Ok x cc own ret) {p : Nat} {v : Int32} (hp : p < 6) (hn : 27 < n) (hlink : Cond.fieldLink own index RX0 (TX0 3).2.1 (TX0 3).2.2.1 ∈ gd_tbl) (d : decode cc pc = .ok (.putfield index, 3)) (k : J x cells slots (wC (xG x) ad n (up2 σ (4 + p) 3 v)) (pc + 3) lv st) : J x cells slots (wC (xG x) ad n σ) pc lv (.int v :: .ref (ad (4 + p)) :: st) := J_put h (q0 := 4 + p) (kf := 3) (ty := .int) _ iX0 tyX0_ok nmX0 (wd_at (by omega) (cD_p _ _ hp _)) rfl (by decide) hlink (fun _ q => q) rfl (by decide +kernel) rfl rfl (Nat.le_of_ble_eq_true rfl) (wd_set (by omega) (by rw [cD_p _ _ hp]; rfl)) d k
theorem J_Rs (h : Ok x cc own ret) {i v : Int32} (hn : 1 < n) (hin : vp_in i 8) (hv : v = -1 ∨ 28 + v.toNatClampNeg < n) (d : decode cc pc = .ok (.aastore, 1)) (k : J x cells slots (wC (xG x) ad n (up2 σ 1 i.toNatClampNeg v)) (pc + 1) lv st) : J x cells slots (wC (xG x) ad n σ) pc lv (va_rf (rfa ad v) :: .int i :: .ref (ad 1) :: st) := by
  have hlt8 : i.toNatClampNeg < 8 := Nat.not_le.mp fun q => hin (Or.inr q)
  have key : ∀ o : Option Nat, o = rfa ad v → (wd (cD (xG x) ad) ad n σ).set 1 (ad 1, .inl ((xG x).2.2.1, 8, .inr (.inr (.inr (.inr (va_up (fun i => if i < 8 then rfa ad (σ 1 i) else none) i.toNatClampNeg o)))))) = wd (cD (xG x) ad) ad n (up2 σ 1 i.toNatClampNeg v) := by
    intro o ho
    refine wd_set hn ?_
    rw [cD_1]
    congr 7
    funext j
    by_cases hj : j = i.toNatClampNeg
    · simp [va_up, hj, ho, hlt8]
    · simp [va_up, hj]
  by_cases hm : v = -1
  · have e : rfa ad v = none := by simp [rfa, hm]
    have key := key none e.symm
    rw [e]
    exact J_aastN h (q0 := 1) (t0 := 1) _ (wd_at hn (cD_1 _ _ _)) rfl hin key d k
  · have e : rfa ad v = some (ad (28 + v.toNatClampNeg)) := by simp [rfa, hm]
    have hlt : 28 + v.toNatClampNeg < n := hv.resolve_left hm
    have key := key _ e.symm
    rw [e]
    have hcell := cD_s (xG x) ad (k := 28 + v.toNatClampNeg) (by omega) (σ (28 + v.toNatClampNeg))
    rcases kcl_123 (σ (28 + v.toNatClampNeg) 0) with hc | hc | hc
    · rw [hc] at hcell
      exact J_aast h (q0 := 1) (t0 := 1) (qk := 28 + v.toNatClampNeg) (r := (RX1, TX1, 6)) _ (wd_at hn (cD_1 _ _ _)) rfl (wd_at hlt hcell) rfl hin key d k
    · rw [hc] at hcell
      exact J_aastO h (q0 := 1) (t0 := 1) (qk := 28 + v.toNatClampNeg) (r := (RX2, TX2, 6)) _ (wd_at hn (cD_1 _ _ _)) rfl h.2.2.2.2.2.2.1.2.2.2.2.1 (wd_at hlt hcell) rfl hin key d k
    · rw [hc] at hcell
      exact J_aastO h (q0 := 1) (t0 := 1) (qk := 28 + v.toNatClampNeg) (r := (RX3, TX3, 6)) _ (wd_at hn (cD_1 _ _ _)) rfl h.2.2.2.2.2.2.1.2.2.2.2.2 (wd_at hlt hcell) rfl hin key d k
theorem J_Sg0 (h : Ok x cc own ret) {j : Nat} {rf : String} (hk : 28 ≤ j) (hn : j < n) (hlink : Cond.fieldLink own index rf (TX1 0).2.1 (TX1 0).2.2.1 ∈ gd_tbl) (hsame : ∀ y, (xS x).fieldFound? (TX1 0).1 (TX1 0).2.1 (TX1 0).2.2.1 = some y → (xS x).fieldFound? rf (TX1 0).2.1 (TX1 0).2.2.1 = some y) (v : Int32) (hv : σ j 0 = v) (d : decode cc pc = .ok (.getfield index, 3)) (k : J x cells slots (wC (xG x) ad n σ) (pc + 3) lv (.int v :: st)) : J x cells slots (wC (xG x) ad n σ) pc lv (.ref (ad j) :: st) := by
  subst hv
  have hcell := cD_s (xG x) ad hk (σ j)
  rcases kcl_123 (σ j 0) with hc | hc | hc <;> rw [hc] at hcell
  · exact J_get h (q0 := j) (kf := 0) iX1 (wd_at hn hcell) rfl (by decide) hlink hsame rfl d k
  · exact J_get h (q0 := j) (kf := 0) iX2 (wd_at hn hcell) rfl (by decide) hlink hsame rfl d k
  · exact J_get h (q0 := j) (kf := 0) iX3 (wd_at hn hcell) rfl (by decide) hlink hsame rfl d k
theorem J_Sg1 (h : Ok x cc own ret) {j : Nat} {rf : String} (hk : 28 ≤ j) (hn : j < n) (hlink : Cond.fieldLink own index rf (TX1 1).2.1 (TX1 1).2.2.1 ∈ gd_tbl) (hsame : ∀ y, (xS x).fieldFound? (TX1 1).1 (TX1 1).2.1 (TX1 1).2.2.1 = some y → (xS x).fieldFound? rf (TX1 1).2.1 (TX1 1).2.2.1 = some y) (v : Int32) (hv : σ j 1 = v) (d : decode cc pc = .ok (.getfield index, 3)) (k : J x cells slots (wC (xG x) ad n σ) (pc + 3) lv (.int v :: st)) : J x cells slots (wC (xG x) ad n σ) pc lv (.ref (ad j) :: st) := by
  subst hv
  have hcell := cD_s (xG x) ad hk (σ j)
  rcases kcl_123 (σ j 0) with hc | hc | hc <;> rw [hc] at hcell
  · exact J_get h (q0 := j) (kf := 1) iX1 (wd_at hn hcell) rfl (by decide) hlink hsame rfl d k
  · exact J_get h (q0 := j) (kf := 1) iX2 (wd_at hn hcell) rfl (by decide) hlink hsame rfl d k
  · exact J_get h (q0 := j) (kf := 1) iX3 (wd_at hn hcell) rfl (by decide) hlink hsame rfl d k
theorem J_Sp1 (h : Ok x cc own ret) {j : Nat} {rf : String} {v : Int32} (hk : 28 ≤ j) (hn : j < n) (hlink : Cond.fieldLink own index rf (TX1 1).2.1 (TX1 1).2.2.1 ∈ gd_tbl) (hsame : ∀ y, (xS x).fieldFound? (TX1 1).1 (TX1 1).2.1 (TX1 1).2.2.1 = some y → (xS x).fieldFound? rf (TX1 1).2.1 (TX1 1).2.2.1 = some y) (d : decode cc pc = .ok (.putfield index, 3)) (k : J x cells slots (wC (xG x) ad n (up2 σ j 1 v)) (pc + 3) lv st) : J x cells slots (wC (xG x) ad n σ) pc lv (.int v :: .ref (ad j) :: st) := by
  have hcell := cD_s (xG x) ad hk (σ j)
  have hcell2 := cD_s (xG x) ad hk (va_up (σ j) 1 v)
  have e0 : va_up (σ j) 1 v 0 = σ j 0 := rfl
  rw [e0] at hcell2
  rcases kcl_123 (σ j 0) with hc | hc | hc <;> rw [hc] at hcell hcell2
  · exact J_put h (q0 := j) (kf := 1) (ty := .int) _ iX1 tyX1_ok nmX1 (wd_at hn hcell) rfl (by decide) hlink hsame rfl (by decide +kernel) rfl rfl (Nat.le_of_ble_eq_true rfl) (wd_set hn (hcell2.symm ▸ rfl)) d k
  · exact J_put h (q0 := j) (kf := 1) (ty := .int) _ iX2 tyX2_ok nmX2 (wd_at hn hcell) rfl (by decide) hlink hsame rfl (by decide +kernel) rfl rfl (Nat.le_of_ble_eq_true rfl) (wd_set hn (hcell2.symm ▸ rfl)) d k
  · exact J_put h (q0 := j) (kf := 1) (ty := .int) _ iX3 tyX3_ok nmX3 (wd_at hn hcell) rfl (by decide) hlink hsame rfl (by decide +kernel) rfl rfl (Nat.le_of_ble_eq_true rfl) (wd_set hn (hcell2.symm ▸ rfl)) d k
theorem J_Sg2 (h : Ok x cc own ret) {j : Nat} {rf : String} (hk : 28 ≤ j) (hn : j < n) (hlink : Cond.fieldLink own index rf (TX1 2).2.1 (TX1 2).2.2.1 ∈ gd_tbl) (hsame : ∀ y, (xS x).fieldFound? (TX1 2).1 (TX1 2).2.1 (TX1 2).2.2.1 = some y → (xS x).fieldFound? rf (TX1 2).2.1 (TX1 2).2.2.1 = some y) (v : Int32) (hv : σ j 2 = v) (d : decode cc pc = .ok (.getfield index, 3)) (k : J x cells slots (wC (xG x) ad n σ) (pc + 3) lv (.int v :: st)) : J x cells slots (wC (xG x) ad n σ) pc lv (.ref (ad j) :: st) := by
  subst hv
  have hcell := cD_s (xG x) ad hk (σ j)
  rcases kcl_123 (σ j 0) with hc | hc | hc <;> rw [hc] at hcell
  · exact J_get h (q0 := j) (kf := 2) iX1 (wd_at hn hcell) rfl (by decide) hlink hsame rfl d k
  · exact J_get h (q0 := j) (kf := 2) iX2 (wd_at hn hcell) rfl (by decide) hlink hsame rfl d k
  · exact J_get h (q0 := j) (kf := 2) iX3 (wd_at hn hcell) rfl (by decide) hlink hsame rfl d k
theorem J_Sp2 (h : Ok x cc own ret) {j : Nat} {rf : String} {v : Int32} (hk : 28 ≤ j) (hn : j < n) (hlink : Cond.fieldLink own index rf (TX1 2).2.1 (TX1 2).2.2.1 ∈ gd_tbl) (hsame : ∀ y, (xS x).fieldFound? (TX1 2).1 (TX1 2).2.1 (TX1 2).2.2.1 = some y → (xS x).fieldFound? rf (TX1 2).2.1 (TX1 2).2.2.1 = some y) (d : decode cc pc = .ok (.putfield index, 3)) (k : J x cells slots (wC (xG x) ad n (up2 σ j 2 v)) (pc + 3) lv st) : J x cells slots (wC (xG x) ad n σ) pc lv (.int v :: .ref (ad j) :: st) := by
  have hcell := cD_s (xG x) ad hk (σ j)
  have hcell2 := cD_s (xG x) ad hk (va_up (σ j) 2 v)
  have e0 : va_up (σ j) 2 v 0 = σ j 0 := rfl
  rw [e0] at hcell2
  rcases kcl_123 (σ j 0) with hc | hc | hc <;> rw [hc] at hcell hcell2
  · exact J_put h (q0 := j) (kf := 2) (ty := .int) _ iX1 tyX1_ok nmX1 (wd_at hn hcell) rfl (by decide) hlink hsame rfl (by decide +kernel) rfl rfl (Nat.le_of_ble_eq_true rfl) (wd_set hn (hcell2.symm ▸ rfl)) d k
  · exact J_put h (q0 := j) (kf := 2) (ty := .int) _ iX2 tyX2_ok nmX2 (wd_at hn hcell) rfl (by decide) hlink hsame rfl (by decide +kernel) rfl rfl (Nat.le_of_ble_eq_true rfl) (wd_set hn (hcell2.symm ▸ rfl)) d k
  · exact J_put h (q0 := j) (kf := 2) (ty := .int) _ iX3 tyX3_ok nmX3 (wd_at hn hcell) rfl (by decide) hlink hsame rfl (by decide +kernel) rfl rfl (Nat.le_of_ble_eq_true rfl) (wd_set hn (hcell2.symm ▸ rfl)) d k
theorem J_Sg3 (h : Ok x cc own ret) {j : Nat} {rf : String} (hk : 28 ≤ j) (hn : j < n) (hlink : Cond.fieldLink own index rf (TX1 3).2.1 (TX1 3).2.2.1 ∈ gd_tbl) (hsame : ∀ y, (xS x).fieldFound? (TX1 3).1 (TX1 3).2.1 (TX1 3).2.2.1 = some y → (xS x).fieldFound? rf (TX1 3).2.1 (TX1 3).2.2.1 = some y) (v : Int32) (hv : σ j 3 = v) (d : decode cc pc = .ok (.getfield index, 3)) (k : J x cells slots (wC (xG x) ad n σ) (pc + 3) lv (.int v :: st)) : J x cells slots (wC (xG x) ad n σ) pc lv (.ref (ad j) :: st) := by
  subst hv
  have hcell := cD_s (xG x) ad hk (σ j)
  rcases kcl_123 (σ j 0) with hc | hc | hc <;> rw [hc] at hcell
  · exact J_get h (q0 := j) (kf := 3) iX1 (wd_at hn hcell) rfl (by decide) hlink hsame rfl d k
  · exact J_get h (q0 := j) (kf := 3) iX2 (wd_at hn hcell) rfl (by decide) hlink hsame rfl d k
  · exact J_get h (q0 := j) (kf := 3) iX3 (wd_at hn hcell) rfl (by decide) hlink hsame rfl d k
theorem J_Sp3 (h : Ok x cc own ret) {j : Nat} {rf : String} {v : Int32} (hk : 28 ≤ j) (hn : j < n) (hlink : Cond.fieldLink own index rf (TX1 3).2.1 (TX1 3).2.2.1 ∈ gd_tbl) (hsame : ∀ y, (xS x).fieldFound? (TX1 3).1 (TX1 3).2.1 (TX1 3).2.2.1 = some y → (xS x).fieldFound? rf (TX1 3).2.1 (TX1 3).2.2.1 = some y) (d : decode cc pc = .ok (.putfield index, 3)) (k : J x cells slots (wC (xG x) ad n (up2 σ j 3 v)) (pc + 3) lv st) : J x cells slots (wC (xG x) ad n σ) pc lv (.int v :: .ref (ad j) :: st) := by
  have hcell := cD_s (xG x) ad hk (σ j)
  have hcell2 := cD_s (xG x) ad hk (va_up (σ j) 3 v)
  have e0 : va_up (σ j) 3 v 0 = σ j 0 := rfl
  rw [e0] at hcell2
  rcases kcl_123 (σ j 0) with hc | hc | hc <;> rw [hc] at hcell hcell2
  · exact J_put h (q0 := j) (kf := 3) (ty := .int) _ iX1 tyX1_ok nmX1 (wd_at hn hcell) rfl (by decide) hlink hsame rfl (by decide +kernel) rfl rfl (Nat.le_of_ble_eq_true rfl) (wd_set hn (hcell2.symm ▸ rfl)) d k
  · exact J_put h (q0 := j) (kf := 3) (ty := .int) _ iX2 tyX2_ok nmX2 (wd_at hn hcell) rfl (by decide) hlink hsame rfl (by decide +kernel) rfl rfl (Nat.le_of_ble_eq_true rfl) (wd_set hn (hcell2.symm ▸ rfl)) d k
  · exact J_put h (q0 := j) (kf := 3) (ty := .int) _ iX3 tyX3_ok nmX3 (wd_at hn hcell) rfl (by decide) hlink hsame rfl (by decide +kernel) rfl rfl (Nat.le_of_ble_eq_true rfl) (wd_set hn (hcell2.symm ▸ rfl)) d k
theorem J_Sg4 (h : Ok x cc own ret) {j : Nat} {rf : String} (hk : 28 ≤ j) (hn : j < n) (hlink : Cond.fieldLink own index rf (TX1 4).2.1 (TX1 4).2.2.1 ∈ gd_tbl) (hsame : ∀ y, (xS x).fieldFound? (TX1 4).1 (TX1 4).2.1 (TX1 4).2.2.1 = some y → (xS x).fieldFound? rf (TX1 4).2.1 (TX1 4).2.2.1 = some y) (v : Int32) (hv : σ j 4 = v) (d : decode cc pc = .ok (.getfield index, 3)) (k : J x cells slots (wC (xG x) ad n σ) (pc + 3) lv (.int v :: st)) : J x cells slots (wC (xG x) ad n σ) pc lv (.ref (ad j) :: st) := by
  subst hv
  have hcell := cD_s (xG x) ad hk (σ j)
  rcases kcl_123 (σ j 0) with hc | hc | hc <;> rw [hc] at hcell
  · exact J_get h (q0 := j) (kf := 4) iX1 (wd_at hn hcell) rfl (by decide) hlink hsame rfl d k
  · exact J_get h (q0 := j) (kf := 4) iX2 (wd_at hn hcell) rfl (by decide) hlink hsame rfl d k
  · exact J_get h (q0 := j) (kf := 4) iX3 (wd_at hn hcell) rfl (by decide) hlink hsame rfl d k
theorem J_Sp4 (h : Ok x cc own ret) {j : Nat} {rf : String} {v : Int32} (hk : 28 ≤ j) (hn : j < n) (hlink : Cond.fieldLink own index rf (TX1 4).2.1 (TX1 4).2.2.1 ∈ gd_tbl) (hsame : ∀ y, (xS x).fieldFound? (TX1 4).1 (TX1 4).2.1 (TX1 4).2.2.1 = some y → (xS x).fieldFound? rf (TX1 4).2.1 (TX1 4).2.2.1 = some y) (d : decode cc pc = .ok (.putfield index, 3)) (k : J x cells slots (wC (xG x) ad n (up2 σ j 4 v)) (pc + 3) lv st) : J x cells slots (wC (xG x) ad n σ) pc lv (.int v :: .ref (ad j) :: st) := by
  have hcell := cD_s (xG x) ad hk (σ j)
  have hcell2 := cD_s (xG x) ad hk (va_up (σ j) 4 v)
  have e0 : va_up (σ j) 4 v 0 = σ j 0 := rfl
  rw [e0] at hcell2
  rcases kcl_123 (σ j 0) with hc | hc | hc <;> rw [hc] at hcell hcell2
  · exact J_put h (q0 := j) (kf := 4) (ty := .int) _ iX1 tyX1_ok nmX1 (wd_at hn hcell) rfl (by decide) hlink hsame rfl (by decide +kernel) rfl rfl (Nat.le_of_ble_eq_true rfl) (wd_set hn (hcell2.symm ▸ rfl)) d k
  · exact J_put h (q0 := j) (kf := 4) (ty := .int) _ iX2 tyX2_ok nmX2 (wd_at hn hcell) rfl (by decide) hlink hsame rfl (by decide +kernel) rfl rfl (Nat.le_of_ble_eq_true rfl) (wd_set hn (hcell2.symm ▸ rfl)) d k
  · exact J_put h (q0 := j) (kf := 4) (ty := .int) _ iX3 tyX3_ok nmX3 (wd_at hn hcell) rfl (by decide) hlink hsame rfl (by decide +kernel) rfl rfl (Nat.le_of_ble_eq_true rfl) (wd_set hn (hcell2.symm ▸ rfl)) d k
theorem J_Sg5 (h : Ok x cc own ret) {j : Nat} {rf : String} (hk : 28 ≤ j) (hn : j < n) (hlink : Cond.fieldLink own index rf (TX1 5).2.1 (TX1 5).2.2.1 ∈ gd_tbl) (hsame : ∀ y, (xS x).fieldFound? (TX1 5).1 (TX1 5).2.1 (TX1 5).2.2.1 = some y → (xS x).fieldFound? rf (TX1 5).2.1 (TX1 5).2.2.1 = some y) (v : Int32) (hv : σ j 5 = v) (d : decode cc pc = .ok (.getfield index, 3)) (k : J x cells slots (wC (xG x) ad n σ) (pc + 3) lv (.int v :: st)) : J x cells slots (wC (xG x) ad n σ) pc lv (.ref (ad j) :: st) := by
  subst hv
  have hcell := cD_s (xG x) ad hk (σ j)
  rcases kcl_123 (σ j 0) with hc | hc | hc <;> rw [hc] at hcell
  · exact J_get h (q0 := j) (kf := 5) iX1 (wd_at hn hcell) rfl (by decide) hlink hsame rfl d k
  · exact J_get h (q0 := j) (kf := 5) iX2 (wd_at hn hcell) rfl (by decide) hlink hsame rfl d k
  · exact J_get h (q0 := j) (kf := 5) iX3 (wd_at hn hcell) rfl (by decide) hlink hsame rfl d k
theorem J_Sp5 (h : Ok x cc own ret) {j : Nat} {rf : String} {v : Int32} (hk : 28 ≤ j) (hn : j < n) (hlink : Cond.fieldLink own index rf (TX1 5).2.1 (TX1 5).2.2.1 ∈ gd_tbl) (hsame : ∀ y, (xS x).fieldFound? (TX1 5).1 (TX1 5).2.1 (TX1 5).2.2.1 = some y → (xS x).fieldFound? rf (TX1 5).2.1 (TX1 5).2.2.1 = some y) (d : decode cc pc = .ok (.putfield index, 3)) (k : J x cells slots (wC (xG x) ad n (up2 σ j 5 v)) (pc + 3) lv st) : J x cells slots (wC (xG x) ad n σ) pc lv (.int v :: .ref (ad j) :: st) := by
  have hcell := cD_s (xG x) ad hk (σ j)
  have hcell2 := cD_s (xG x) ad hk (va_up (σ j) 5 v)
  have e0 : va_up (σ j) 5 v 0 = σ j 0 := rfl
  rw [e0] at hcell2
  rcases kcl_123 (σ j 0) with hc | hc | hc <;> rw [hc] at hcell hcell2
  · exact J_put h (q0 := j) (kf := 5) (ty := .int) _ iX1 tyX1_ok nmX1 (wd_at hn hcell) rfl (by decide) hlink hsame rfl (by decide +kernel) rfl rfl (Nat.le_of_ble_eq_true rfl) (wd_set hn (hcell2.symm ▸ rfl)) d k
  · exact J_put h (q0 := j) (kf := 5) (ty := .int) _ iX2 tyX2_ok nmX2 (wd_at hn hcell) rfl (by decide) hlink hsame rfl (by decide +kernel) rfl rfl (Nat.le_of_ble_eq_true rfl) (wd_set hn (hcell2.symm ▸ rfl)) d k
  · exact J_put h (q0 := j) (kf := 5) (ty := .int) _ iX3 tyX3_ok nmX3 (wd_at hn hcell) rfl (by decide) hlink hsame rfl (by decide +kernel) rfl rfl (Nat.le_of_ble_eq_true rfl) (wd_set hn (hcell2.symm ▸ rfl)) d k
theorem J_Mg0 (h : Ok x cc own ret) (hlink : Cond.fieldLink own index RX5 (TX5 0).2.1 (TX5 0).2.2.1 ∈ gd_tbl) (v : Int32) (hv : σ 0 0 = v) (d : decode cc pc = .ok (.getfield index, 3)) (k : J x cells slots (wM (xG x) ad σ) (pc + 3) lv (.int v :: st)) : J x cells slots (wM (xG x) ad σ) pc lv (.ref (ad 0) :: st) := J_get h (q0 := 0) (kf := 0) iX5 (wd_at (by decide) (cM_0 _ _ _)) rfl (by decide) hlink (fun _ q => q) (by rw [← hv]; rfl) d k
theorem J_Mp0 (h : Ok x cc own ret) {v : Int32} (hlink : Cond.fieldLink own index RX5 (TX5 0).2.1 (TX5 0).2.2.1 ∈ gd_tbl) (d : decode cc pc = .ok (.putfield index, 3)) (k : J x cells slots (wM (xG x) ad (up2 σ 0 0 v)) (pc + 3) lv st) : J x cells slots (wM (xG x) ad σ) pc lv (.int v :: .ref (ad 0) :: st) := J_put h (q0 := 0) (kf := 0) (ty := .int) _ iX5 tyX5_ok nmX5 (wd_at (by decide) (cM_0 _ _ _)) rfl (by decide) hlink (fun _ q => q) rfl (by decide +kernel) rfl rfl (Nat.le_of_ble_eq_true rfl) (wd_set (by decide) (by rw [cM_0]; rfl)) d k
theorem J_Mg12 (h : Ok x cc own ret) (hlink : Cond.fieldLink own index RX5 (TX5 12).2.1 (TX5 12).2.2.1 ∈ gd_tbl) (v : Int32) (hv : σ 0 12 = v) (d : decode cc pc = .ok (.getfield index, 3)) (k : J x cells slots (wM (xG x) ad σ) (pc + 3) lv (.int v :: st)) : J x cells slots (wM (xG x) ad σ) pc lv (.ref (ad 0) :: st) := J_get h (q0 := 0) (kf := 12) iX5 (wd_at (by decide) (cM_0 _ _ _)) rfl (by decide) hlink (fun _ q => q) (by rw [← hv]; rfl) d k
theorem J_Mp12 (h : Ok x cc own ret) {v : Int32} (hlink : Cond.fieldLink own index RX5 (TX5 12).2.1 (TX5 12).2.2.1 ∈ gd_tbl) (d : decode cc pc = .ok (.putfield index, 3)) (k : J x cells slots (wM (xG x) ad (up2 σ 0 12 v)) (pc + 3) lv st) : J x cells slots (wM (xG x) ad σ) pc lv (.int v :: .ref (ad 0) :: st) := J_put h (q0 := 0) (kf := 12) (ty := .int) _ iX5 tyX5_ok nmX5 (wd_at (by decide) (cM_0 _ _ _)) rfl (by decide) hlink (fun _ q => q) rfl (by decide +kernel) rfl rfl (Nat.le_of_ble_eq_true rfl) (wd_set (by decide) (by rw [cM_0]; rfl)) d k
theorem J_Mg13 (h : Ok x cc own ret) (hlink : Cond.fieldLink own index RX5 (TX5 13).2.1 (TX5 13).2.2.1 ∈ gd_tbl) (v : Int32) (hv : σ 0 13 = v) (d : decode cc pc = .ok (.getfield index, 3)) (k : J x cells slots (wM (xG x) ad σ) (pc + 3) lv (.int v :: st)) : J x cells slots (wM (xG x) ad σ) pc lv (.ref (ad 0) :: st) := J_get h (q0 := 0) (kf := 13) iX5 (wd_at (by decide) (cM_0 _ _ _)) rfl (by decide) hlink (fun _ q => q) (by rw [← hv]; rfl) d k
theorem J_Mp13 (h : Ok x cc own ret) {v : Int32} (hlink : Cond.fieldLink own index RX5 (TX5 13).2.1 (TX5 13).2.2.1 ∈ gd_tbl) (d : decode cc pc = .ok (.putfield index, 3)) (k : J x cells slots (wM (xG x) ad (up2 σ 0 13 v)) (pc + 3) lv st) : J x cells slots (wM (xG x) ad σ) pc lv (.int v :: .ref (ad 0) :: st) := J_put h (q0 := 0) (kf := 13) (ty := .int) _ iX5 tyX5_ok nmX5 (wd_at (by decide) (cM_0 _ _ _)) rfl (by decide) hlink (fun _ q => q) rfl (by decide +kernel) rfl rfl (Nat.le_of_ble_eq_true rfl) (wd_set (by decide) (by rw [cM_0]; rfl)) d k
theorem J_Mg14 (h : Ok x cc own ret) (hlink : Cond.fieldLink own index RX5 (TX5 14).2.1 (TX5 14).2.2.1 ∈ gd_tbl) (v : Int32) (hv : σ 0 14 = v) (d : decode cc pc = .ok (.getfield index, 3)) (k : J x cells slots (wM (xG x) ad σ) (pc + 3) lv (.int v :: st)) : J x cells slots (wM (xG x) ad σ) pc lv (.ref (ad 0) :: st) := J_get h (q0 := 0) (kf := 14) iX5 (wd_at (by decide) (cM_0 _ _ _)) rfl (by decide) hlink (fun _ q => q) (by rw [← hv]; rfl) d k
theorem J_Mp14 (h : Ok x cc own ret) {v : Int32} (hlink : Cond.fieldLink own index RX5 (TX5 14).2.1 (TX5 14).2.2.1 ∈ gd_tbl) (d : decode cc pc = .ok (.putfield index, 3)) (k : J x cells slots (wM (xG x) ad (up2 σ 0 14 v)) (pc + 3) lv st) : J x cells slots (wM (xG x) ad σ) pc lv (.int v :: .ref (ad 0) :: st) := J_put h (q0 := 0) (kf := 14) (ty := .int) _ iX5 tyX5_ok nmX5 (wd_at (by decide) (cM_0 _ _ _)) rfl (by decide) hlink (fun _ q => q) rfl (by decide +kernel) rfl rfl (Nat.le_of_ble_eq_true rfl) (wd_set (by decide) (by rw [cM_0]; rfl)) d k
theorem J_Mg15 (h : Ok x cc own ret) (hlink : Cond.fieldLink own index RX5 (TX5 15).2.1 (TX5 15).2.2.1 ∈ gd_tbl) (v : Int32) (hv : σ 0 15 = v) (d : decode cc pc = .ok (.getfield index, 3)) (k : J x cells slots (wM (xG x) ad σ) (pc + 3) lv (.int v :: st)) : J x cells slots (wM (xG x) ad σ) pc lv (.ref (ad 0) :: st) := J_get h (q0 := 0) (kf := 15) iX5 (wd_at (by decide) (cM_0 _ _ _)) rfl (by decide) hlink (fun _ q => q) (by rw [← hv]; rfl) d k
theorem J_Mp15 (h : Ok x cc own ret) {v : Int32} (hlink : Cond.fieldLink own index RX5 (TX5 15).2.1 (TX5 15).2.2.1 ∈ gd_tbl) (d : decode cc pc = .ok (.putfield index, 3)) (k : J x cells slots (wM (xG x) ad (up2 σ 0 15 v)) (pc + 3) lv st) : J x cells slots (wM (xG x) ad σ) pc lv (.int v :: .ref (ad 0) :: st) := J_put h (q0 := 0) (kf := 15) (ty := .int) _ iX5 tyX5_ok nmX5 (wd_at (by decide) (cM_0 _ _ _)) rfl (by decide) hlink (fun _ q => q) rfl (by decide +kernel) rfl rfl (Nat.le_of_ble_eq_true rfl) (wd_set (by decide) (by rw [cM_0]; rfl)) d k
theorem J_Mg16 (h : Ok x cc own ret) (hlink : Cond.fieldLink own index RX5 (TX5 16).2.1 (TX5 16).2.2.1 ∈ gd_tbl) (v : Int32) (hv : σ 0 16 = v) (d : decode cc pc = .ok (.getfield index, 3)) (k : J x cells slots (wM (xG x) ad σ) (pc + 3) lv (.int v :: st)) : J x cells slots (wM (xG x) ad σ) pc lv (.ref (ad 0) :: st) := J_get h (q0 := 0) (kf := 16) iX5 (wd_at (by decide) (cM_0 _ _ _)) rfl (by decide) hlink (fun _ q => q) (by rw [← hv]; rfl) d k
theorem J_Mp16 (h : Ok x cc own ret) {v : Int32} (hlink : Cond.fieldLink own index RX5 (TX5 16).2.1 (TX5 16).2.2.1 ∈ gd_tbl) (d : decode cc pc = .ok (.putfield index, 3)) (k : J x cells slots (wM (xG x) ad (up2 σ 0 16 v)) (pc + 3) lv st) : J x cells slots (wM (xG x) ad σ) pc lv (.int v :: .ref (ad 0) :: st) := J_put h (q0 := 0) (kf := 16) (ty := .int) _ iX5 tyX5_ok nmX5 (wd_at (by decide) (cM_0 _ _ _)) rfl (by decide) hlink (fun _ q => q) rfl (by decide +kernel) rfl rfl (Nat.le_of_ble_eq_true rfl) (wd_set (by decide) (by rw [cM_0]; rfl)) d k
theorem J_Mg17 (h : Ok x cc own ret) (hlink : Cond.fieldLink own index RX5 (TX5 17).2.1 (TX5 17).2.2.1 ∈ gd_tbl) (v : Int32) (hv : σ 0 17 = v) (d : decode cc pc = .ok (.getfield index, 3)) (k : J x cells slots (wM (xG x) ad σ) (pc + 3) lv (.int v :: st)) : J x cells slots (wM (xG x) ad σ) pc lv (.ref (ad 0) :: st) := J_get h (q0 := 0) (kf := 17) iX5 (wd_at (by decide) (cM_0 _ _ _)) rfl (by decide) hlink (fun _ q => q) (by rw [← hv]; rfl) d k
theorem J_Mp17 (h : Ok x cc own ret) {v : Int32} (hlink : Cond.fieldLink own index RX5 (TX5 17).2.1 (TX5 17).2.2.1 ∈ gd_tbl) (d : decode cc pc = .ok (.putfield index, 3)) (k : J x cells slots (wM (xG x) ad (up2 σ 0 17 v)) (pc + 3) lv st) : J x cells slots (wM (xG x) ad σ) pc lv (.int v :: .ref (ad 0) :: st) := J_put h (q0 := 0) (kf := 17) (ty := .int) _ iX5 tyX5_ok nmX5 (wd_at (by decide) (cM_0 _ _ _)) rfl (by decide) hlink (fun _ q => q) rfl (by decide +kernel) rfl rfl (Nat.le_of_ble_eq_true rfl) (wd_set (by decide) (by rw [cM_0]; rfl)) d k
theorem J_Mg18 (h : Ok x cc own ret) (hlink : Cond.fieldLink own index RX5 (TX5 18).2.1 (TX5 18).2.2.1 ∈ gd_tbl) (v : Int32) (hv : σ 0 18 = v) (d : decode cc pc = .ok (.getfield index, 3)) (k : J x cells slots (wM (xG x) ad σ) (pc + 3) lv (.int v :: st)) : J x cells slots (wM (xG x) ad σ) pc lv (.ref (ad 0) :: st) := J_get h (q0 := 0) (kf := 18) iX5 (wd_at (by decide) (cM_0 _ _ _)) rfl (by decide) hlink (fun _ q => q) (by rw [← hv]; rfl) d k
theorem J_Mp18 (h : Ok x cc own ret) {v : Int32} (hlink : Cond.fieldLink own index RX5 (TX5 18).2.1 (TX5 18).2.2.1 ∈ gd_tbl) (d : decode cc pc = .ok (.putfield index, 3)) (k : J x cells slots (wM (xG x) ad (up2 σ 0 18 v)) (pc + 3) lv st) : J x cells slots (wM (xG x) ad σ) pc lv (.int v :: .ref (ad 0) :: st) := J_put h (q0 := 0) (kf := 18) (ty := .int) _ iX5 tyX5_ok nmX5 (wd_at (by decide) (cM_0 _ _ _)) rfl (by decide) hlink (fun _ q => q) rfl (by decide +kernel) rfl rfl (Nat.le_of_ble_eq_true rfl) (wd_set (by decide) (by rw [cM_0]; rfl)) d k
theorem J_Mg20 (h : Ok x cc own ret) (hlink : Cond.fieldLink own index RX5 (TX5 20).2.1 (TX5 20).2.2.1 ∈ gd_tbl) (v : Int32) (hv : σ 0 20 = v) (d : decode cc pc = .ok (.getfield index, 3)) (k : J x cells slots (wM (xG x) ad σ) (pc + 3) lv (.int v :: st)) : J x cells slots (wM (xG x) ad σ) pc lv (.ref (ad 0) :: st) := J_get h (q0 := 0) (kf := 20) iX5 (wd_at (by decide) (cM_0 _ _ _)) rfl (by decide) hlink (fun _ q => q) (by rw [← hv]; rfl) d k
theorem J_Mp20 (h : Ok x cc own ret) {v : Int32} (hlink : Cond.fieldLink own index RX5 (TX5 20).2.1 (TX5 20).2.2.1 ∈ gd_tbl) (d : decode cc pc = .ok (.putfield index, 3)) (k : J x cells slots (wM (xG x) ad (up2 σ 0 20 v)) (pc + 3) lv st) : J x cells slots (wM (xG x) ad σ) pc lv (.int v :: .ref (ad 0) :: st) := J_put h (q0 := 0) (kf := 20) (ty := .int) _ iX5 tyX5_ok nmX5 (wd_at (by decide) (cM_0 _ _ _)) rfl (by decide) hlink (fun _ q => q) rfl (by decide +kernel) rfl rfl (Nat.le_of_ble_eq_true rfl) (wd_set (by decide) (by rw [cM_0]; rfl)) d k
theorem J_Mr1 (h : Ok x cc own ret) (hlink : Cond.fieldLink own index RX5 (TX5 1).2.1 (TX5 1).2.2.1 ∈ gd_tbl) (d : decode cc pc = .ok (.getfield index, 3)) (k : J x cells slots (wM (xG x) ad σ) (pc + 3) lv (.ref (ad 1) :: st)) : J x cells slots (wM (xG x) ad σ) pc lv (.ref (ad 0) :: st) := J_get h (q0 := 0) (kf := 1) iX5 (wd_at (by decide) (cM_0 _ _ _)) rfl (by decide) hlink (fun _ q => q) rfl d k
theorem J_Mr2 (h : Ok x cc own ret) (hlink : Cond.fieldLink own index RX5 (TX5 2).2.1 (TX5 2).2.2.1 ∈ gd_tbl) (d : decode cc pc = .ok (.getfield index, 3)) (k : J x cells slots (wM (xG x) ad σ) (pc + 3) lv (.ref (ad 2) :: st)) : J x cells slots (wM (xG x) ad σ) pc lv (.ref (ad 0) :: st) := J_get h (q0 := 0) (kf := 2) iX5 (wd_at (by decide) (cM_0 _ _ _)) rfl (by decide) hlink (fun _ q => q) rfl d k
theorem J_Mr3 (h : Ok x cc own ret) (hlink : Cond.fieldLink own index RX5 (TX5 3).2.1 (TX5 3).2.2.1 ∈ gd_tbl) (d : decode cc pc = .ok (.getfield index, 3)) (k : J x cells slots (wM (xG x) ad σ) (pc + 3) lv (.ref (ad 3) :: st)) : J x cells slots (wM (xG x) ad σ) pc lv (.ref (ad 0) :: st) := J_get h (q0 := 0) (kf := 3) iX5 (wd_at (by decide) (cM_0 _ _ _)) rfl (by decide) hlink (fun _ q => q) rfl d k
theorem J_Mr4 (h : Ok x cc own ret) (hlink : Cond.fieldLink own index RX5 (TX5 4).2.1 (TX5 4).2.2.1 ∈ gd_tbl) (d : decode cc pc = .ok (.getfield index, 3)) (k : J x cells slots (wM (xG x) ad σ) (pc + 3) lv (.ref (ad 4) :: st)) : J x cells slots (wM (xG x) ad σ) pc lv (.ref (ad 0) :: st) := J_get h (q0 := 0) (kf := 4) iX5 (wd_at (by decide) (cM_0 _ _ _)) rfl (by decide) hlink (fun _ q => q) rfl d k
theorem J_Mr5 (h : Ok x cc own ret) (hlink : Cond.fieldLink own index RX5 (TX5 5).2.1 (TX5 5).2.2.1 ∈ gd_tbl) (d : decode cc pc = .ok (.getfield index, 3)) (k : J x cells slots (wM (xG x) ad σ) (pc + 3) lv (.ref (ad 5) :: st)) : J x cells slots (wM (xG x) ad σ) pc lv (.ref (ad 0) :: st) := J_get h (q0 := 0) (kf := 5) iX5 (wd_at (by decide) (cM_0 _ _ _)) rfl (by decide) hlink (fun _ q => q) rfl d k
theorem J_Mr6 (h : Ok x cc own ret) (hlink : Cond.fieldLink own index RX5 (TX5 6).2.1 (TX5 6).2.2.1 ∈ gd_tbl) (d : decode cc pc = .ok (.getfield index, 3)) (k : J x cells slots (wM (xG x) ad σ) (pc + 3) lv (.ref (ad 6) :: st)) : J x cells slots (wM (xG x) ad σ) pc lv (.ref (ad 0) :: st) := J_get h (q0 := 0) (kf := 6) iX5 (wd_at (by decide) (cM_0 _ _ _)) rfl (by decide) hlink (fun _ q => q) rfl d k
theorem J_Mr7 (h : Ok x cc own ret) (hlink : Cond.fieldLink own index RX5 (TX5 7).2.1 (TX5 7).2.2.1 ∈ gd_tbl) (d : decode cc pc = .ok (.getfield index, 3)) (k : J x cells slots (wM (xG x) ad σ) (pc + 3) lv (.ref (ad 7) :: st)) : J x cells slots (wM (xG x) ad σ) pc lv (.ref (ad 0) :: st) := J_get h (q0 := 0) (kf := 7) iX5 (wd_at (by decide) (cM_0 _ _ _)) rfl (by decide) hlink (fun _ q => q) rfl d k
theorem J_Mr8 (h : Ok x cc own ret) (hlink : Cond.fieldLink own index RX5 (TX5 8).2.1 (TX5 8).2.2.1 ∈ gd_tbl) (d : decode cc pc = .ok (.getfield index, 3)) (k : J x cells slots (wM (xG x) ad σ) (pc + 3) lv (.ref (ad 8) :: st)) : J x cells slots (wM (xG x) ad σ) pc lv (.ref (ad 0) :: st) := J_get h (q0 := 0) (kf := 8) iX5 (wd_at (by decide) (cM_0 _ _ _)) rfl (by decide) hlink (fun _ q => q) rfl d k
theorem J_Mr9 (h : Ok x cc own ret) (hlink : Cond.fieldLink own index RX5 (TX5 9).2.1 (TX5 9).2.2.1 ∈ gd_tbl) (d : decode cc pc = .ok (.getfield index, 3)) (k : J x cells slots (wM (xG x) ad σ) (pc + 3) lv (.ref (ad 9) :: st)) : J x cells slots (wM (xG x) ad σ) pc lv (.ref (ad 0) :: st) := J_get h (q0 := 0) (kf := 9) iX5 (wd_at (by decide) (cM_0 _ _ _)) rfl (by decide) hlink (fun _ q => q) rfl d k
theorem J_Mr10 (h : Ok x cc own ret) (hlink : Cond.fieldLink own index RX5 (TX5 10).2.1 (TX5 10).2.2.1 ∈ gd_tbl) (d : decode cc pc = .ok (.getfield index, 3)) (k : J x cells slots (wM (xG x) ad σ) (pc + 3) lv (.ref (ad 10) :: st)) : J x cells slots (wM (xG x) ad σ) pc lv (.ref (ad 0) :: st) := J_get h (q0 := 0) (kf := 10) iX5 (wd_at (by decide) (cM_0 _ _ _)) rfl (by decide) hlink (fun _ q => q) rfl d k
theorem J_Mr11 (h : Ok x cc own ret) (hlink : Cond.fieldLink own index RX5 (TX5 11).2.1 (TX5 11).2.2.1 ∈ gd_tbl) (d : decode cc pc = .ok (.getfield index, 3)) (k : J x cells slots (wM (xG x) ad σ) (pc + 3) lv (.ref (ad 11) :: st)) : J x cells slots (wM (xG x) ad σ) pc lv (.ref (ad 0) :: st) := J_get h (q0 := 0) (kf := 11) iX5 (wd_at (by decide) (cM_0 _ _ _)) rfl (by decide) hlink (fun _ q => q) rfl d k
theorem J_Mr19 (h : Ok x cc own ret) (hlink : Cond.fieldLink own index RX5 (TX5 19).2.1 (TX5 19).2.2.1 ∈ gd_tbl) (d : decode cc pc = .ok (.getfield index, 3)) (k : J x cells slots (wM (xG x) ad σ) (pc + 3) lv (.ref (ad 12) :: st)) : J x cells slots (wM (xG x) ad σ) pc lv (.ref (ad 0) :: st) := J_get h (q0 := 0) (kf := 19) iX5 (wd_at (by decide) (cM_0 _ _ _)) rfl (by decide) hlink (fun _ q => q) rfl d k
theorem J_Mr21 (h : Ok x cc own ret) (hlink : Cond.fieldLink own index RX5 (TX5 21).2.1 (TX5 21).2.2.1 ∈ gd_tbl) (d : decode cc pc = .ok (.getfield index, 3)) (k : J x cells slots (wM (xG x) ad σ) (pc + 3) lv (.ref (ad 13) :: st)) : J x cells slots (wM (xG x) ad σ) pc lv (.ref (ad 0) :: st) := J_get h (q0 := 0) (kf := 21) iX5 (wd_at (by decide) (cM_0 _ _ _)) rfl (by decide) hlink (fun _ q => q) rfl d k
theorem J_Mr22 (h : Ok x cc own ret) (hlink : Cond.fieldLink own index RX5 (TX5 22).2.1 (TX5 22).2.2.1 ∈ gd_tbl) (d : decode cc pc = .ok (.getfield index, 3)) (k : J x cells slots (wM (xG x) ad σ) (pc + 3) lv (.ref (ad 14) :: st)) : J x cells slots (wM (xG x) ad σ) pc lv (.ref (ad 0) :: st) := J_get h (q0 := 0) (kf := 22) iX5 (wd_at (by decide) (cM_0 _ _ _)) rfl (by decide) hlink (fun _ q => q) rfl d k
theorem J_Mr23 (h : Ok x cc own ret) (hlink : Cond.fieldLink own index RX5 (TX5 23).2.1 (TX5 23).2.2.1 ∈ gd_tbl) (d : decode cc pc = .ok (.getfield index, 3)) (k : J x cells slots (wM (xG x) ad σ) (pc + 3) lv (.ref (ad 15) :: st)) : J x cells slots (wM (xG x) ad σ) pc lv (.ref (ad 0) :: st) := J_get h (q0 := 0) (kf := 23) iX5 (wd_at (by decide) (cM_0 _ _ _)) rfl (by decide) hlink (fun _ q => q) rfl d k
theorem J_Mr24 (h : Ok x cc own ret) (hlink : Cond.fieldLink own index RX5 (TX5 24).2.1 (TX5 24).2.2.1 ∈ gd_tbl) (d : decode cc pc = .ok (.getfield index, 3)) (k : J x cells slots (wM (xG x) ad σ) (pc + 3) lv (.ref (ad 16) :: st)) : J x cells slots (wM (xG x) ad σ) pc lv (.ref (ad 0) :: st) := J_get h (q0 := 0) (kf := 24) iX5 (wd_at (by decide) (cM_0 _ _ _)) rfl (by decide) hlink (fun _ q => q) rfl d k
theorem J_Mr25 (h : Ok x cc own ret) (hlink : Cond.fieldLink own index RX5 (TX5 25).2.1 (TX5 25).2.2.1 ∈ gd_tbl) (d : decode cc pc = .ok (.getfield index, 3)) (k : J x cells slots (wM (xG x) ad σ) (pc + 3) lv (.ref (ad 17) :: st)) : J x cells slots (wM (xG x) ad σ) pc lv (.ref (ad 0) :: st) := J_get h (q0 := 0) (kf := 25) iX5 (wd_at (by decide) (cM_0 _ _ _)) rfl (by decide) hlink (fun _ q => q) rfl d k
theorem J_Ma (h : Ok x cc own ret) {i : Int32} (q : Nat) (L : Nat) (hq : 0 < q ∧ q < 18) (hL : mln q = L) (hin : vp_in i L) (v : Int32) (hv : σ q i.toNatClampNeg = v) (d : decode cc pc = .ok (.iaload, 1)) (k : J x cells slots (wM (xG x) ad σ) (pc + 1) lv (.int v :: st)) : J x cells slots (wM (xG x) ad σ) pc lv (.int i :: .ref (ad q) :: st) := J_iald h (q0 := q) (wd_at hq.2 (cM_a _ _ hq.1 _)) (by rw [hL]; exact hin) d (by rw [hv]; exact k)
theorem J_Ms (h : Ok x cc own ret) {i v : Int32} (q : Nat) (L : Nat) (hq : 0 < q ∧ q < 18) (hL : mln q = L) (hin : vp_in i L) (d : decode cc pc = .ok (.iastore, 1)) (k : J x cells slots (wM (xG x) ad (up2 σ q i.toNatClampNeg v)) (pc + 1) lv st) : J x cells slots (wM (xG x) ad σ) pc lv (.int v :: .int i :: .ref (ad q) :: st) := J_iast h (q0 := q) _ (wd_at hq.2 (cM_a _ _ hq.1 _)) (by rw [hL]; exact hin) (wd_set hq.2 (by rw [cM_a _ _ hq.1]; rfl)) d k
end JW
end
section
theorem ne_toI {a b : Int32} {n : Int} (h : ¬ a = b) (hb : b.toInt = n) : a.toInt ≠ n := fun q => h (Int32.toInt_inj.mp (q.trans hb.symm))
def Bn (v : Int32) : Prop := v = 0 ∨ v = 1
theorem Bn.z : Bn 0 := Or.inl rfl
theorem Bn.o : Bn 1 := Or.inr rfl
theorem Bn.ite {c : Prop} [Decidable c] {a b : Int32} (ha : Bn a) (hb : Bn b) : Bn (if c then a else b) := by
  by_cases h : c
  · rw [if_pos h]; exact ha
  · rw [if_neg h]; exact hb
theorem Bn.ite1 {c : Prop} [Decidable c] {a b : Int32 × Sg} (ha : Bn a.1) (hb : Bn b.1) : Bn (if c then a else b).1 := by
  by_cases h : c
  · rw [if_pos h]; exact ha
  · rw [if_neg h]; exact hb
theorem zb01 {v : Int32} (h : Bn v) : narrow .boolean (.int v) = .int v := by
  rcases h with rfl | rfl <;> rfl
/-- one answer, one world -/
def Det (r0 : Option Value) (w0 : va_W) : Option Value → va_W → Prop := fun r w => r = r0 ∧ w = w0
/-- a room of L levels -/
def rmA (L c s : Nat) : Room := { frames := L, cells := c, slots := s, locals := 30 * L }
abbrev rmL (L : Nat) : Room := rmA L 0 0
def RmOk (x : Cx) (L cells slots : Nat) : Prop := (xR x).frames = L ∧ (xR x).locals = 30 * L ∧ cells ≤ (xR x).cells ∧ slots ≤ (xR x).slots
theorem RmOk.of {x : Cx} {L c s cells slots : Nat} (e : xR x = rmA L c s) (h1 : cells ≤ c) (h2 : slots ≤ s) : RmOk x L cells slots := by
  unfold RmOk
  rw [e]
  exact ⟨rfl, rfl, h1, h2⟩
theorem RmOk.r {x : Cx} {L L' nb cells slots : Nat} (h : RmOk x L cells slots) (hL : L' + 1 ≤ L) (hb : nb ≤ 11) : (rmL L').frames + 1 ≤ (xR x).frames ∧ 8 + (nb + 11) + (rmL L').locals ≤ (xR x).locals := by
  obtain ⟨h1, h2, -, -⟩ := h
  rw [h1, h2]
  simp only [rmL, rmA]
  omega
theorem Con.ofF {l : Launch} {g : Gy} {y : MethodName} {cc : ByteArray} {nL : Nat} {ret : Option FieldType} {rm : Room} {As : List Value} {ws : va_W} {Po : Option Value → va_W → Prop} (hy : plainFor y = true) (hn : (lg_sl As).length ≤ nL)
    (body : ∀ x : Cx, Ok x cc y.cls ret → xL x = l → xG x = g → xR x = rm → xN x = nL → ((xT x).name = y.name) → Rt x rm.cells rm.slots Po → J x 0 0 ws 0 (lv_args 0 As) []) : Con l g y cc nL ret rm As ws Po := by
  intro sz
  refine va_MetF (cc := cc) (maxL := nL) (ret := ret) hy rfl ?_
  intro p e s m args below meth c s₁ B hml hv
  obtain ⟨rfl, hsz, hP, hK, hD0⟩ := hv
  subst hsz
  have hts := atoms_spec (ws := Cond.code y cc nL ret :: gd_tbl) B.pre
  have hl := lv_entry As (n := nL) hn
  rw [lg_entry_eq]
  refine body (p, l, e, rm, s, m, As.toArray, below, meth, c, g, va_A ws s.heap.size, MQ below (CQ g ws Po s.heap.size) As.toArray s rm.cells rm.slots (va_A ws s.heap.size), nL) ⟨B.exec, B.bytes, B.returns, hml, findClass_of_methodNamed B.named, fun w hw => hts w (List.mem_cons_of_mem _ hw), hK, B.notSynchronized, fun q h => Or.inr h⟩ rfl rfl rfl rfl (name_of_methodNamed B.named B.method).1 ⟨CQ g ws Po s.heap.size, rfl, ?_⟩ s.heap [] _ hP hD0.self va_S.rf hl
  intro r ws' H locs t hp hP1 hD1 hS1 ht
  exact ⟨r, ws', rfl, hp, by rw [ht]; exact hP1, hD1, hS1.F ht⟩
section JX
variable {x : Cx} {cc : ByteArray} {own : String} {ret : Option FieldType} {cells slots pc : Nat} {ws w0 : va_W} {lv : List (Nat × Value)} {st rest : List Value} {ad : Nat → Nat} {σ : Sg}
variable {y z : MethodName} {cb : ByteArray} {nb index n L : Nat} {rb : Option FieldType} {As : List Value} {r0 : Option Value}
theorem J_ifnullr (h : Ok x cc own ret) {off : Int} {v : Int32} (tgt : Nat) (ht : (pc : Int) + off = (tgt : Int)) (d : decode cc pc = .ok (.ifnull off, 3)) (kt : v = -1 → J x cells slots ws tgt lv st) (kf : ¬ v = -1 → J x cells slots ws (pc + 3) lv st) : J x cells slots ws pc lv (va_rf (rfa ad v) :: st) :=
  J_ifnull h tgt ht d (fun c => kt (Decidable.byContradiction fun q => by rw [rfa_ne q] at c; cases c)) (fun c => kf (fun q => c (by rw [q]; rfl)))
theorem J_ifnonnullr (h : Ok x cc own ret) {off : Int} {v : Int32} (tgt : Nat) (ht : (pc : Int) + off = (tgt : Int)) (d : decode cc pc = .ok (.ifnonnull off, 3)) (kt : ¬ v = -1 → J x cells slots ws tgt lv st) (kf : v = -1 → J x cells slots ws (pc + 3) lv st) : J x cells slots ws pc lv (va_rf (rfa ad v) :: st) :=
  J_ifnonnull h tgt ht d (fun c => kt (fun q => c (by rw [q]; rfl))) (fun c => kf (Decidable.byContradiction fun q => by rw [rfa_ne q] at c; cases c))
theorem J_cS (h : Ok x cc own ret) (hR : RmOk x L cells slots) {L' : Nat} (hL : L' + 1 ≤ L) (hc : Con (xL x) (xG x) y cb nb rb (rmL L') As ws (Det r0 w0)) (hb : nb ≤ 11) (h1 : Cond.methodLink own index y ∈ gd_tbl) (h2 : Cond.static y ∈ gd_tbl) (h4 : Cond.initialized y.cls ∈ gd_tbl) (h5 : Cond.code y cb nb rb ∈ gd_tbl)
    (hd : y.cls ≠ "java/lang/invoke/MethodHandle" ∧ y.cls ≠ "java/lang/invoke/VarHandle" ∧ (parseMethodDescriptor y.desc).map (fun d => d.parameters.length) = some n) (hn : As.length = n) (hst : st = As.reverse ++ rest) (hro : (rest.map fun v => v.category).sum ≤ 8) (st' : List Value) (hs : r0.toList ++ rest = st') (d : decode cc pc = .ok (.invokestatic index, 3))
    (k : J x cells slots w0 (pc + 3) lv st') : J x cells slots ws pc lv st := by
  subst hs
  refine J_callS h hc h1 h2 h4 h5 hd (hR.r hL hb) ⟨hR.2.2.1, hR.2.2.2⟩ hn hst hro d ?_
  rintro r w ⟨rfl, rfl⟩
  exact k
theorem J_cD (h : Ok x cc own ret) (hR : RmOk x L cells slots) {L' : Nat} (hL : L' + 1 ≤ L) {N : Nat} (hc : Con (xL x) (xG x) y cb nb rb (rmL L') (.ref (ad 0) :: As) (wC (xG x) ad N σ) (Det r0 w0)) (hb : nb ≤ 11) (h1 : Cond.methodLink own index y ∈ gd_tbl) (h2 : Cond.instanceMethod y ∈ gd_tbl) (h3 : Cond.selects RX4 y y ∈ gd_tbl) (h5 : Cond.code y cb nb rb ∈ gd_tbl)
    (hd : y.cls = RX4 ∧ y.cls ≠ "java/lang/invoke/MethodHandle" ∧ y.cls ≠ "java/lang/invoke/VarHandle" ∧ (parseMethodDescriptor y.desc).map (fun d => d.parameters.length) = some n) (hN : 0 < N) (hn : As.length = n) (hst : st = As.reverse ++ .ref (ad 0) :: rest) (hro : (rest.map fun v => v.category).sum ≤ 8) (st' : List Value) (hs : r0.toList ++ rest = st') (d : decode cc pc = .ok (.invokevirtual index, 3))
    (k : J x cells slots w0 (pc + 3) lv st') : J x cells slots (wC (xG x) ad N σ) pc lv st := by
  subst hs
  refine J_callV h hc h1 h2 h3 m_1 h5 hd (hR.r hL hb) ⟨hR.2.2.1, hR.2.2.2⟩ (q0 := 0) (wd_at hN (cD_0 _ _ _)) rfl rfl hn hst hro d ?_
  rintro r w ⟨rfl, rfl⟩
  exact k
theorem J_cP (h : Ok x cc own ret) (hR : RmOk x L cells slots) {L' p : Nat} (hp : p < 6) (hL : L' + 1 ≤ L) {N : Nat} (hc : Con (xL x) (xG x) y cb nb rb (rmL L') (.ref (ad (4 + p)) :: As) (wC (xG x) ad N σ) (Det r0 w0)) (hb : nb ≤ 11) (h1 : Cond.methodLink own index y ∈ gd_tbl) (h2 : Cond.instanceMethod y ∈ gd_tbl) (h3 : Cond.selects RX0 y y ∈ gd_tbl) (h5 : Cond.code y cb nb rb ∈ gd_tbl)
    (hd : y.cls = RX0 ∧ y.cls ≠ "java/lang/invoke/MethodHandle" ∧ y.cls ≠ "java/lang/invoke/VarHandle" ∧ (parseMethodDescriptor y.desc).map (fun d => d.parameters.length) = some n) (hN : 27 < N) (hn : As.length = n) (hst : st = As.reverse ++ .ref (ad (4 + p)) :: rest) (hro : (rest.map fun v => v.category).sum ≤ 8) (st' : List Value) (hs : r0.toList ++ rest = st') (d : decode cc pc = .ok (.invokevirtual index, 3))
    (k : J x cells slots w0 (pc + 3) lv st') : J x cells slots (wC (xG x) ad N σ) pc lv st := by
  subst hs
  refine J_callV h hc h1 h2 h3 m_2 h5 hd (hR.r hL hb) ⟨hR.2.2.1, hR.2.2.2⟩ (q0 := 4 + p) (wd_at (by omega) (cD_p _ _ hp _)) rfl rfl hn hst hro d ?_
  rintro r w ⟨rfl, rfl⟩
  exact k
theorem J_cM (h : Ok x cc own ret) (hR : RmOk x L cells slots) {L' : Nat} (hL : L' + 1 ≤ L) (hc : Con (xL x) (xG x) y cb nb rb (rmL L') (.ref (ad 0) :: As) (wM (xG x) ad σ) (Det r0 w0)) (hb : nb ≤ 11) (h1 : Cond.methodLink own index y ∈ gd_tbl) (h2 : Cond.instanceMethod y ∈ gd_tbl) (h3 : Cond.selects RX5 y y ∈ gd_tbl) (h5 : Cond.code y cb nb rb ∈ gd_tbl)
    (hd : y.cls = RX5 ∧ y.cls ≠ "java/lang/invoke/MethodHandle" ∧ y.cls ≠ "java/lang/invoke/VarHandle" ∧ (parseMethodDescriptor y.desc).map (fun d => d.parameters.length) = some n) (hn : As.length = n) (hst : st = As.reverse ++ .ref (ad 0) :: rest) (hro : (rest.map fun v => v.category).sum ≤ 8) (st' : List Value) (hs : r0.toList ++ rest = st') (d : decode cc pc = .ok (.invokevirtual index, 3))
    (k : J x cells slots w0 (pc + 3) lv st') : J x cells slots (wM (xG x) ad σ) pc lv st := by
  subst hs
  refine J_callV h hc h1 h2 h3 m_3 h5 hd (hR.r hL hb) ⟨hR.2.2.1, hR.2.2.2⟩ (q0 := 0) (wd_at (by decide) (cM_0 _ _ _)) rfl rfl hn hst hro d ?_
  rintro r w ⟨rfl, rfl⟩
  exact k
/-- which classes a safe may be of -/
def Sels (v : Int32) (z y : MethodName) : Prop := ∀ (q : vw_C), clL[kcl v]? = some q → Cond.selects q.1 z y ∈ gd_tbl
theorem Sels.of3 {v : Int32} {z y : MethodName} (h1 : Cond.selects RX1 z y ∈ gd_tbl) (h2 : Cond.selects RX2 z y ∈ gd_tbl) (h3 : Cond.selects RX3 z y ∈ gd_tbl) : Sels v z y := by
  intro q hq
  rcases kcl_123 v with hc | hc | hc <;> rw [hc] at hq <;> cases hq <;> assumption
theorem kcl_1 {v : Int32} (h : ¬ v = 0) : kcl v = 2 ∨ kcl v = 3 := by
  unfold kcl
  rw [if_neg h]
  split
  · exact Or.inl rfl
  · exact Or.inr rfl
theorem kcl_2 {v : Int32} (h : ¬ v = 0) (h1 : ¬ v = 1) : kcl v = 3 := by
  unfold kcl
  rw [if_neg h, if_neg h1]
theorem Sels.of2 {v : Int32} {z y : MethodName} (hv : ¬ v = 0) (h2 : Cond.selects RX2 z y ∈ gd_tbl) (h3 : Cond.selects RX3 z y ∈ gd_tbl) : Sels v z y := by
  intro q hq
  rcases kcl_1 hv with hc | hc <;> rw [hc] at hq <;> cases hq <;> assumption
theorem Sels.of1 {v : Int32} {z y : MethodName} (hv : ¬ v = 0) (hv1 : ¬ v = 1) (h3 : Cond.selects RX3 z y ∈ gd_tbl) : Sels v z y := by
  intro q hq
  rw [kcl_2 hv hv1] at hq
  cases hq
  assumption
/-- a safe's member that no heir has anew -/
theorem J_cU (h : Ok x cc own ret) (hR : RmOk x L cells slots) {L' j : Nat} (hj : 28 ≤ j) {N : Nat} (hN : j < N) (hL : L' + 1 ≤ L) (hc : Con (xL x) (xG x) y cb nb rb (rmL L') (.ref (ad j) :: As) (wC (xG x) ad N σ) (Det r0 w0)) (hb : nb ≤ 11) (h1 : Cond.methodLink own index z ∈ gd_tbl) (h2 : Cond.sameMethod z.cls RX1 z.name z.desc ∈ gd_tbl) (h3 : Sels (σ j 0) z y) (h6 : Cond.instanceMethod y ∈ gd_tbl) (h5 : Cond.code y cb nb rb ∈ gd_tbl)
    (hyx : y = ⟨RX1, z.name, z.desc⟩) (hd : RX1 ≠ "java/lang/invoke/MethodHandle" ∧ RX1 ≠ "java/lang/invoke/VarHandle" ∧ (parseMethodDescriptor z.desc).map (fun d => d.parameters.length) = some n) (hn : As.length = n) (hst : st = As.reverse ++ .ref (ad j) :: rest) (hro : (rest.map fun v => v.category).sum ≤ 8) (st' : List Value) (hs : r0.toList ++ rest = st') (d : decode cc pc = .ok (.invokevirtual index, 3))
    (k : J x cells slots w0 (pc + 3) lv st') : J x cells slots (wC (xG x) ad N σ) pc lv st := by
  subst hs
  have hcell := cD_s (xG x) ad hj (σ j)
  obtain ⟨q, hq⟩ : ∃ q : vw_C, clL[kcl (σ j 0)]? = some q := by
    rcases kcl_123 (σ j 0) with hc | hc | hc <;> rw [hc] <;> exact ⟨_, rfl⟩
  refine J_callU h (owner := RX1) (C := q.1) hc h1 h2 (h3 q hq) h6 (by rw [hyx]; exact m_4) h5 hyx hd (hR.r hL hb) ⟨hR.2.2.1, hR.2.2.2⟩ (q0 := j) (wd_at hN hcell) hq rfl hn hst hro d ?_
  rintro r w ⟨rfl, rfl⟩
  exact k
/-- a member of the class above -/
theorem J_cT (h : Ok x cc own ret) (hR : RmOk x L cells slots) {L' j : Nat} (hj : 28 ≤ j) {N : Nat} (hN : j < N) (hL : L' + 1 ≤ L) (hc : Con (xL x) (xG x) y cb nb rb (rmL L') (.ref (ad j) :: As) (wC (xG x) ad N σ) (Det r0 w0)) (hb : nb ≤ 11) (h1 : Cond.methodLink own index y ∈ gd_tbl) (h2 : Cond.sameMethod y.cls y.cls y.name y.desc ∈ gd_tbl) (h3 : Cond.superclass own y.cls ∈ gd_tbl) (h6 : Cond.instanceMethod y ∈ gd_tbl) (h4 : Cond.initialized y.cls ∈ gd_tbl) (h5 : Cond.code y cb nb rb ∈ gd_tbl)
    (hd : y.name ≠ "<init>" ∧ (parseMethodDescriptor y.desc).map (fun d => d.parameters.length) = some n) (hn : As.length = n) (hst : st = As.reverse ++ .ref (ad j) :: rest) (hro : (rest.map fun v => v.category).sum ≤ 8) (st' : List Value) (hs : r0.toList ++ rest = st') (d : decode cc pc = .ok (.invokespecial index, 3))
    (k : J x cells slots w0 (pc + 3) lv st') : J x cells slots (wC (xG x) ad N σ) pc lv st := by
  subst hs
  have hcell := cD_s (xG x) ad hj (σ j)
  obtain ⟨q, hq⟩ : ∃ q : vw_C, clL[kcl (σ j 0)]? = some q := by
    rcases kcl_123 (σ j 0) with hc | hc | hc <;> rw [hc] <;> exact ⟨_, rfl⟩
  refine J_callP h hc h1 h2 h3 h6 h4 h5 hd (hR.r hL hb) ⟨hR.2.2.1, hR.2.2.2⟩ (q0 := j) (wd_at hN hcell) hq hn hst hro d ?_
  rintro r w ⟨rfl, rfl⟩
  exact k
/-- a safe's member that its heirs have anew: each kind's own -/
theorem J_cO (h : Ok x cc own ret) (hR : RmOk x L cells slots) {L1 L2 L3 j n1 n2 n3 : Nat} {c1 c2 c3 : ByteArray} {y1 y2 y3 : MethodName} (hj : 28 ≤ j) {N : Nat} (hN : j < N) (hL : L1 + 1 ≤ L ∧ L2 + 1 ≤ L ∧ L3 + 1 ≤ L)
    (hc1 : σ j 0 = 0 → Con (xL x) (xG x) y1 c1 n1 rb (rmL L1) (.ref (ad j) :: As) (wC (xG x) ad N σ) (Det r0 w0)) (hc2 : σ j 0 = 1 → Con (xL x) (xG x) y2 c2 n2 rb (rmL L2) (.ref (ad j) :: As) (wC (xG x) ad N σ) (Det r0 w0)) (hc3 : ¬ σ j 0 = 0 → ¬ σ j 0 = 1 → Con (xL x) (xG x) y3 c3 n3 rb (rmL L3) (.ref (ad j) :: As) (wC (xG x) ad N σ) (Det r0 w0)) (hb : n1 ≤ 11 ∧ n2 ≤ 11 ∧ n3 ≤ 11)
    (h1 : Cond.methodLink own index z ∈ gd_tbl) (h2 : Cond.sameMethod z.cls RX1 z.name z.desc ∈ gd_tbl) (hz : z = ⟨RX1, z.name, z.desc⟩) (hy1 : y1 = z) (hi : y1.cls = RX1 ∧ y2.cls = RX2 ∧ y3.cls = RX3)
    (hs1 : Cond.selects RX1 z y1 ∈ gd_tbl) (hs2 : Cond.selects RX2 z y2 ∈ gd_tbl) (hs3 : Cond.selects RX3 z y3 ∈ gd_tbl) (hm1 : Cond.instanceMethod y1 ∈ gd_tbl) (hm2 : Cond.instanceMethod y2 ∈ gd_tbl) (hm3 : Cond.instanceMethod y3 ∈ gd_tbl) (hk1 : Cond.code y1 c1 n1 rb ∈ gd_tbl) (hk2 : Cond.code y2 c2 n2 rb ∈ gd_tbl) (hk3 : Cond.code y3 c3 n3 rb ∈ gd_tbl)
    (hd : RX1 ≠ "java/lang/invoke/MethodHandle" ∧ RX1 ≠ "java/lang/invoke/VarHandle" ∧ (parseMethodDescriptor z.desc).map (fun d => d.parameters.length) = some n) (hn : As.length = n) (hst : st = As.reverse ++ .ref (ad j) :: rest) (hro : (rest.map fun v => v.category).sum ≤ 8) (st' : List Value) (hs : r0.toList ++ rest = st') (d : decode cc pc = .ok (.invokevirtual index, 3))
    (k : J x cells slots w0 (pc + 3) lv st') : J x cells slots (wC (xG x) ad N σ) pc lv st := by
  subst hs
  have hcell := cD_s (xG x) ad hj (σ j)
  have hk : ∀ (r : Option Value) (w : va_W), Det r0 w0 r w → J x cells slots w (pc + 3) lv (r.toList ++ rest) := by
    rintro r w ⟨rfl, rfl⟩
    exact k
  by_cases a0 : σ j 0 = 0
  · have e : kcl (σ j 0) = 1 := by rw [a0]; rfl
    rw [e] at hcell
    exact J_callU h (owner := RX1) (C := RX1) (hc1 a0) h1 h2 hs1 hm1 (by rw [hi.1]; exact m_4) hk1 (by rw [hy1]; exact hz) hd (hR.r hL.1 hb.1) ⟨hR.2.2.1, hR.2.2.2⟩ (q0 := j) (q := (RX1, TX1, 6)) (wd_at hN hcell) rfl rfl hn hst hro d hk
  · by_cases a1 : σ j 0 = 1
    · have e : kcl (σ j 0) = 2 := by rw [a1]; rfl
      rw [e] at hcell
      exact J_callO h (owner := RX1) (C := RX2) (b0 := c1) (m0 := n1) (r0 := rb) (hc2 a1) h1 h2 (by rw [← hz, ← hy1]; exact hm1) hs2 hm2 (by rw [hi.2.1]; exact m_5) hk2 (by rw [← hz, ← hy1]; exact hk1) hd (hR.r hL.2.1 hb.2.1) ⟨hR.2.2.1, hR.2.2.2⟩ (q0 := j) (q := (RX2, TX2, 6)) (wd_at hN hcell) rfl rfl hn hst hro d hk
    · rw [kcl_2 a0 a1] at hcell
      exact J_callO h (owner := RX1) (C := RX3) (b0 := c1) (m0 := n1) (r0 := rb) (hc3 a0 a1) h1 h2 (by rw [← hz, ← hy1]; exact hm1) hs3 hm3 (by rw [hi.2.2]; exact m_6) hk3 (by rw [← hz, ← hy1]; exact hk1) hd (hR.r hL.2.2 hb.2.2) ⟨hR.2.2.1, hR.2.2.2⟩ (q0 := j) (q := (RX3, TX3, 6)) (wd_at hN hcell) rfl rfl hn hst hro d hk
end JX
end
section
def f_J9_max_7cf53 (a : Int32) (b : Int32) : Int32 := (if a < b then b else a)
theorem hd_J9_max_7cf53 : yJ9_max_7cf53.cls ≠ "java/lang/invoke/MethodHandle" ∧ yJ9_max_7cf53.cls ≠ "java/lang/invoke/VarHandle" ∧ (parseMethodDescriptor yJ9_max_7cf53.desc).map (fun d => d.parameters.length) = some 2 := by decide +kernel
set_option maxHeartbeats 4000000 in
set_option maxRecDepth 20000 in
theorem c_J9_max_7cf53 (l : Launch) (g : Gy) (ws : va_W) (a : Int32) (b : Int32)  : Con l g yJ9_max_7cf53 cJ9_max_7cf53 2 (some .int) (rmL 0) [.int a, .int b] ws (Det (some (.int (f_J9_max_7cf53 a b))) ws) := by
  refine Con.ofF (by decide +kernel) (Nat.le_of_ble_eq_true rfl) ?_
  intro x h e1 e2 e3 e4 e5 hr
  subst e1 e2
  have h : Ok x cJ9_max_7cf53 "java/lang/Math" (some .int) := h
  have hR : RmOk x 0 0 0 := RmOk.of e3 (Nat.le_refl _) (Nat.le_refl _)
  obtain ⟨out, ho⟩ : ∃ o, f_J9_max_7cf53 a b = o := ⟨_, rfl⟩
  rw [ho] at hr
  unfold f_J9_max_7cf53 at ho
  show J x 0 0 _ 0 [(0, .int a), (1, .int b)] []
  refine J_iload_n (pc := 0) (n := 0) (i := 0) h 0 rfl rfl dJ9_max_7cf53_0 ?_
  refine J_iload_n (pc := 1) (n := 1) (i := 1) h 1 rfl rfl dJ9_max_7cf53_1 ?_
  refine J_icmp_lt (pc := 2) h 9 (by decide) dJ9_max_7cf53_2 (fun c1 => ?_) (fun c1 => ?_)
  · replace ho := (if_pos c1).symm.trans ho
    refine J_iload_n (pc := 9) (n := 1) (i := 1) h 1 rfl rfl dJ9_max_7cf53_9 ?_
    exact J_iret (pc := 10) h hr (by subst ho; exact ⟨rfl, rfl⟩) dJ9_max_7cf53_10
  · replace ho := (if_neg c1).symm.trans ho
    refine J_iload_n (pc := 5) (n := 0) (i := 0) h 0 rfl rfl dJ9_max_7cf53_5 ?_
    refine J_goto (pc := 6) h 10 (by decide) dJ9_max_7cf53_6 ?_
    exact J_iret (pc := 10) h hr (by subst ho; exact ⟨rfl, rfl⟩) dJ9_max_7cf53_10
def f_J9_min_7cf53 (a : Int32) (b : Int32) : Int32 := (if b < a then b else a)
theorem hd_J9_min_7cf53 : yJ9_min_7cf53.cls ≠ "java/lang/invoke/MethodHandle" ∧ yJ9_min_7cf53.cls ≠ "java/lang/invoke/VarHandle" ∧ (parseMethodDescriptor yJ9_min_7cf53.desc).map (fun d => d.parameters.length) = some 2 := by decide +kernel
set_option maxHeartbeats 4000000 in
set_option maxRecDepth 20000 in
theorem c_J9_min_7cf53 (l : Launch) (g : Gy) (ws : va_W) (a : Int32) (b : Int32)  : Con l g yJ9_min_7cf53 cJ9_min_7cf53 2 (some .int) (rmL 0) [.int a, .int b] ws (Det (some (.int (f_J9_min_7cf53 a b))) ws) := by
  refine Con.ofF (by decide +kernel) (Nat.le_of_ble_eq_true rfl) ?_
  intro x h e1 e2 e3 e4 e5 hr
  subst e1 e2
  have h : Ok x cJ9_min_7cf53 "java/lang/Math" (some .int) := h
  have hR : RmOk x 0 0 0 := RmOk.of e3 (Nat.le_refl _) (Nat.le_refl _)
  obtain ⟨out, ho⟩ : ∃ o, f_J9_min_7cf53 a b = o := ⟨_, rfl⟩
  rw [ho] at hr
  unfold f_J9_min_7cf53 at ho
  show J x 0 0 _ 0 [(0, .int a), (1, .int b)] []
  refine J_iload_n (pc := 0) (n := 0) (i := 0) h 0 rfl rfl dJ9_min_7cf53_0 ?_
  refine J_iload_n (pc := 1) (n := 1) (i := 1) h 1 rfl rfl dJ9_min_7cf53_1 ?_
  refine J_icmp_gt (pc := 2) h 9 (by decide) dJ9_min_7cf53_2 (fun c1 => ?_) (fun c1 => ?_)
  · replace ho := (if_pos c1).symm.trans ho
    refine J_iload_n (pc := 9) (n := 1) (i := 1) h 1 rfl rfl dJ9_min_7cf53_9 ?_
    exact J_iret (pc := 10) h hr (by subst ho; exact ⟨rfl, rfl⟩) dJ9_min_7cf53_10
  · replace ho := (if_neg c1).symm.trans ho
    refine J_iload_n (pc := 5) (n := 0) (i := 0) h 0 rfl rfl dJ9_min_7cf53_5 ?_
    refine J_goto (pc := 6) h 10 (by decide) dJ9_min_7cf53_6 ?_
    exact J_iret (pc := 10) h hr (by subst ho; exact ⟨rfl, rfl⟩) dJ9_min_7cf53_10
def f_J9_floorMod_7cf53 (a : Int32) (b : Int32) : Int32 := (if 0 ≤ a ^^^ b then (a - a / b * b) else (if a - a / b * b = 0 then (a - a / b * b) else ((a - a / b * b) + b)))
theorem hd_J9_floorMod_7cf53 : yJ9_floorMod_7cf53.cls ≠ "java/lang/invoke/MethodHandle" ∧ yJ9_floorMod_7cf53.cls ≠ "java/lang/invoke/VarHandle" ∧ (parseMethodDescriptor yJ9_floorMod_7cf53.desc).map (fun d => d.parameters.length) = some 2 := by decide +kernel
set_option maxHeartbeats 4000000 in
set_option maxRecDepth 20000 in
theorem c_J9_floorMod_7cf53 (l : Launch) (g : Gy) (ws : va_W) (a : Int32) (b : Int32) (hb : ¬ b = 0) : Con l g yJ9_floorMod_7cf53 cJ9_floorMod_7cf53 3 (some .int) (rmL 0) [.int a, .int b] ws (Det (some (.int (f_J9_floorMod_7cf53 a b))) ws) := by
  refine Con.ofF (by decide +kernel) (Nat.le_of_ble_eq_true rfl) ?_
  intro x h e1 e2 e3 e4 e5 hr
  subst e1 e2
  have h : Ok x cJ9_floorMod_7cf53 "java/lang/Math" (some .int) := h
  have hR : RmOk x 0 0 0 := RmOk.of e3 (Nat.le_refl _) (Nat.le_refl _)
  obtain ⟨out, ho⟩ : ∃ o, f_J9_floorMod_7cf53 a b = o := ⟨_, rfl⟩
  rw [ho] at hr
  unfold f_J9_floorMod_7cf53 at ho
  show J x 0 0 _ 0 [(0, .int a), (1, .int b)] []
  refine J_iload_n (pc := 0) (n := 0) (i := 0) h 0 rfl rfl dJ9_floorMod_7cf53_0 ?_
  refine J_iload_n (pc := 1) (n := 1) (i := 1) h 1 rfl rfl dJ9_floorMod_7cf53_1 ?_
  refine J_irem (pc := 2) h hb dJ9_floorMod_7cf53_2 ?_
  refine J_istore_n (pc := 3) (n := 2) (i := 2) h [(2, .int (a - a / b * b)), (0, .int a), (1, .int b)] rfl (by rw [e4]; decide) rfl dJ9_floorMod_7cf53_3 ?_
  refine J_iload_n (pc := 4) (n := 0) (i := 0) h 1 rfl rfl dJ9_floorMod_7cf53_4 ?_
  refine J_iload_n (pc := 5) (n := 1) (i := 1) h 2 rfl rfl dJ9_floorMod_7cf53_5 ?_
  refine J_ixor (pc := 6) h dJ9_floorMod_7cf53_6 ?_
  refine J_if_ge (pc := 7) h 18 (by decide) dJ9_floorMod_7cf53_7 (fun c1 => ?_) (fun c1 => ?_)
  · replace ho := (if_pos c1).symm.trans ho
    refine J_iload_n (pc := 18) (n := 2) (i := 2) h 0 rfl rfl dJ9_floorMod_7cf53_18 ?_
    exact J_iret (pc := 19) h hr (by subst ho; exact ⟨rfl, rfl⟩) dJ9_floorMod_7cf53_19
  · replace ho := (if_neg c1).symm.trans ho
    refine J_iload_n (pc := 10) (n := 2) (i := 2) h 0 rfl rfl dJ9_floorMod_7cf53_10 ?_
    refine J_if_eq (pc := 11) h 18 (by decide) dJ9_floorMod_7cf53_11 (fun c2 => ?_) (fun c2 => ?_)
    · replace ho := (if_pos c2).symm.trans ho
      refine J_iload_n (pc := 18) (n := 2) (i := 2) h 0 rfl rfl dJ9_floorMod_7cf53_18 ?_
      exact J_iret (pc := 19) h hr (by subst ho; exact ⟨rfl, rfl⟩) dJ9_floorMod_7cf53_19
    · replace ho := (if_neg c2).symm.trans ho
      refine J_iload_n (pc := 14) (n := 2) (i := 2) h 0 rfl rfl dJ9_floorMod_7cf53_14 ?_
      refine J_iload_n (pc := 15) (n := 1) (i := 1) h 2 rfl rfl dJ9_floorMod_7cf53_15 ?_
      refine J_iadd (pc := 16) h dJ9_floorMod_7cf53_16 ?_
      exact J_iret (pc := 17) h hr (by subst ho; exact ⟨rfl, rfl⟩) dJ9_floorMod_7cf53_17
def f_X4_isRoom (a : Int32) : Int32 := (if a < 0 then 0 else (if 8 ≤ a then 0 else 1))
theorem bn_X4_isRoom (a : Int32) : Bn (f_X4_isRoom a) := by
  unfold f_X4_isRoom
  repeat' (first | exact Bn.z | exact Bn.o | refine Bn.ite ?_ ?_)
theorem zb_X4_isRoom (a : Int32) : narrow .boolean (.int (f_X4_isRoom a)) = .int (f_X4_isRoom a) := zb01 (bn_X4_isRoom a)
theorem hd_X4_isRoom : yX4_isRoom.cls ≠ "java/lang/invoke/MethodHandle" ∧ yX4_isRoom.cls ≠ "java/lang/invoke/VarHandle" ∧ (parseMethodDescriptor yX4_isRoom.desc).map (fun d => d.parameters.length) = some 1 := by decide +kernel
set_option maxHeartbeats 4000000 in
set_option maxRecDepth 20000 in
theorem c_X4_isRoom (l : Launch) (g : Gy) (ws : va_W) (a : Int32)  : Con l g yX4_isRoom cX4_isRoom 1 (some .boolean) (rmL 0) [.int a] ws (Det (some (.int (f_X4_isRoom a))) ws) := by
  refine Con.of (by decide) (Nat.le_of_ble_eq_true rfl) ?_
  intro x h e1 e2 e3 e4 e5 hr
  subst e1 e2
  have h : Ok x cX4_isRoom "SafeDesk" (some .boolean) := h
  have hR : RmOk x 0 0 0 := RmOk.of e3 (Nat.le_refl _) (Nat.le_refl _)
  obtain ⟨out, ho⟩ : ∃ o, f_X4_isRoom a = o := ⟨_, rfl⟩
  rw [ho] at hr
  unfold f_X4_isRoom at ho
  show J x 0 0 _ 0 [(0, .int a)] []
  refine J_iload_n (pc := 0) (n := 0) (i := 0) h 0 rfl rfl dX4_isRoom_0 ?_
  refine J_if_lt (pc := 1) h 14 (by decide) dX4_isRoom_1 (fun c1 => ?_) (fun c1 => ?_)
  · replace ho := (if_pos c1).symm.trans ho
    refine J_iconst (pc := 14) h (0) rfl dX4_isRoom_14 ?_
    exact J_zret (pc := 15) h rfl hr (by subst ho; exact ⟨rfl, rfl⟩) dX4_isRoom_15
  · replace ho := (if_neg c1).symm.trans ho
    refine J_iload_n (pc := 4) (n := 0) (i := 0) h 0 rfl rfl dX4_isRoom_4 ?_
    refine J_bipush (pc := 5) h (8) rfl dX4_isRoom_5 ?_
    refine J_icmp_ge (pc := 7) h 14 (by decide) dX4_isRoom_7 (fun c2 => ?_) (fun c2 => ?_)
    · replace ho := (if_pos c2).symm.trans ho
      refine J_iconst (pc := 14) h (0) rfl dX4_isRoom_14 ?_
      exact J_zret (pc := 15) h rfl hr (by subst ho; exact ⟨rfl, rfl⟩) dX4_isRoom_15
    · replace ho := (if_neg c2).symm.trans ho
      refine J_iconst (pc := 10) h (1) rfl dX4_isRoom_10 ?_
      refine J_goto (pc := 11) h 15 (by decide) dX4_isRoom_11 ?_
      exact J_zret (pc := 15) h rfl hr (by subst ho; exact ⟨rfl, rfl⟩) dX4_isRoom_15
def f_X4_isPlan (a : Int32) : Int32 := (if a < 0 then 0 else (if 6 ≤ a then 0 else 1))
theorem bn_X4_isPlan (a : Int32) : Bn (f_X4_isPlan a) := by
  unfold f_X4_isPlan
  repeat' (first | exact Bn.z | exact Bn.o | refine Bn.ite ?_ ?_)
theorem zb_X4_isPlan (a : Int32) : narrow .boolean (.int (f_X4_isPlan a)) = .int (f_X4_isPlan a) := zb01 (bn_X4_isPlan a)
theorem hd_X4_isPlan : yX4_isPlan.cls ≠ "java/lang/invoke/MethodHandle" ∧ yX4_isPlan.cls ≠ "java/lang/invoke/VarHandle" ∧ (parseMethodDescriptor yX4_isPlan.desc).map (fun d => d.parameters.length) = some 1 := by decide +kernel
set_option maxHeartbeats 4000000 in
set_option maxRecDepth 20000 in
theorem c_X4_isPlan (l : Launch) (g : Gy) (ws : va_W) (a : Int32)  : Con l g yX4_isPlan cX4_isPlan 1 (some .boolean) (rmL 0) [.int a] ws (Det (some (.int (f_X4_isPlan a))) ws) := by
  refine Con.of (by decide) (Nat.le_of_ble_eq_true rfl) ?_
  intro x h e1 e2 e3 e4 e5 hr
  subst e1 e2
  have h : Ok x cX4_isPlan "SafeDesk" (some .boolean) := h
  have hR : RmOk x 0 0 0 := RmOk.of e3 (Nat.le_refl _) (Nat.le_refl _)
  obtain ⟨out, ho⟩ : ∃ o, f_X4_isPlan a = o := ⟨_, rfl⟩
  rw [ho] at hr
  unfold f_X4_isPlan at ho
  show J x 0 0 _ 0 [(0, .int a)] []
  refine J_iload_n (pc := 0) (n := 0) (i := 0) h 0 rfl rfl dX4_isPlan_0 ?_
  refine J_if_lt (pc := 1) h 14 (by decide) dX4_isPlan_1 (fun c1 => ?_) (fun c1 => ?_)
  · replace ho := (if_pos c1).symm.trans ho
    refine J_iconst (pc := 14) h (0) rfl dX4_isPlan_14 ?_
    exact J_zret (pc := 15) h rfl hr (by subst ho; exact ⟨rfl, rfl⟩) dX4_isPlan_15
  · replace ho := (if_neg c1).symm.trans ho
    refine J_iload_n (pc := 4) (n := 0) (i := 0) h 0 rfl rfl dX4_isPlan_4 ?_
    refine J_bipush (pc := 5) h (6) rfl dX4_isPlan_5 ?_
    refine J_icmp_ge (pc := 7) h 14 (by decide) dX4_isPlan_7 (fun c2 => ?_) (fun c2 => ?_)
    · replace ho := (if_pos c2).symm.trans ho
      refine J_iconst (pc := 14) h (0) rfl dX4_isPlan_14 ?_
      exact J_zret (pc := 15) h rfl hr (by subst ho; exact ⟨rfl, rfl⟩) dX4_isPlan_15
    · replace ho := (if_neg c2).symm.trans ho
      refine J_iconst (pc := 10) h (1) rfl dX4_isPlan_10 ?_
      refine J_goto (pc := 11) h 15 (by decide) dX4_isPlan_11 ?_
      exact J_zret (pc := 15) h rfl hr (by subst ho; exact ⟨rfl, rfl⟩) dX4_isPlan_15
def f_X4_isBlock (a : Int32) : Int32 := (if a < 1 then 0 else (if 11 < a then 0 else 1))
theorem bn_X4_isBlock (a : Int32) : Bn (f_X4_isBlock a) := by
  unfold f_X4_isBlock
  repeat' (first | exact Bn.z | exact Bn.o | refine Bn.ite ?_ ?_)
theorem zb_X4_isBlock (a : Int32) : narrow .boolean (.int (f_X4_isBlock a)) = .int (f_X4_isBlock a) := zb01 (bn_X4_isBlock a)
theorem hd_X4_isBlock : yX4_isBlock.cls ≠ "java/lang/invoke/MethodHandle" ∧ yX4_isBlock.cls ≠ "java/lang/invoke/VarHandle" ∧ (parseMethodDescriptor yX4_isBlock.desc).map (fun d => d.parameters.length) = some 1 := by decide +kernel
set_option maxHeartbeats 4000000 in
set_option maxRecDepth 20000 in
theorem c_X4_isBlock (l : Launch) (g : Gy) (ws : va_W) (a : Int32)  : Con l g yX4_isBlock cX4_isBlock 1 (some .boolean) (rmL 0) [.int a] ws (Det (some (.int (f_X4_isBlock a))) ws) := by
  refine Con.of (by decide) (Nat.le_of_ble_eq_true rfl) ?_
  intro x h e1 e2 e3 e4 e5 hr
  subst e1 e2
  have h : Ok x cX4_isBlock "SafeDesk" (some .boolean) := h
  have hR : RmOk x 0 0 0 := RmOk.of e3 (Nat.le_refl _) (Nat.le_refl _)
  obtain ⟨out, ho⟩ : ∃ o, f_X4_isBlock a = o := ⟨_, rfl⟩
  rw [ho] at hr
  unfold f_X4_isBlock at ho
  show J x 0 0 _ 0 [(0, .int a)] []
  refine J_iload_n (pc := 0) (n := 0) (i := 0) h 0 rfl rfl dX4_isBlock_0 ?_
  refine J_iconst (pc := 1) h (1) rfl dX4_isBlock_1 ?_
  refine J_icmp_lt (pc := 2) h 15 (by decide) dX4_isBlock_2 (fun c1 => ?_) (fun c1 => ?_)
  · replace ho := (if_pos c1).symm.trans ho
    refine J_iconst (pc := 15) h (0) rfl dX4_isBlock_15 ?_
    exact J_zret (pc := 16) h rfl hr (by subst ho; exact ⟨rfl, rfl⟩) dX4_isBlock_16
  · replace ho := (if_neg c1).symm.trans ho
    refine J_iload_n (pc := 5) (n := 0) (i := 0) h 0 rfl rfl dX4_isBlock_5 ?_
    refine J_bipush (pc := 6) h (11) rfl dX4_isBlock_6 ?_
    refine J_icmp_gt (pc := 8) h 15 (by decide) dX4_isBlock_8 (fun c2 => ?_) (fun c2 => ?_)
    · replace ho := (if_pos c2).symm.trans ho
      refine J_iconst (pc := 15) h (0) rfl dX4_isBlock_15 ?_
      exact J_zret (pc := 16) h rfl hr (by subst ho; exact ⟨rfl, rfl⟩) dX4_isBlock_16
    · replace ho := (if_neg c2).symm.trans ho
      refine J_iconst (pc := 11) h (1) rfl dX4_isBlock_11 ?_
      refine J_goto (pc := 12) h 16 (by decide) dX4_isBlock_12 ?_
      exact J_zret (pc := 16) h rfl hr (by subst ho; exact ⟨rfl, rfl⟩) dX4_isBlock_16
def f_X4_isOwnFailure (a : Int32) : Int32 := (if a < 20 then 0 else (if 23 < a then 0 else 1))
theorem bn_X4_isOwnFailure (a : Int32) : Bn (f_X4_isOwnFailure a) := by
  unfold f_X4_isOwnFailure
  repeat' (first | exact Bn.z | exact Bn.o | refine Bn.ite ?_ ?_)
theorem zb_X4_isOwnFailure (a : Int32) : narrow .boolean (.int (f_X4_isOwnFailure a)) = .int (f_X4_isOwnFailure a) := zb01 (bn_X4_isOwnFailure a)
theorem hd_X4_isOwnFailure : yX4_isOwnFailure.cls ≠ "java/lang/invoke/MethodHandle" ∧ yX4_isOwnFailure.cls ≠ "java/lang/invoke/VarHandle" ∧ (parseMethodDescriptor yX4_isOwnFailure.desc).map (fun d => d.parameters.length) = some 1 := by decide +kernel
set_option maxHeartbeats 4000000 in
set_option maxRecDepth 20000 in
theorem c_X4_isOwnFailure (l : Launch) (g : Gy) (ws : va_W) (a : Int32)  : Con l g yX4_isOwnFailure cX4_isOwnFailure 1 (some .boolean) (rmL 0) [.int a] ws (Det (some (.int (f_X4_isOwnFailure a))) ws) := by
  refine Con.of (by decide) (Nat.le_of_ble_eq_true rfl) ?_
  intro x h e1 e2 e3 e4 e5 hr
  subst e1 e2
  have h : Ok x cX4_isOwnFailure "SafeDesk" (some .boolean) := h
  have hR : RmOk x 0 0 0 := RmOk.of e3 (Nat.le_refl _) (Nat.le_refl _)
  obtain ⟨out, ho⟩ : ∃ o, f_X4_isOwnFailure a = o := ⟨_, rfl⟩
  rw [ho] at hr
  unfold f_X4_isOwnFailure at ho
  show J x 0 0 _ 0 [(0, .int a)] []
  refine J_iload_n (pc := 0) (n := 0) (i := 0) h 0 rfl rfl dX4_isOwnFailure_0 ?_
  refine J_bipush (pc := 1) h (20) rfl dX4_isOwnFailure_1 ?_
  refine J_icmp_lt (pc := 3) h 16 (by decide) dX4_isOwnFailure_3 (fun c1 => ?_) (fun c1 => ?_)
  · replace ho := (if_pos c1).symm.trans ho
    refine J_iconst (pc := 16) h (0) rfl dX4_isOwnFailure_16 ?_
    exact J_zret (pc := 17) h rfl hr (by subst ho; exact ⟨rfl, rfl⟩) dX4_isOwnFailure_17
  · replace ho := (if_neg c1).symm.trans ho
    refine J_iload_n (pc := 6) (n := 0) (i := 0) h 0 rfl rfl dX4_isOwnFailure_6 ?_
    refine J_bipush (pc := 7) h (23) rfl dX4_isOwnFailure_7 ?_
    refine J_icmp_gt (pc := 9) h 16 (by decide) dX4_isOwnFailure_9 (fun c2 => ?_) (fun c2 => ?_)
    · replace ho := (if_pos c2).symm.trans ho
      refine J_iconst (pc := 16) h (0) rfl dX4_isOwnFailure_16 ?_
      exact J_zret (pc := 17) h rfl hr (by subst ho; exact ⟨rfl, rfl⟩) dX4_isOwnFailure_17
    · replace ho := (if_neg c2).symm.trans ho
      refine J_iconst (pc := 12) h (1) rfl dX4_isOwnFailure_12 ?_
      refine J_goto (pc := 13) h 17 (by decide) dX4_isOwnFailure_13 ?_
      exact J_zret (pc := 17) h rfl hr (by subst ho; exact ⟨rfl, rfl⟩) dX4_isOwnFailure_17
def f_X4_canBeHeld (a : Int32) : Int32 := (if a = 0 then 1 else (if a = 1 then 1 else (if a = 6 then 1 else (if a = 7 then 1 else (if a = 30 then 1 else (if f_X4_isOwnFailure a = 0 then 0 else 1))))))
theorem bn_X4_canBeHeld (a : Int32) : Bn (f_X4_canBeHeld a) := by
  unfold f_X4_canBeHeld
  repeat' (first | exact Bn.z | exact Bn.o | refine Bn.ite ?_ ?_)
theorem zb_X4_canBeHeld (a : Int32) : narrow .boolean (.int (f_X4_canBeHeld a)) = .int (f_X4_canBeHeld a) := zb01 (bn_X4_canBeHeld a)
theorem hd_X4_canBeHeld : yX4_canBeHeld.cls ≠ "java/lang/invoke/MethodHandle" ∧ yX4_canBeHeld.cls ≠ "java/lang/invoke/VarHandle" ∧ (parseMethodDescriptor yX4_canBeHeld.desc).map (fun d => d.parameters.length) = some 1 := by decide +kernel
set_option maxHeartbeats 4000000 in
set_option maxRecDepth 20000 in
theorem c_X4_canBeHeld (l : Launch) (g : Gy) (ws : va_W) (a : Int32)  : Con l g yX4_canBeHeld cX4_canBeHeld 1 (some .boolean) (rmL 1) [.int a] ws (Det (some (.int (f_X4_canBeHeld a))) ws) := by
  refine Con.of (by decide) (Nat.le_of_ble_eq_true rfl) ?_
  intro x h e1 e2 e3 e4 e5 hr
  subst e1 e2
  have h : Ok x cX4_canBeHeld "SafeDesk" (some .boolean) := h
  have hR : RmOk x 1 0 0 := RmOk.of e3 (Nat.le_refl _) (Nat.le_refl _)
  obtain ⟨out, ho⟩ : ∃ o, f_X4_canBeHeld a = o := ⟨_, rfl⟩
  rw [ho] at hr
  unfold f_X4_canBeHeld at ho
  show J x 0 0 _ 0 [(0, .int a)] []
  refine J_iload_n (pc := 0) (n := 0) (i := 0) h 0 rfl rfl dX4_canBeHeld_0 ?_
  refine J_if_eq (pc := 1) h 34 (by decide) dX4_canBeHeld_1 (fun c1 => ?_) (fun c1 => ?_)
  · replace ho := (if_pos c1).symm.trans ho
    refine J_iconst (pc := 34) h (1) rfl dX4_canBeHeld_34 ?_
    refine J_goto (pc := 35) h 39 (by decide) dX4_canBeHeld_35 ?_
    exact J_zret (pc := 39) h rfl hr (by subst ho; exact ⟨rfl, rfl⟩) dX4_canBeHeld_39
  · replace ho := (if_neg c1).symm.trans ho
    refine J_iload_n (pc := 4) (n := 0) (i := 0) h 0 rfl rfl dX4_canBeHeld_4 ?_
    refine J_iconst (pc := 5) h (1) rfl dX4_canBeHeld_5 ?_
    refine J_icmp_eq (pc := 6) h 34 (by decide) dX4_canBeHeld_6 (fun c2 => ?_) (fun c2 => ?_)
    · replace ho := (if_pos c2).symm.trans ho
      refine J_iconst (pc := 34) h (1) rfl dX4_canBeHeld_34 ?_
      refine J_goto (pc := 35) h 39 (by decide) dX4_canBeHeld_35 ?_
      exact J_zret (pc := 39) h rfl hr (by subst ho; exact ⟨rfl, rfl⟩) dX4_canBeHeld_39
    · replace ho := (if_neg c2).symm.trans ho
      refine J_iload_n (pc := 9) (n := 0) (i := 0) h 0 rfl rfl dX4_canBeHeld_9 ?_
      refine J_bipush (pc := 10) h (6) rfl dX4_canBeHeld_10 ?_
      refine J_icmp_eq (pc := 12) h 34 (by decide) dX4_canBeHeld_12 (fun c3 => ?_) (fun c3 => ?_)
      · replace ho := (if_pos c3).symm.trans ho
        refine J_iconst (pc := 34) h (1) rfl dX4_canBeHeld_34 ?_
        refine J_goto (pc := 35) h 39 (by decide) dX4_canBeHeld_35 ?_
        exact J_zret (pc := 39) h rfl hr (by subst ho; exact ⟨rfl, rfl⟩) dX4_canBeHeld_39
      · replace ho := (if_neg c3).symm.trans ho
        refine J_iload_n (pc := 15) (n := 0) (i := 0) h 0 rfl rfl dX4_canBeHeld_15 ?_
        refine J_bipush (pc := 16) h (7) rfl dX4_canBeHeld_16 ?_
        refine J_icmp_eq (pc := 18) h 34 (by decide) dX4_canBeHeld_18 (fun c4 => ?_) (fun c4 => ?_)
        · replace ho := (if_pos c4).symm.trans ho
          refine J_iconst (pc := 34) h (1) rfl dX4_canBeHeld_34 ?_
          refine J_goto (pc := 35) h 39 (by decide) dX4_canBeHeld_35 ?_
          exact J_zret (pc := 39) h rfl hr (by subst ho; exact ⟨rfl, rfl⟩) dX4_canBeHeld_39
        · replace ho := (if_neg c4).symm.trans ho
          refine J_iload_n (pc := 21) (n := 0) (i := 0) h 0 rfl rfl dX4_canBeHeld_21 ?_
          refine J_bipush (pc := 22) h (30) rfl dX4_canBeHeld_22 ?_
          refine J_icmp_eq (pc := 24) h 34 (by decide) dX4_canBeHeld_24 (fun c5 => ?_) (fun c5 => ?_)
          · replace ho := (if_pos c5).symm.trans ho
            refine J_iconst (pc := 34) h (1) rfl dX4_canBeHeld_34 ?_
            refine J_goto (pc := 35) h 39 (by decide) dX4_canBeHeld_35 ?_
            exact J_zret (pc := 39) h rfl hr (by subst ho; exact ⟨rfl, rfl⟩) dX4_canBeHeld_39
          · replace ho := (if_neg c5).symm.trans ho
            refine J_iload_n (pc := 27) (n := 0) (i := 0) h 0 rfl rfl dX4_canBeHeld_27 ?_
            refine J_cS (pc := 28) h hR (by decide) (c_X4_isOwnFailure _ _ _ a ) (by decide) m_163 m_164 m_1 m_165 hd_X4_isOwnFailure rfl rfl (Nat.le_of_ble_eq_true rfl) [.int (f_X4_isOwnFailure a)] rfl dX4_canBeHeld_28 ?_
            refine J_if_eq (pc := 31) h 38 (by decide) dX4_canBeHeld_31 (fun c6 => ?_) (fun c6 => ?_)
            · replace ho := (if_pos c6).symm.trans ho
              refine J_iconst (pc := 38) h (0) rfl dX4_canBeHeld_38 ?_
              exact J_zret (pc := 39) h rfl hr (by subst ho; exact ⟨rfl, rfl⟩) dX4_canBeHeld_39
            · replace ho := (if_neg c6).symm.trans ho
              refine J_iconst (pc := 34) h (1) rfl dX4_canBeHeld_34 ?_
              refine J_goto (pc := 35) h 39 (by decide) dX4_canBeHeld_35 ?_
              exact J_zret (pc := 39) h rfl hr (by subst ho; exact ⟨rfl, rfl⟩) dX4_canBeHeld_39
def f_X4_isStep (kd : Int32) (a : Int32) (b : Int32) : Int32 := (if kd = 0 then (if f_X4_isRoom a = 0 then 0 else (if f_X4_isBlock b = 0 then 0 else 1)) else (if kd = 1 then (if f_X4_canBeHeld a = 0 then 0 else (if f_X4_isBlock b = 0 then 0 else 1)) else (if kd = 2 then (f_X4_isRoom a) else (if kd = 3 then (f_X4_isRoom a) else (if kd = 4 then (f_X4_isRoom a) else (if kd = 5 then (f_X4_isRoom a) else (if kd = 6 then (f_X4_isRoom a) else (if kd = 7 then (f_X4_isRoom a) else (if kd = 8 then 1 else (if kd = 9 then (f_X4_isOwnFailure a) else (if kd = 10 then 1 else (if kd = 11 then 1 else (if kd = 12 then (f_X4_isPlan a) else (if kd = 13 then (f_X4_isRoom a) else 0))))))))))))))
theorem bn_X4_isStep (kd : Int32) (a : Int32) (b : Int32) : Bn (f_X4_isStep kd a b) := by
  unfold f_X4_isStep
  repeat' (first | exact Bn.z | exact Bn.o | exact bn_X4_isOwnFailure _ | exact bn_X4_isPlan _ | exact bn_X4_isRoom _ | refine Bn.ite ?_ ?_)
theorem zb_X4_isStep (kd : Int32) (a : Int32) (b : Int32) : narrow .boolean (.int (f_X4_isStep kd a b)) = .int (f_X4_isStep kd a b) := zb01 (bn_X4_isStep kd a b)
theorem hd_X4_isStep : yX4_isStep.cls ≠ "java/lang/invoke/MethodHandle" ∧ yX4_isStep.cls ≠ "java/lang/invoke/VarHandle" ∧ (parseMethodDescriptor yX4_isStep.desc).map (fun d => d.parameters.length) = some 3 := by decide +kernel
set_option maxHeartbeats 4000000 in
set_option maxRecDepth 20000 in
theorem c_X4_isStep (l : Launch) (g : Gy) (ws : va_W) (kd : Int32) (a : Int32) (b : Int32)  : Con l g yX4_isStep cX4_isStep 3 (some .boolean) (rmL 2) [.int kd, .int a, .int b] ws (Det (some (.int (f_X4_isStep kd a b))) ws) := by
  refine Con.of (by decide) (Nat.le_of_ble_eq_true rfl) ?_
  intro x h e1 e2 e3 e4 e5 hr
  subst e1 e2
  have h : Ok x cX4_isStep "SafeDesk" (some .boolean) := h
  have hR : RmOk x 2 0 0 := RmOk.of e3 (Nat.le_refl _) (Nat.le_refl _)
  obtain ⟨out, ho⟩ : ∃ o, f_X4_isStep kd a b = o := ⟨_, rfl⟩
  rw [ho] at hr
  unfold f_X4_isStep at ho
  show J x 0 0 _ 0 [(0, .int kd), (1, .int a), (2, .int b)] []
  refine J_iload_n (pc := 0) (n := 0) (i := 0) h 0 rfl rfl dX4_isStep_0 ?_
  by_cases c1 : kd = 0
  · replace ho := (if_pos c1).symm.trans ho
    refine J_tabIn (pc := 1) h (0) 72 c1 (by decide) (by decide) rfl (by decide) dX4_isStep_1 ?_
    refine J_iload_n (pc := 72) (n := 1) (i := 1) h 1 rfl rfl dX4_isStep_72 ?_
    refine J_cS (pc := 73) h hR (by decide) (c_X4_isRoom _ _ _ a ) (by decide) m_75 m_76 m_1 m_77 hd_X4_isRoom rfl rfl (Nat.le_of_ble_eq_true rfl) [.int (f_X4_isRoom a)] rfl dX4_isStep_73 ?_
    refine J_if_eq (pc := 76) h 90 (by decide) dX4_isStep_76 (fun c2 => ?_) (fun c2 => ?_)
    · replace ho := (if_pos c2).symm.trans ho
      refine J_iconst (pc := 90) h (0) rfl dX4_isStep_90 ?_
      exact J_zret (pc := 91) h rfl hr (by subst ho; exact ⟨rfl, rfl⟩) dX4_isStep_91
    · replace ho := (if_neg c2).symm.trans ho
      refine J_iload_n (pc := 79) (n := 2) (i := 2) h 2 rfl rfl dX4_isStep_79 ?_
      refine J_cS (pc := 80) h hR (by decide) (c_X4_isBlock _ _ _ b ) (by decide) m_157 m_158 m_1 m_159 hd_X4_isBlock rfl rfl (Nat.le_of_ble_eq_true rfl) [.int (f_X4_isBlock b)] rfl dX4_isStep_80 ?_
      refine J_if_eq (pc := 83) h 90 (by decide) dX4_isStep_83 (fun c3 => ?_) (fun c3 => ?_)
      · replace ho := (if_pos c3).symm.trans ho
        refine J_iconst (pc := 90) h (0) rfl dX4_isStep_90 ?_
        exact J_zret (pc := 91) h rfl hr (by subst ho; exact ⟨rfl, rfl⟩) dX4_isStep_91
      · replace ho := (if_neg c3).symm.trans ho
        refine J_iconst (pc := 86) h (1) rfl dX4_isStep_86 ?_
        refine J_goto (pc := 87) h 91 (by decide) dX4_isStep_87 ?_
        exact J_zret (pc := 91) h rfl hr (by subst ho; exact ⟨rfl, rfl⟩) dX4_isStep_91
  replace ho := (if_neg c1).symm.trans ho
  by_cases c4 : kd = 1
  · replace ho := (if_pos c4).symm.trans ho
    refine J_tabIn (pc := 1) h (1) 92 c4 (by decide) (by decide) rfl (by decide) dX4_isStep_1 ?_
    refine J_iload_n (pc := 92) (n := 1) (i := 1) h 1 rfl rfl dX4_isStep_92 ?_
    refine J_cS (pc := 93) h hR (by decide) (c_X4_canBeHeld _ _ _ a ) (by decide) m_160 m_161 m_1 m_162 hd_X4_canBeHeld rfl rfl (Nat.le_of_ble_eq_true rfl) [.int (f_X4_canBeHeld a)] rfl dX4_isStep_93 ?_
    refine J_if_eq (pc := 96) h 110 (by decide) dX4_isStep_96 (fun c5 => ?_) (fun c5 => ?_)
    · replace ho := (if_pos c5).symm.trans ho
      refine J_iconst (pc := 110) h (0) rfl dX4_isStep_110 ?_
      exact J_zret (pc := 111) h rfl hr (by subst ho; exact ⟨rfl, rfl⟩) dX4_isStep_111
    · replace ho := (if_neg c5).symm.trans ho
      refine J_iload_n (pc := 99) (n := 2) (i := 2) h 2 rfl rfl dX4_isStep_99 ?_
      refine J_cS (pc := 100) h hR (by decide) (c_X4_isBlock _ _ _ b ) (by decide) m_157 m_158 m_1 m_159 hd_X4_isBlock rfl rfl (Nat.le_of_ble_eq_true rfl) [.int (f_X4_isBlock b)] rfl dX4_isStep_100 ?_
      refine J_if_eq (pc := 103) h 110 (by decide) dX4_isStep_103 (fun c6 => ?_) (fun c6 => ?_)
      · replace ho := (if_pos c6).symm.trans ho
        refine J_iconst (pc := 110) h (0) rfl dX4_isStep_110 ?_
        exact J_zret (pc := 111) h rfl hr (by subst ho; exact ⟨rfl, rfl⟩) dX4_isStep_111
      · replace ho := (if_neg c6).symm.trans ho
        refine J_iconst (pc := 106) h (1) rfl dX4_isStep_106 ?_
        refine J_goto (pc := 107) h 111 (by decide) dX4_isStep_107 ?_
        exact J_zret (pc := 111) h rfl hr (by subst ho; exact ⟨rfl, rfl⟩) dX4_isStep_111
  replace ho := (if_neg c4).symm.trans ho
  by_cases c7 : kd = 2
  · replace ho := (if_pos c7).symm.trans ho
    refine J_tabIn (pc := 1) h (2) 112 c7 (by decide) (by decide) rfl (by decide) dX4_isStep_1 ?_
    refine J_iload_n (pc := 112) (n := 1) (i := 1) h 1 rfl rfl dX4_isStep_112 ?_
    refine J_cS (pc := 113) h hR (by decide) (c_X4_isRoom _ _ _ a ) (by decide) m_75 m_76 m_1 m_77 hd_X4_isRoom rfl rfl (Nat.le_of_ble_eq_true rfl) [.int (f_X4_isRoom a)] rfl dX4_isStep_113 ?_
    exact J_zret (pc := 116) h (zb_X4_isRoom _) hr (by subst ho; exact ⟨rfl, rfl⟩) dX4_isStep_116
  replace ho := (if_neg c7).symm.trans ho
  by_cases c8 : kd = 3
  · replace ho := (if_pos c8).symm.trans ho
    refine J_tabIn (pc := 1) h (3) 112 c8 (by decide) (by decide) rfl (by decide) dX4_isStep_1 ?_
    refine J_iload_n (pc := 112) (n := 1) (i := 1) h 1 rfl rfl dX4_isStep_112 ?_
    refine J_cS (pc := 113) h hR (by decide) (c_X4_isRoom _ _ _ a ) (by decide) m_75 m_76 m_1 m_77 hd_X4_isRoom rfl rfl (Nat.le_of_ble_eq_true rfl) [.int (f_X4_isRoom a)] rfl dX4_isStep_113 ?_
    exact J_zret (pc := 116) h (zb_X4_isRoom _) hr (by subst ho; exact ⟨rfl, rfl⟩) dX4_isStep_116
  replace ho := (if_neg c8).symm.trans ho
  by_cases c9 : kd = 4
  · replace ho := (if_pos c9).symm.trans ho
    refine J_tabIn (pc := 1) h (4) 112 c9 (by decide) (by decide) rfl (by decide) dX4_isStep_1 ?_
    refine J_iload_n (pc := 112) (n := 1) (i := 1) h 1 rfl rfl dX4_isStep_112 ?_
    refine J_cS (pc := 113) h hR (by decide) (c_X4_isRoom _ _ _ a ) (by decide) m_75 m_76 m_1 m_77 hd_X4_isRoom rfl rfl (Nat.le_of_ble_eq_true rfl) [.int (f_X4_isRoom a)] rfl dX4_isStep_113 ?_
    exact J_zret (pc := 116) h (zb_X4_isRoom _) hr (by subst ho; exact ⟨rfl, rfl⟩) dX4_isStep_116
  replace ho := (if_neg c9).symm.trans ho
  by_cases c10 : kd = 5
  · replace ho := (if_pos c10).symm.trans ho
    refine J_tabIn (pc := 1) h (5) 112 c10 (by decide) (by decide) rfl (by decide) dX4_isStep_1 ?_
    refine J_iload_n (pc := 112) (n := 1) (i := 1) h 1 rfl rfl dX4_isStep_112 ?_
    refine J_cS (pc := 113) h hR (by decide) (c_X4_isRoom _ _ _ a ) (by decide) m_75 m_76 m_1 m_77 hd_X4_isRoom rfl rfl (Nat.le_of_ble_eq_true rfl) [.int (f_X4_isRoom a)] rfl dX4_isStep_113 ?_
    exact J_zret (pc := 116) h (zb_X4_isRoom _) hr (by subst ho; exact ⟨rfl, rfl⟩) dX4_isStep_116
  replace ho := (if_neg c10).symm.trans ho
  by_cases c11 : kd = 6
  · replace ho := (if_pos c11).symm.trans ho
    refine J_tabIn (pc := 1) h (6) 112 c11 (by decide) (by decide) rfl (by decide) dX4_isStep_1 ?_
    refine J_iload_n (pc := 112) (n := 1) (i := 1) h 1 rfl rfl dX4_isStep_112 ?_
    refine J_cS (pc := 113) h hR (by decide) (c_X4_isRoom _ _ _ a ) (by decide) m_75 m_76 m_1 m_77 hd_X4_isRoom rfl rfl (Nat.le_of_ble_eq_true rfl) [.int (f_X4_isRoom a)] rfl dX4_isStep_113 ?_
    exact J_zret (pc := 116) h (zb_X4_isRoom _) hr (by subst ho; exact ⟨rfl, rfl⟩) dX4_isStep_116
  replace ho := (if_neg c11).symm.trans ho
  by_cases c12 : kd = 7
  · replace ho := (if_pos c12).symm.trans ho
    refine J_tabIn (pc := 1) h (7) 112 c12 (by decide) (by decide) rfl (by decide) dX4_isStep_1 ?_
    refine J_iload_n (pc := 112) (n := 1) (i := 1) h 1 rfl rfl dX4_isStep_112 ?_
    refine J_cS (pc := 113) h hR (by decide) (c_X4_isRoom _ _ _ a ) (by decide) m_75 m_76 m_1 m_77 hd_X4_isRoom rfl rfl (Nat.le_of_ble_eq_true rfl) [.int (f_X4_isRoom a)] rfl dX4_isStep_113 ?_
    exact J_zret (pc := 116) h (zb_X4_isRoom _) hr (by subst ho; exact ⟨rfl, rfl⟩) dX4_isStep_116
  replace ho := (if_neg c12).symm.trans ho
  by_cases c13 : kd = 8
  · replace ho := (if_pos c13).symm.trans ho
    refine J_tabIn (pc := 1) h (8) 117 c13 (by decide) (by decide) rfl (by decide) dX4_isStep_1 ?_
    refine J_iconst (pc := 117) h (1) rfl dX4_isStep_117 ?_
    exact J_zret (pc := 118) h rfl hr (by subst ho; exact ⟨rfl, rfl⟩) dX4_isStep_118
  replace ho := (if_neg c13).symm.trans ho
  by_cases c14 : kd = 9
  · replace ho := (if_pos c14).symm.trans ho
    refine J_tabIn (pc := 1) h (9) 119 c14 (by decide) (by decide) rfl (by decide) dX4_isStep_1 ?_
    refine J_iload_n (pc := 119) (n := 1) (i := 1) h 1 rfl rfl dX4_isStep_119 ?_
    refine J_cS (pc := 120) h hR (by decide) (c_X4_isOwnFailure _ _ _ a ) (by decide) m_163 m_164 m_1 m_165 hd_X4_isOwnFailure rfl rfl (Nat.le_of_ble_eq_true rfl) [.int (f_X4_isOwnFailure a)] rfl dX4_isStep_120 ?_
    exact J_zret (pc := 123) h (zb_X4_isOwnFailure _) hr (by subst ho; exact ⟨rfl, rfl⟩) dX4_isStep_123
  replace ho := (if_neg c14).symm.trans ho
  by_cases c15 : kd = 10
  · replace ho := (if_pos c15).symm.trans ho
    refine J_tabIn (pc := 1) h (10) 117 c15 (by decide) (by decide) rfl (by decide) dX4_isStep_1 ?_
    refine J_iconst (pc := 117) h (1) rfl dX4_isStep_117 ?_
    exact J_zret (pc := 118) h rfl hr (by subst ho; exact ⟨rfl, rfl⟩) dX4_isStep_118
  replace ho := (if_neg c15).symm.trans ho
  by_cases c16 : kd = 11
  · replace ho := (if_pos c16).symm.trans ho
    refine J_tabIn (pc := 1) h (11) 117 c16 (by decide) (by decide) rfl (by decide) dX4_isStep_1 ?_
    refine J_iconst (pc := 117) h (1) rfl dX4_isStep_117 ?_
    exact J_zret (pc := 118) h rfl hr (by subst ho; exact ⟨rfl, rfl⟩) dX4_isStep_118
  replace ho := (if_neg c16).symm.trans ho
  by_cases c17 : kd = 12
  · replace ho := (if_pos c17).symm.trans ho
    refine J_tabIn (pc := 1) h (12) 124 c17 (by decide) (by decide) rfl (by decide) dX4_isStep_1 ?_
    refine J_iload_n (pc := 124) (n := 1) (i := 1) h 1 rfl rfl dX4_isStep_124 ?_
    refine J_cS (pc := 125) h hR (by decide) (c_X4_isPlan _ _ _ a ) (by decide) m_151 m_152 m_1 m_153 hd_X4_isPlan rfl rfl (Nat.le_of_ble_eq_true rfl) [.int (f_X4_isPlan a)] rfl dX4_isStep_125 ?_
    exact J_zret (pc := 128) h (zb_X4_isPlan _) hr (by subst ho; exact ⟨rfl, rfl⟩) dX4_isStep_128
  replace ho := (if_neg c17).symm.trans ho
  by_cases c18 : kd = 13
  · replace ho := (if_pos c18).symm.trans ho
    refine J_tabIn (pc := 1) h (13) 112 c18 (by decide) (by decide) rfl (by decide) dX4_isStep_1 ?_
    refine J_iload_n (pc := 112) (n := 1) (i := 1) h 1 rfl rfl dX4_isStep_112 ?_
    refine J_cS (pc := 113) h hR (by decide) (c_X4_isRoom _ _ _ a ) (by decide) m_75 m_76 m_1 m_77 hd_X4_isRoom rfl rfl (Nat.le_of_ble_eq_true rfl) [.int (f_X4_isRoom a)] rfl dX4_isStep_113 ?_
    exact J_zret (pc := 116) h (zb_X4_isRoom _) hr (by subst ho; exact ⟨rfl, rfl⟩) dX4_isStep_116
  replace ho := (if_neg c18).symm.trans ho
  refine J_tabOut (pc := 1) h 129 (by have zc1 := ne_toI c1 (n := 0) rfl; have zc4 := ne_toI c4 (n := 1) rfl; have zc7 := ne_toI c7 (n := 2) rfl; have zc8 := ne_toI c8 (n := 3) rfl; have zc9 := ne_toI c9 (n := 4) rfl; have zc10 := ne_toI c10 (n := 5) rfl; have zc11 := ne_toI c11 (n := 6) rfl; have zc12 := ne_toI c12 (n := 7) rfl; have zc13 := ne_toI c13 (n := 8) rfl; have zc14 := ne_toI c14 (n := 9) rfl; have zc15 := ne_toI c15 (n := 10) rfl; have zc16 := ne_toI c16 (n := 11) rfl; have zc17 := ne_toI c17 (n := 12) rfl; have zc18 := ne_toI c18 (n := 13) rfl; omega) (by decide) dX4_isStep_1 ?_
  refine J_iconst (pc := 129) h (0) rfl dX4_isStep_129 ?_
  exact J_zret (pc := 130) h rfl hr (by subst ho; exact ⟨rfl, rfl⟩) dX4_isStep_130
def f_X5_in (a : Int32) (b : Int32) (c : Int32) : Int32 := (if a < b then 0 else (if c < a then 0 else 1))
theorem bn_X5_in (a : Int32) (b : Int32) (c : Int32) : Bn (f_X5_in a b c) := by
  unfold f_X5_in
  repeat' (first | exact Bn.z | exact Bn.o | refine Bn.ite ?_ ?_)
theorem zb_X5_in (a : Int32) (b : Int32) (c : Int32) : narrow .boolean (.int (f_X5_in a b c)) = .int (f_X5_in a b c) := zb01 (bn_X5_in a b c)
theorem hd_X5_in : yX5_in.cls ≠ "java/lang/invoke/MethodHandle" ∧ yX5_in.cls ≠ "java/lang/invoke/VarHandle" ∧ (parseMethodDescriptor yX5_in.desc).map (fun d => d.parameters.length) = some 3 := by decide +kernel
set_option maxHeartbeats 4000000 in
set_option maxRecDepth 20000 in
theorem c_X5_in (l : Launch) (g : Gy) (ws : va_W) (a : Int32) (b : Int32) (c : Int32)  : Con l g yX5_in cX5_in 3 (some .boolean) (rmL 0) [.int a, .int b, .int c] ws (Det (some (.int (f_X5_in a b c))) ws) := by
  refine Con.of (by decide) (Nat.le_of_ble_eq_true rfl) ?_
  intro x h e1 e2 e3 e4 e5 hr
  subst e1 e2
  have h : Ok x cX5_in "SafeDeskModel" (some .boolean) := h
  have hR : RmOk x 0 0 0 := RmOk.of e3 (Nat.le_refl _) (Nat.le_refl _)
  obtain ⟨out, ho⟩ : ∃ o, f_X5_in a b c = o := ⟨_, rfl⟩
  rw [ho] at hr
  unfold f_X5_in at ho
  show J x 0 0 _ 0 [(0, .int a), (1, .int b), (2, .int c)] []
  refine J_iload_n (pc := 0) (n := 0) (i := 0) h 0 rfl rfl dX5_in_0 ?_
  refine J_iload_n (pc := 1) (n := 1) (i := 1) h 1 rfl rfl dX5_in_1 ?_
  refine J_icmp_lt (pc := 2) h 14 (by decide) dX5_in_2 (fun c1 => ?_) (fun c1 => ?_)
  · replace ho := (if_pos c1).symm.trans ho
    refine J_iconst (pc := 14) h (0) rfl dX5_in_14 ?_
    exact J_zret (pc := 15) h rfl hr (by subst ho; exact ⟨rfl, rfl⟩) dX5_in_15
  · replace ho := (if_neg c1).symm.trans ho
    refine J_iload_n (pc := 5) (n := 0) (i := 0) h 0 rfl rfl dX5_in_5 ?_
    refine J_iload_n (pc := 6) (n := 2) (i := 2) h 2 rfl rfl dX5_in_6 ?_
    refine J_icmp_gt (pc := 7) h 14 (by decide) dX5_in_7 (fun c2 => ?_) (fun c2 => ?_)
    · replace ho := (if_pos c2).symm.trans ho
      refine J_iconst (pc := 14) h (0) rfl dX5_in_14 ?_
      exact J_zret (pc := 15) h rfl hr (by subst ho; exact ⟨rfl, rfl⟩) dX5_in_15
    · replace ho := (if_neg c2).symm.trans ho
      refine J_iconst (pc := 10) h (1) rfl dX5_in_10 ?_
      refine J_goto (pc := 11) h 15 (by decide) dX5_in_11 ?_
      exact J_zret (pc := 15) h rfl hr (by subst ho; exact ⟨rfl, rfl⟩) dX5_in_15
end
section
def f_X1_enter (j : Nat) (σ : Sg) : Sg := (if (σ j 4) + 1 ≤ σ j 5 then (up2 (up2 σ j 4 ((σ j 4) + 1)) j 3 ((σ j 3) + 1)) else (up2 (up2 (up2 σ j 4 ((σ j 4) + 1)) j 3 ((σ j 3) + 1)) j 5 ((σ j 4) + 1)))
theorem hd_X1_enter : yX1_enter.cls ≠ "java/lang/invoke/MethodHandle" ∧ yX1_enter.cls ≠ "java/lang/invoke/VarHandle" ∧ (parseMethodDescriptor yX1_enter.desc).map (fun d => d.parameters.length) = some 0 := by decide +kernel
set_option maxHeartbeats 4000000 in
set_option maxRecDepth 20000 in
theorem c_X1_enter (l : Launch) (g : Gy) (ad : Nat → Nat) (n : Nat) (σ : Sg) (j : Nat) (hj : 28 ≤ j) (hn : j < n) : Con l g yX1_enter cX1_enter 1 none (rmL 0) [.ref (ad j)] (wC g ad n σ) (Det none (wC g ad n (f_X1_enter j σ))) := by
  refine Con.of (by decide) (Nat.le_of_ble_eq_true rfl) ?_
  intro x h e1 e2 e3 e4 e5 hr
  subst e1 e2
  have h : Ok x cX1_enter "SafeDesk$Safe" none := h
  have hR : RmOk x 0 0 0 := RmOk.of e3 (Nat.le_refl _) (Nat.le_refl _)
  obtain ⟨out, ho⟩ : ∃ o, f_X1_enter j σ = o := ⟨_, rfl⟩
  rw [ho] at hr
  unfold f_X1_enter at ho
  show J x 0 0 _ 0 [(0, .ref (ad j))] []
  refine J_aload_n (pc := 0) (n := 0) (i := 0) h 0 rfl rfl dX1_enter_0 ?_
  refine J_dup (pc := 1) h rfl dX1_enter_1 ?_
  refine J_Sg4 (pc := 2) h hj hn m_103 (fun _ q => q) (σ j 4) rfl dX1_enter_2 ?_
  refine J_iconst (pc := 5) h (1) rfl dX1_enter_5 ?_
  refine J_iadd (pc := 6) h dX1_enter_6 ?_
  refine J_Sp4 (pc := 7) h hj hn m_103 (fun _ q => q) dX1_enter_7 ?_
  refine J_aload_n (pc := 10) (n := 0) (i := 0) h 0 rfl rfl dX1_enter_10 ?_
  refine J_dup (pc := 11) h rfl dX1_enter_11 ?_
  refine J_Sg3 (pc := 12) h hj hn m_101 (fun _ q => q) (σ j 3) (up2_row _ _ _ (by decide)) dX1_enter_12 ?_
  refine J_iconst (pc := 15) h (1) rfl dX1_enter_15 ?_
  refine J_iadd (pc := 16) h dX1_enter_16 ?_
  refine J_Sp3 (pc := 17) h hj hn m_101 (fun _ q => q) dX1_enter_17 ?_
  refine J_aload_n (pc := 20) (n := 0) (i := 0) h 0 rfl rfl dX1_enter_20 ?_
  refine J_Sg4 (pc := 21) h hj hn m_103 (fun _ q => q) ((σ j 4) + 1) ((up2_row _ _ _ (by decide)).trans (up2_self _ _ _ _)) dX1_enter_21 ?_
  refine J_aload_n (pc := 24) (n := 0) (i := 0) h 0 rfl rfl dX1_enter_24 ?_
  refine J_Sg5 (pc := 25) h hj hn m_105 (fun _ q => q) (σ j 5) ((up2_row _ _ _ (by decide)).trans (up2_row _ _ _ (by decide))) dX1_enter_25 ?_
  refine J_icmp_le (pc := 28) h 39 (by decide) dX1_enter_28 (fun c1 => ?_) (fun c1 => ?_)
  · replace ho := (if_pos c1).symm.trans ho
    exact J_vret (pc := 39) h hr (by subst ho; exact ⟨rfl, rfl⟩) dX1_enter_39
  · replace ho := (if_neg c1).symm.trans ho
    refine J_aload_n (pc := 31) (n := 0) (i := 0) h 0 rfl rfl dX1_enter_31 ?_
    refine J_aload_n (pc := 32) (n := 0) (i := 0) h 0 rfl rfl dX1_enter_32 ?_
    refine J_Sg4 (pc := 33) h hj hn m_103 (fun _ q => q) ((σ j 4) + 1) ((up2_row _ _ _ (by decide)).trans (up2_self _ _ _ _)) dX1_enter_33 ?_
    refine J_Sp5 (pc := 36) h hj hn m_105 (fun _ q => q) dX1_enter_36 ?_
    exact J_vret (pc := 39) h hr (by subst ho; exact ⟨rfl, rfl⟩) dX1_enter_39
theorem k0_enter (j : Nat) (σ : Sg) : f_X1_enter j σ j 0 = σ j 0 := by
  unfold f_X1_enter
  split <;> simp [up2, va_up]
def f_X1_leave (j : Nat) (σ : Sg) : Sg := (up2 σ j 4 ((σ j 4) - 1))
theorem hd_X1_leave : yX1_leave.cls ≠ "java/lang/invoke/MethodHandle" ∧ yX1_leave.cls ≠ "java/lang/invoke/VarHandle" ∧ (parseMethodDescriptor yX1_leave.desc).map (fun d => d.parameters.length) = some 0 := by decide +kernel
set_option maxHeartbeats 4000000 in
set_option maxRecDepth 20000 in
theorem c_X1_leave (l : Launch) (g : Gy) (ad : Nat → Nat) (n : Nat) (σ : Sg) (j : Nat) (hj : 28 ≤ j) (hn : j < n) : Con l g yX1_leave cX1_leave 1 none (rmL 0) [.ref (ad j)] (wC g ad n σ) (Det none (wC g ad n (f_X1_leave j σ))) := by
  refine Con.of (by decide) (Nat.le_of_ble_eq_true rfl) ?_
  intro x h e1 e2 e3 e4 e5 hr
  subst e1 e2
  have h : Ok x cX1_leave "SafeDesk$Safe" none := h
  have hR : RmOk x 0 0 0 := RmOk.of e3 (Nat.le_refl _) (Nat.le_refl _)
  obtain ⟨out, ho⟩ : ∃ o, f_X1_leave j σ = o := ⟨_, rfl⟩
  rw [ho] at hr
  unfold f_X1_leave at ho
  show J x 0 0 _ 0 [(0, .ref (ad j))] []
  refine J_aload_n (pc := 0) (n := 0) (i := 0) h 0 rfl rfl dX1_leave_0 ?_
  refine J_dup (pc := 1) h rfl dX1_leave_1 ?_
  refine J_Sg4 (pc := 2) h hj hn m_103 (fun _ q => q) (σ j 4) rfl dX1_leave_2 ?_
  refine J_iconst (pc := 5) h (1) rfl dX1_leave_5 ?_
  refine J_isub (pc := 6) h dX1_leave_6 ?_
  refine J_Sp4 (pc := 7) h hj hn m_103 (fun _ q => q) dX1_leave_7 ?_
  exact J_vret (pc := 10) h hr (by subst ho; exact ⟨rfl, rfl⟩) dX1_leave_10
theorem k0_leave (j : Nat) (σ : Sg) : f_X1_leave j σ j 0 = σ j 0 := by simp [f_X1_leave, up2, va_up]
theorem ref_cat (a : Nat) : (Value.ref a).category = 1 := rfl
theorem int_cat (a : Int32) : (Value.int a).category = 1 := rfl
theorem up2_k0 (σ : Sg) (j i : Nat) (v : Int32) (h : i ≠ 0) : up2 σ j i v j 0 = σ j 0 := up2_row _ _ _ (Ne.symm h)
def f_X1_put (j : Nat) (v : Int32) (σ : Sg) : Int32 × Sg := (if lg_cmp ((((f_X1_enter j σ) j 1).toInt64) + v.toInt64) 0 < 0 then (30, f_X1_leave j (f_X1_enter j σ)) else (if 0 < lg_cmp ((((f_X1_enter j σ) j 1).toInt64) + v.toInt64) 1000000 then (30, f_X1_leave j (f_X1_enter j σ)) else (0, f_X1_leave j (up2 (f_X1_enter j σ) j 1 (((((f_X1_enter j σ) j 1).toInt64) + v.toInt64).toInt32)))))
theorem hd_X1_put : yX1_put.cls ≠ "java/lang/invoke/MethodHandle" ∧ yX1_put.cls ≠ "java/lang/invoke/VarHandle" ∧ (parseMethodDescriptor yX1_put.desc).map (fun d => d.parameters.length) = some 1 := by decide +kernel
set_option maxHeartbeats 4000000 in
set_option maxRecDepth 20000 in
theorem c_X1_put (l : Launch) (g : Gy) (ad : Nat → Nat) (n : Nat) (σ : Sg) (j : Nat) (v : Int32) (hj : 28 ≤ j) (hn : j < n) : Con l g yX1_put cX1_put 5 (some .int) (rmL 1) [.ref (ad j), .int v] (wC g ad n σ) (Det (some (.int (f_X1_put j v σ).1)) (wC g ad n ((f_X1_put j v σ).2))) := by
  refine Con.of (by decide) (Nat.le_of_ble_eq_true rfl) ?_
  intro x h e1 e2 e3 e4 e5 hr
  subst e1 e2
  have h : Ok x cX1_put "SafeDesk$Safe" (some .int) := h
  have hR : RmOk x 1 0 0 := RmOk.of e3 (Nat.le_refl _) (Nat.le_refl _)
  obtain ⟨out, ho⟩ : ∃ o, f_X1_put j v σ = o := ⟨_, rfl⟩
  rw [ho] at hr
  unfold f_X1_put at ho
  show J x 0 0 _ 0 [(0, .ref (ad j)), (1, .int v)] []
  refine J_aload_n (pc := 0) (n := 0) (i := 0) h 0 rfl rfl dX1_put_0 ?_
  refine J_cU (pc := 1) (z := ⟨"SafeDesk$Safe", "enter", "()V"⟩) h hR hj hn (by decide) (c_X1_enter _ _ ad n σ j  hj hn ) (by decide) m_282 m_215 (Sels.of3 m_214 m_216 m_217) m_213 m_218 rfl hd_X1_enter rfl rfl (Nat.le_of_ble_eq_true rfl) [] rfl dX1_put_1 ?_
  refine J_bipush (pc := 4) h (30) rfl dX1_put_4 ?_
  refine J_istore_n (pc := 6) (n := 2) (i := 2) h [(2, .int 30), (0, .ref (ad j)), (1, .int v)] rfl (by rw [e4]; decide) rfl dX1_put_6 ?_
  refine J_aload_n (pc := 7) (n := 0) (i := 0) h 1 rfl rfl dX1_put_7 ?_
  refine J_Sg1 (pc := 8) h hj hn m_96 (fun _ q => q) ((f_X1_enter j σ) j 1) rfl dX1_put_8 ?_
  refine J_i2l (pc := 11) h dX1_put_11 ?_
  refine J_iload_n (pc := 12) (n := 1) (i := 1) h 2 rfl rfl dX1_put_12 ?_
  refine J_i2l (pc := 13) h dX1_put_13 ?_
  refine J_ladd (pc := 14) h dX1_put_14 ?_
  refine J_lstore_n (pc := 15) (n := 3) (i := 3) h [(3, .long ((((f_X1_enter j σ) j 1).toInt64) + v.toInt64)), (2, .int 30), (0, .ref (ad j)), (1, .int v)] rfl (by rw [e4]; decide) rfl dX1_put_15 ?_
  refine J_lload_n (pc := 16) (n := 3) (i := 3) h 0 rfl rfl dX1_put_16 ?_
  refine J_lconst (pc := 17) h (0) rfl dX1_put_17 ?_
  refine J_lcmp (pc := 18) h dX1_put_18 ?_
  refine J_if_lt (pc := 19) h 38 (by decide) dX1_put_19 (fun c1 => ?_) (fun c1 => ?_)
  · replace ho := (if_pos c1).symm.trans ho
    refine J_aload_n (pc := 38) (n := 0) (i := 0) h 2 rfl rfl dX1_put_38 ?_
    refine J_cU (pc := 39) (z := ⟨"SafeDesk$Safe", "leave", "()V"⟩) h hR hj hn (by decide) (c_X1_leave _ _ ad n (f_X1_enter j σ) j  hj hn ) (by decide) m_284 m_222 (Sels.of3 m_221 m_223 m_224) m_220 m_225 rfl hd_X1_leave rfl rfl (Nat.le_of_ble_eq_true rfl) [] rfl dX1_put_39 ?_
    refine J_iload_n (pc := 42) (n := 2) (i := 2) h 1 rfl rfl dX1_put_42 ?_
    exact J_iret (pc := 43) h hr (by subst ho; exact ⟨rfl, rfl⟩) dX1_put_43
  · replace ho := (if_neg c1).symm.trans ho
    refine J_lload_n (pc := 22) (n := 3) (i := 3) h 0 rfl rfl dX1_put_22 ?_
    refine J_ldc2 (pc := 23) h m_283 dX1_put_23 ?_
    refine J_lcmp (pc := 26) h dX1_put_26 ?_
    refine J_if_gt (pc := 27) h 38 (by decide) dX1_put_27 (fun c2 => ?_) (fun c2 => ?_)
    · replace ho := (if_pos c2).symm.trans ho
      refine J_aload_n (pc := 38) (n := 0) (i := 0) h 2 rfl rfl dX1_put_38 ?_
      refine J_cU (pc := 39) (z := ⟨"SafeDesk$Safe", "leave", "()V"⟩) h hR hj hn (by decide) (c_X1_leave _ _ ad n (f_X1_enter j σ) j  hj hn ) (by decide) m_284 m_222 (Sels.of3 m_221 m_223 m_224) m_220 m_225 rfl hd_X1_leave rfl rfl (Nat.le_of_ble_eq_true rfl) [] rfl dX1_put_39 ?_
      refine J_iload_n (pc := 42) (n := 2) (i := 2) h 1 rfl rfl dX1_put_42 ?_
      exact J_iret (pc := 43) h hr (by subst ho; exact ⟨rfl, rfl⟩) dX1_put_43
    · replace ho := (if_neg c2).symm.trans ho
      refine J_aload_n (pc := 30) (n := 0) (i := 0) h 2 rfl rfl dX1_put_30 ?_
      refine J_lload_n (pc := 31) (n := 3) (i := 3) h 0 rfl rfl dX1_put_31 ?_
      refine J_l2i (pc := 32) h dX1_put_32 ?_
      refine J_Sp1 (pc := 33) h hj hn m_96 (fun _ q => q) dX1_put_33 ?_
      refine J_iconst (pc := 36) h (0) rfl dX1_put_36 ?_
      refine J_istore_n (pc := 37) (n := 2) (i := 2) h [(2, .int 0), (3, .long ((((f_X1_enter j σ) j 1).toInt64) + v.toInt64)), (0, .ref (ad j)), (1, .int v)] rfl (by rw [e4]; decide) rfl dX1_put_37 ?_
      refine J_aload_n (pc := 38) (n := 0) (i := 0) h 2 rfl rfl dX1_put_38 ?_
      refine J_cU (pc := 39) (z := ⟨"SafeDesk$Safe", "leave", "()V"⟩) h hR hj hn (by decide) (c_X1_leave _ _ ad n (up2 (f_X1_enter j σ) j 1 (((((f_X1_enter j σ) j 1).toInt64) + v.toInt64).toInt32)) j  hj hn ) (by decide) m_284 m_222 (Sels.of3 m_221 m_223 m_224) m_220 m_225 rfl hd_X1_leave rfl rfl (Nat.le_of_ble_eq_true rfl) [] rfl dX1_put_39 ?_
      refine J_iload_n (pc := 42) (n := 2) (i := 2) h 0 rfl rfl dX1_put_42 ?_
      exact J_iret (pc := 43) h hr (by subst ho; exact ⟨rfl, rfl⟩) dX1_put_43
theorem k0_X1_put (j : Nat) (v : Int32) (σ : Sg) : (f_X1_put j v σ).2 j 0 = σ j 0 := by
  unfold f_X1_put
  split
  · simp [k0_enter, k0_leave]
  · split <;> simp [k0_enter, k0_leave, up2, va_up]
def f_X1_worth (j : Nat) (σ : Sg) : Int32 × Sg := ((f_X1_enter j σ) j 1, f_X1_leave j (f_X1_enter j σ))
theorem hd_X1_worth : yX1_worth.cls ≠ "java/lang/invoke/MethodHandle" ∧ yX1_worth.cls ≠ "java/lang/invoke/VarHandle" ∧ (parseMethodDescriptor yX1_worth.desc).map (fun d => d.parameters.length) = some 0 := by decide +kernel
set_option maxHeartbeats 4000000 in
set_option maxRecDepth 20000 in
theorem c_X1_worth (l : Launch) (g : Gy) (ad : Nat → Nat) (n : Nat) (σ : Sg) (j : Nat) (hj : 28 ≤ j) (hn : j < n) : Con l g yX1_worth cX1_worth 2 (some .int) (rmL 1) [.ref (ad j)] (wC g ad n σ) (Det (some (.int (f_X1_worth j σ).1)) (wC g ad n ((f_X1_worth j σ).2))) := by
  refine Con.of (by decide) (Nat.le_of_ble_eq_true rfl) ?_
  intro x h e1 e2 e3 e4 e5 hr
  subst e1 e2
  have h : Ok x cX1_worth "SafeDesk$Safe" (some .int) := h
  have hR : RmOk x 1 0 0 := RmOk.of e3 (Nat.le_refl _) (Nat.le_refl _)
  obtain ⟨out, ho⟩ : ∃ o, f_X1_worth j σ = o := ⟨_, rfl⟩
  rw [ho] at hr
  unfold f_X1_worth at ho
  show J x 0 0 _ 0 [(0, .ref (ad j))] []
  refine J_aload_n (pc := 0) (n := 0) (i := 0) h 0 rfl rfl dX1_worth_0 ?_
  refine J_cU (pc := 1) (z := ⟨"SafeDesk$Safe", "enter", "()V"⟩) h hR hj hn (by decide) (c_X1_enter _ _ ad n σ j  hj hn ) (by decide) m_282 m_215 (Sels.of3 m_214 m_216 m_217) m_213 m_218 rfl hd_X1_enter rfl rfl (Nat.le_of_ble_eq_true rfl) [] rfl dX1_worth_1 ?_
  refine J_aload_n (pc := 4) (n := 0) (i := 0) h 0 rfl rfl dX1_worth_4 ?_
  refine J_Sg1 (pc := 5) h hj hn m_96 (fun _ q => q) ((f_X1_enter j σ) j 1) rfl dX1_worth_5 ?_
  refine J_istore_n (pc := 8) (n := 1) (i := 1) h [(1, .int ((f_X1_enter j σ) j 1)), (0, .ref (ad j))] rfl (by rw [e4]; decide) rfl dX1_worth_8 ?_
  refine J_aload_n (pc := 9) (n := 0) (i := 0) h 1 rfl rfl dX1_worth_9 ?_
  refine J_cU (pc := 10) (z := ⟨"SafeDesk$Safe", "leave", "()V"⟩) h hR hj hn (by decide) (c_X1_leave _ _ ad n (f_X1_enter j σ) j  hj hn ) (by decide) m_284 m_222 (Sels.of3 m_221 m_223 m_224) m_220 m_225 rfl hd_X1_leave rfl rfl (Nat.le_of_ble_eq_true rfl) [] rfl dX1_worth_10 ?_
  refine J_iload_n (pc := 13) (n := 1) (i := 1) h 0 rfl rfl dX1_worth_13 ?_
  exact J_iret (pc := 14) h hr (by subst ho; exact ⟨rfl, rfl⟩) dX1_worth_14
theorem k0_X1_worth (j : Nat) (σ : Sg) : (f_X1_worth j σ).2 j 0 = σ j 0 := by simp [f_X1_worth, k0_enter, k0_leave]
def f_X2_put (j : Nat) (v : Int32) (σ : Sg) : Int32 × Sg := ((f_X1_put j v (up2 (f_X1_enter j σ) j 2 (((f_X1_enter j σ) j 2) + 1))).1, f_X1_leave j ((f_X1_put j v (up2 (f_X1_enter j σ) j 2 (((f_X1_enter j σ) j 2) + 1))).2))
theorem hd_X2_put : yX2_put.cls ≠ "java/lang/invoke/MethodHandle" ∧ yX2_put.cls ≠ "java/lang/invoke/VarHandle" ∧ (parseMethodDescriptor yX2_put.desc).map (fun d => d.parameters.length) = some 1 := by decide +kernel
set_option maxHeartbeats 4000000 in
set_option maxRecDepth 20000 in
theorem c_X2_put (l : Launch) (g : Gy) (ad : Nat → Nat) (n : Nat) (σ : Sg) (j : Nat) (v : Int32) (hj : 28 ≤ j) (hn : j < n) (hk : ¬ σ j 0 = 0) : Con l g yX2_put cX2_put 3 (some .int) (rmL 2) [.ref (ad j), .int v] (wC g ad n σ) (Det (some (.int (f_X2_put j v σ).1)) (wC g ad n ((f_X2_put j v σ).2))) := by
  refine Con.of (by decide) (Nat.le_of_ble_eq_true rfl) ?_
  intro x h e1 e2 e3 e4 e5 hr
  subst e1 e2
  have h : Ok x cX2_put "SafeDesk$Timed" (some .int) := h
  have hR : RmOk x 2 0 0 := RmOk.of e3 (Nat.le_refl _) (Nat.le_refl _)
  obtain ⟨out, ho⟩ : ∃ o, f_X2_put j v σ = o := ⟨_, rfl⟩
  rw [ho] at hr
  unfold f_X2_put at ho
  show J x 0 0 _ 0 [(0, .ref (ad j)), (1, .int v)] []
  refine J_aload_n (pc := 0) (n := 0) (i := 0) h 0 rfl rfl dX2_put_0 ?_
  refine J_cU (pc := 1) (z := ⟨"SafeDesk$Timed", "enter", "()V"⟩) h hR hj hn (by decide) (c_X1_enter _ _ ad n σ j  hj hn ) (by decide) m_260 m_261 (Sels.of2 (by simpa [k0_enter, k0_leave, k0_X1_put, k0_X1_worth, up2, va_up] using hk) m_263 m_264) m_213 m_218 rfl hd_X1_enter rfl rfl (Nat.le_of_ble_eq_true rfl) [] rfl dX2_put_1 ?_
  refine J_aload_n (pc := 4) (n := 0) (i := 0) h 0 rfl rfl dX2_put_4 ?_
  refine J_dup (pc := 5) h rfl dX2_put_5 ?_
  refine J_Sg2 (pc := 6) h hj hn m_98 (u_same (h.w m_99)) ((f_X1_enter j σ) j 2) rfl dX2_put_6 ?_
  refine J_iconst (pc := 9) h (1) rfl dX2_put_9 ?_
  refine J_iadd (pc := 10) h dX2_put_10 ?_
  refine J_Sp2 (pc := 11) h hj hn m_98 (u_same (h.w m_99)) dX2_put_11 ?_
  refine J_aload_n (pc := 14) (n := 0) (i := 0) h 0 rfl rfl dX2_put_14 ?_
  refine J_iload_n (pc := 15) (n := 1) (i := 1) h 1 rfl rfl dX2_put_15 ?_
  refine J_cT (pc := 16) h hR hj hn (by decide) (c_X1_put _ _ ad n (up2 (f_X1_enter j σ) j 2 (((f_X1_enter j σ) j 2) + 1)) j v hj hn ) (by decide) m_265 m_256 m_129 m_254 m_4 m_281 ⟨by decide, hd_X1_put.2.2⟩ rfl rfl (Nat.le_of_ble_eq_true rfl) [.int ((f_X1_put j v (up2 (f_X1_enter j σ) j 2 (((f_X1_enter j σ) j 2) + 1))).1)] rfl dX2_put_16 ?_
  refine J_istore_n (pc := 19) (n := 2) (i := 2) h [(2, .int ((f_X1_put j v (up2 (f_X1_enter j σ) j 2 (((f_X1_enter j σ) j 2) + 1))).1)), (0, .ref (ad j)), (1, .int v)] rfl (by rw [e4]; decide) rfl dX2_put_19 ?_
  refine J_aload_n (pc := 20) (n := 0) (i := 0) h 1 rfl rfl dX2_put_20 ?_
  refine J_cU (pc := 21) (z := ⟨"SafeDesk$Timed", "leave", "()V"⟩) h hR hj hn (by decide) (c_X1_leave _ _ ad n ((f_X1_put j v (up2 (f_X1_enter j σ) j 2 (((f_X1_enter j σ) j 2) + 1))).2) j  hj hn ) (by decide) m_266 m_267 (Sels.of2 (by simpa [k0_enter, k0_leave, k0_X1_put, k0_X1_worth, up2, va_up] using hk) m_269 m_270) m_220 m_225 rfl hd_X1_leave rfl rfl (Nat.le_of_ble_eq_true rfl) [] rfl dX2_put_21 ?_
  refine J_iload_n (pc := 24) (n := 2) (i := 2) h 0 rfl rfl dX2_put_24 ?_
  exact J_iret (pc := 25) h hr (by subst ho; exact ⟨rfl, rfl⟩) dX2_put_25
theorem k0_X2_put (j : Nat) (v : Int32) (σ : Sg) : (f_X2_put j v σ).2 j 0 = σ j 0 := by simp [f_X2_put, k0_enter, k0_leave, k0_X1_put, up2, va_up]
def f_X2_worth (j : Nat) (σ : Sg) : Int32 × Sg := (((f_X1_worth j (f_X1_enter j σ)).1) + (((f_X1_worth j (f_X1_enter j σ)).2) j 2), f_X1_leave j ((f_X1_worth j (f_X1_enter j σ)).2))
theorem hd_X2_worth : yX2_worth.cls ≠ "java/lang/invoke/MethodHandle" ∧ yX2_worth.cls ≠ "java/lang/invoke/VarHandle" ∧ (parseMethodDescriptor yX2_worth.desc).map (fun d => d.parameters.length) = some 0 := by decide +kernel
set_option maxHeartbeats 4000000 in
set_option maxRecDepth 20000 in
theorem c_X2_worth (l : Launch) (g : Gy) (ad : Nat → Nat) (n : Nat) (σ : Sg) (j : Nat) (hj : 28 ≤ j) (hn : j < n) (hk : ¬ σ j 0 = 0) : Con l g yX2_worth cX2_worth 2 (some .int) (rmL 2) [.ref (ad j)] (wC g ad n σ) (Det (some (.int (f_X2_worth j σ).1)) (wC g ad n ((f_X2_worth j σ).2))) := by
  refine Con.of (by decide) (Nat.le_of_ble_eq_true rfl) ?_
  intro x h e1 e2 e3 e4 e5 hr
  subst e1 e2
  have h : Ok x cX2_worth "SafeDesk$Timed" (some .int) := h
  have hR : RmOk x 2 0 0 := RmOk.of e3 (Nat.le_refl _) (Nat.le_refl _)
  obtain ⟨out, ho⟩ : ∃ o, f_X2_worth j σ = o := ⟨_, rfl⟩
  rw [ho] at hr
  unfold f_X2_worth at ho
  show J x 0 0 _ 0 [(0, .ref (ad j))] []
  refine J_aload_n (pc := 0) (n := 0) (i := 0) h 0 rfl rfl dX2_worth_0 ?_
  refine J_cU (pc := 1) (z := ⟨"SafeDesk$Timed", "enter", "()V"⟩) h hR hj hn (by decide) (c_X1_enter _ _ ad n σ j  hj hn ) (by decide) m_260 m_261 (Sels.of2 (by simpa [k0_enter, k0_leave, k0_X1_put, k0_X1_worth, up2, va_up] using hk) m_263 m_264) m_213 m_218 rfl hd_X1_enter rfl rfl (Nat.le_of_ble_eq_true rfl) [] rfl dX2_worth_1 ?_
  refine J_aload_n (pc := 4) (n := 0) (i := 0) h 0 rfl rfl dX2_worth_4 ?_
  refine J_cT (pc := 5) h hR hj hn (by decide) (c_X1_worth _ _ ad n (f_X1_enter j σ) j  hj hn ) (by decide) m_300 m_296 m_129 m_294 m_4 m_305 ⟨by decide, hd_X1_worth.2.2⟩ rfl rfl (Nat.le_of_ble_eq_true rfl) [.int ((f_X1_worth j (f_X1_enter j σ)).1)] rfl dX2_worth_5 ?_
  refine J_aload_n (pc := 8) (n := 0) (i := 0) h 0 rfl rfl dX2_worth_8 ?_
  refine J_Sg2 (pc := 9) h hj hn m_98 (u_same (h.w m_99)) (((f_X1_worth j (f_X1_enter j σ)).2) j 2) rfl dX2_worth_9 ?_
  refine J_iadd (pc := 12) h dX2_worth_12 ?_
  refine J_istore_n (pc := 13) (n := 1) (i := 1) h [(1, .int (((f_X1_worth j (f_X1_enter j σ)).1) + (((f_X1_worth j (f_X1_enter j σ)).2) j 2))), (0, .ref (ad j))] rfl (by rw [e4]; decide) rfl dX2_worth_13 ?_
  refine J_aload_n (pc := 14) (n := 0) (i := 0) h 1 rfl rfl dX2_worth_14 ?_
  refine J_cU (pc := 15) (z := ⟨"SafeDesk$Timed", "leave", "()V"⟩) h hR hj hn (by decide) (c_X1_leave _ _ ad n ((f_X1_worth j (f_X1_enter j σ)).2) j  hj hn ) (by decide) m_266 m_267 (Sels.of2 (by simpa [k0_enter, k0_leave, k0_X1_put, k0_X1_worth, up2, va_up] using hk) m_269 m_270) m_220 m_225 rfl hd_X1_leave rfl rfl (Nat.le_of_ble_eq_true rfl) [] rfl dX2_worth_15 ?_
  refine J_iload_n (pc := 18) (n := 1) (i := 1) h 0 rfl rfl dX2_worth_18 ?_
  exact J_iret (pc := 19) h hr (by subst ho; exact ⟨rfl, rfl⟩) dX2_worth_19
theorem k0_X2_worth (j : Nat) (σ : Sg) : (f_X2_worth j σ).2 j 0 = σ j 0 := by simp [f_X2_worth, k0_enter, k0_leave, k0_X1_worth]
def f_X3_put (j : Nat) (v : Int32) (σ : Sg) : Int32 × Sg := (if (f_X2_put j v (f_X1_enter j σ)).1 = 0 then ((f_X2_put j v ((f_X2_put j v (f_X1_enter j σ)).2)).1, f_X1_leave j ((f_X2_put j v ((f_X2_put j v (f_X1_enter j σ)).2)).2)) else ((f_X2_put j v (f_X1_enter j σ)).1, f_X1_leave j ((f_X2_put j v (f_X1_enter j σ)).2)))
theorem hd_X3_put : yX3_put.cls ≠ "java/lang/invoke/MethodHandle" ∧ yX3_put.cls ≠ "java/lang/invoke/VarHandle" ∧ (parseMethodDescriptor yX3_put.desc).map (fun d => d.parameters.length) = some 1 := by decide +kernel
set_option maxHeartbeats 4000000 in
set_option maxRecDepth 20000 in
theorem c_X3_put (l : Launch) (g : Gy) (ad : Nat → Nat) (n : Nat) (σ : Sg) (j : Nat) (v : Int32) (hj : 28 ≤ j) (hn : j < n) (hk : ¬ σ j 0 = 0) (hk1 : ¬ σ j 0 = 1) : Con l g yX3_put cX3_put 3 (some .int) (rmL 3) [.ref (ad j), .int v] (wC g ad n σ) (Det (some (.int (f_X3_put j v σ).1)) (wC g ad n ((f_X3_put j v σ).2))) := by
  refine Con.of (by decide) (Nat.le_of_ble_eq_true rfl) ?_
  intro x h e1 e2 e3 e4 e5 hr
  subst e1 e2
  have h : Ok x cX3_put "SafeDesk$Vault" (some .int) := h
  have hR : RmOk x 3 0 0 := RmOk.of e3 (Nat.le_refl _) (Nat.le_refl _)
  obtain ⟨out, ho⟩ : ∃ o, f_X3_put j v σ = o := ⟨_, rfl⟩
  rw [ho] at hr
  unfold f_X3_put at ho
  show J x 0 0 _ 0 [(0, .ref (ad j)), (1, .int v)] []
  refine J_aload_n (pc := 0) (n := 0) (i := 0) h 0 rfl rfl dX3_put_0 ?_
  refine J_cU (pc := 1) (z := ⟨"SafeDesk$Vault", "enter", "()V"⟩) h hR hj hn (by decide) (c_X1_enter _ _ ad n σ j  hj hn ) (by decide) m_274 m_275 (Sels.of1 (by simpa [k0_enter, k0_leave, k0_X1_put, k0_X1_worth, k0_X2_put, k0_X2_worth, up2, va_up] using hk) (by simpa [k0_enter, k0_leave, k0_X1_put, k0_X1_worth, k0_X2_put, k0_X2_worth, up2, va_up] using hk1) m_276) m_213 m_218 rfl hd_X1_enter rfl rfl (Nat.le_of_ble_eq_true rfl) [] rfl dX3_put_1 ?_
  refine J_aload_n (pc := 4) (n := 0) (i := 0) h 0 rfl rfl dX3_put_4 ?_
  refine J_iload_n (pc := 5) (n := 1) (i := 1) h 1 rfl rfl dX3_put_5 ?_
  refine J_cT (pc := 6) h hR hj hn (by decide) (c_X2_put _ _ ad n (f_X1_enter j σ) j v hj hn (by simpa [k0_enter, k0_leave, k0_X1_put, k0_X1_worth, k0_X2_put, k0_X2_worth, up2, va_up] using hk)) (by decide) m_277 m_520 m_119 m_258 m_5 m_259 ⟨by decide, hd_X2_put.2.2⟩ rfl rfl (Nat.le_of_ble_eq_true rfl) [.int ((f_X2_put j v (f_X1_enter j σ)).1)] rfl dX3_put_6 ?_
  refine J_istore_n (pc := 9) (n := 2) (i := 2) h [(2, .int ((f_X2_put j v (f_X1_enter j σ)).1)), (0, .ref (ad j)), (1, .int v)] rfl (by rw [e4]; decide) rfl dX3_put_9 ?_
  refine J_iload_n (pc := 10) (n := 2) (i := 2) h 0 rfl rfl dX3_put_10 ?_
  refine J_if_ne (pc := 11) h 20 (by decide) dX3_put_11 (fun c1 => ?_) (fun c1 => ?_)
  · replace ho := (if_neg c1).symm.trans ho
    refine J_aload_n (pc := 20) (n := 0) (i := 0) h 1 rfl rfl dX3_put_20 ?_
    refine J_cU (pc := 21) (z := ⟨"SafeDesk$Vault", "leave", "()V"⟩) h hR hj hn (by decide) (c_X1_leave _ _ ad n ((f_X2_put j v (f_X1_enter j σ)).2) j  hj hn ) (by decide) m_278 m_279 (Sels.of1 (by simpa [k0_enter, k0_leave, k0_X1_put, k0_X1_worth, k0_X2_put, k0_X2_worth, up2, va_up] using hk) (by simpa [k0_enter, k0_leave, k0_X1_put, k0_X1_worth, k0_X2_put, k0_X2_worth, up2, va_up] using hk1) m_280) m_220 m_225 rfl hd_X1_leave rfl rfl (Nat.le_of_ble_eq_true rfl) [] rfl dX3_put_21 ?_
    refine J_iload_n (pc := 24) (n := 2) (i := 2) h 0 rfl rfl dX3_put_24 ?_
    exact J_iret (pc := 25) h hr (by subst ho; exact ⟨rfl, rfl⟩) dX3_put_25
  · replace ho := (if_pos c1).symm.trans ho
    refine J_aload_n (pc := 14) (n := 0) (i := 0) h 1 rfl rfl dX3_put_14 ?_
    refine J_iload_n (pc := 15) (n := 1) (i := 1) h 2 rfl rfl dX3_put_15 ?_
    refine J_cT (pc := 16) h hR hj hn (by decide) (c_X2_put _ _ ad n ((f_X2_put j v (f_X1_enter j σ)).2) j v hj hn (by simpa [k0_enter, k0_leave, k0_X1_put, k0_X1_worth, k0_X2_put, k0_X2_worth, up2, va_up] using hk)) (by decide) m_277 m_520 m_119 m_258 m_5 m_259 ⟨by decide, hd_X2_put.2.2⟩ rfl rfl (Nat.le_of_ble_eq_true rfl) [.int ((f_X2_put j v ((f_X2_put j v (f_X1_enter j σ)).2)).1)] rfl dX3_put_16 ?_
    refine J_istore_n (pc := 19) (n := 2) (i := 2) h [(2, .int ((f_X2_put j v ((f_X2_put j v (f_X1_enter j σ)).2)).1)), (0, .ref (ad j)), (1, .int v)] rfl (by rw [e4]; decide) rfl dX3_put_19 ?_
    refine J_aload_n (pc := 20) (n := 0) (i := 0) h 1 rfl rfl dX3_put_20 ?_
    refine J_cU (pc := 21) (z := ⟨"SafeDesk$Vault", "leave", "()V"⟩) h hR hj hn (by decide) (c_X1_leave _ _ ad n ((f_X2_put j v ((f_X2_put j v (f_X1_enter j σ)).2)).2) j  hj hn ) (by decide) m_278 m_279 (Sels.of1 (by simpa [k0_enter, k0_leave, k0_X1_put, k0_X1_worth, k0_X2_put, k0_X2_worth, up2, va_up] using hk) (by simpa [k0_enter, k0_leave, k0_X1_put, k0_X1_worth, k0_X2_put, k0_X2_worth, up2, va_up] using hk1) m_280) m_220 m_225 rfl hd_X1_leave rfl rfl (Nat.le_of_ble_eq_true rfl) [] rfl dX3_put_21 ?_
    refine J_iload_n (pc := 24) (n := 2) (i := 2) h 0 rfl rfl dX3_put_24 ?_
    exact J_iret (pc := 25) h hr (by subst ho; exact ⟨rfl, rfl⟩) dX3_put_25
theorem k0_X3_put (j : Nat) (v : Int32) (σ : Sg) : (f_X3_put j v σ).2 j 0 = σ j 0 := by
  unfold f_X3_put
  split <;> simp [k0_enter, k0_leave, k0_X1_put, k0_X1_worth, k0_X2_put, k0_X2_worth, up2, va_up]
def f_X3_worth (j : Nat) (σ : Sg) : Int32 × Sg := (2 * ((f_X2_worth j (f_X1_enter j σ)).1), f_X1_leave j ((f_X2_worth j (f_X1_enter j σ)).2))
theorem hd_X3_worth : yX3_worth.cls ≠ "java/lang/invoke/MethodHandle" ∧ yX3_worth.cls ≠ "java/lang/invoke/VarHandle" ∧ (parseMethodDescriptor yX3_worth.desc).map (fun d => d.parameters.length) = some 0 := by decide +kernel
set_option maxHeartbeats 4000000 in
set_option maxRecDepth 20000 in
theorem c_X3_worth (l : Launch) (g : Gy) (ad : Nat → Nat) (n : Nat) (σ : Sg) (j : Nat) (hj : 28 ≤ j) (hn : j < n) (hk : ¬ σ j 0 = 0) (hk1 : ¬ σ j 0 = 1) : Con l g yX3_worth cX3_worth 2 (some .int) (rmL 3) [.ref (ad j)] (wC g ad n σ) (Det (some (.int (f_X3_worth j σ).1)) (wC g ad n ((f_X3_worth j σ).2))) := by
  refine Con.of (by decide) (Nat.le_of_ble_eq_true rfl) ?_
  intro x h e1 e2 e3 e4 e5 hr
  subst e1 e2
  have h : Ok x cX3_worth "SafeDesk$Vault" (some .int) := h
  have hR : RmOk x 3 0 0 := RmOk.of e3 (Nat.le_refl _) (Nat.le_refl _)
  obtain ⟨out, ho⟩ : ∃ o, f_X3_worth j σ = o := ⟨_, rfl⟩
  rw [ho] at hr
  unfold f_X3_worth at ho
  show J x 0 0 _ 0 [(0, .ref (ad j))] []
  refine J_aload_n (pc := 0) (n := 0) (i := 0) h 0 rfl rfl dX3_worth_0 ?_
  refine J_cU (pc := 1) (z := ⟨"SafeDesk$Vault", "enter", "()V"⟩) h hR hj hn (by decide) (c_X1_enter _ _ ad n σ j  hj hn ) (by decide) m_274 m_275 (Sels.of1 (by simpa [k0_enter, k0_leave, k0_X1_put, k0_X1_worth, k0_X2_put, k0_X2_worth, up2, va_up] using hk) (by simpa [k0_enter, k0_leave, k0_X1_put, k0_X1_worth, k0_X2_put, k0_X2_worth, up2, va_up] using hk1) m_276) m_213 m_218 rfl hd_X1_enter rfl rfl (Nat.le_of_ble_eq_true rfl) [] rfl dX3_worth_1 ?_
  refine J_iconst (pc := 4) h (2) rfl dX3_worth_4 ?_
  refine J_aload_n (pc := 5) (n := 0) (i := 0) h 0 rfl rfl dX3_worth_5 ?_
  refine J_cT (pc := 6) h hR hj hn (by decide) (c_X2_worth _ _ ad n (f_X1_enter j σ) j  hj hn (by simpa [k0_enter, k0_leave, k0_X1_put, k0_X1_worth, k0_X2_put, k0_X2_worth, up2, va_up] using hk)) (by decide) m_304 m_521 m_119 m_298 m_5 m_299 ⟨by decide, hd_X2_worth.2.2⟩ rfl rfl (Nat.le_of_ble_eq_true rfl) [.int ((f_X2_worth j (f_X1_enter j σ)).1), .int 2] rfl dX3_worth_6 ?_
  refine J_imul (pc := 9) h dX3_worth_9 ?_
  refine J_istore_n (pc := 10) (n := 1) (i := 1) h [(1, .int (2 * ((f_X2_worth j (f_X1_enter j σ)).1))), (0, .ref (ad j))] rfl (by rw [e4]; decide) rfl dX3_worth_10 ?_
  refine J_aload_n (pc := 11) (n := 0) (i := 0) h 1 rfl rfl dX3_worth_11 ?_
  refine J_cU (pc := 12) (z := ⟨"SafeDesk$Vault", "leave", "()V"⟩) h hR hj hn (by decide) (c_X1_leave _ _ ad n ((f_X2_worth j (f_X1_enter j σ)).2) j  hj hn ) (by decide) m_278 m_279 (Sels.of1 (by simpa [k0_enter, k0_leave, k0_X1_put, k0_X1_worth, k0_X2_put, k0_X2_worth, up2, va_up] using hk) (by simpa [k0_enter, k0_leave, k0_X1_put, k0_X1_worth, k0_X2_put, k0_X2_worth, up2, va_up] using hk1) m_280) m_220 m_225 rfl hd_X1_leave rfl rfl (Nat.le_of_ble_eq_true rfl) [] rfl dX3_worth_12 ?_
  refine J_iload_n (pc := 15) (n := 1) (i := 1) h 0 rfl rfl dX3_worth_15 ?_
  exact J_iret (pc := 16) h hr (by subst ho; exact ⟨rfl, rfl⟩) dX3_worth_16
theorem k0_X3_worth (j : Nat) (σ : Sg) : (f_X3_worth j σ).2 j 0 = σ j 0 := by simp [f_X3_worth, k0_enter, k0_leave, k0_X1_put, k0_X1_worth, k0_X2_put, k0_X2_worth, up2, va_up]
def f_vput (j : Nat) (v : Int32) (σ : Sg) : Int32 × Sg := if σ j 0 = 0 then f_X1_put j v σ else if σ j 0 = 1 then f_X2_put j v σ else f_X3_put j v σ
def f_vworth (j : Nat) (σ : Sg) : Int32 × Sg := if σ j 0 = 0 then f_X1_worth j σ else if σ j 0 = 1 then f_X2_worth j σ else f_X3_worth j σ
theorem k0_vput (j : Nat) (v : Int32) (σ : Sg) : (f_vput j v σ).2 j 0 = σ j 0 := by
  unfold f_vput
  split
  · exact k0_X1_put j v σ
  · split
    · exact k0_X2_put j v σ
    · exact k0_X3_put j v σ
theorem cv_X1_put (l : Launch) (g : Gy) (ad : Nat → Nat) (n : Nat) (σ : Sg) (j : Nat) (v : Int32) (hj : 28 ≤ j) (hn : j < n) (a : σ j 0 = 0) : Con l g yX1_put cX1_put 5 (some .int) (rmL 1) [.ref (ad j), .int v] (wC g ad n σ) (Det (some (.int (f_vput j v σ).1)) (wC g ad n (f_vput j v σ).2)) := by
  have e : f_vput j v σ = f_X1_put j v σ := if_pos a
  rw [e]
  exact c_X1_put l g ad n σ j v hj hn 
theorem cv_X2_put (l : Launch) (g : Gy) (ad : Nat → Nat) (n : Nat) (σ : Sg) (j : Nat) (v : Int32) (hj : 28 ≤ j) (hn : j < n) (a : σ j 0 = 1) : Con l g yX2_put cX2_put 3 (some .int) (rmL 2) [.ref (ad j), .int v] (wC g ad n σ) (Det (some (.int (f_vput j v σ).1)) (wC g ad n (f_vput j v σ).2)) := by
  have e : f_vput j v σ = f_X2_put j v σ := (if_neg (by rw [a]; decide)).trans (if_pos a)
  rw [e]
  exact c_X2_put l g ad n σ j v hj hn (by rw [a]; decide)
theorem cv_X3_put (l : Launch) (g : Gy) (ad : Nat → Nat) (n : Nat) (σ : Sg) (j : Nat) (v : Int32) (hj : 28 ≤ j) (hn : j < n) (a : ¬ σ j 0 = 0) (b : ¬ σ j 0 = 1) : Con l g yX3_put cX3_put 3 (some .int) (rmL 3) [.ref (ad j), .int v] (wC g ad n σ) (Det (some (.int (f_vput j v σ).1)) (wC g ad n (f_vput j v σ).2)) := by
  have e : f_vput j v σ = f_X3_put j v σ := (if_neg a).trans (if_neg b)
  rw [e]
  exact c_X3_put l g ad n σ j v hj hn a b
theorem cv_X1_worth (l : Launch) (g : Gy) (ad : Nat → Nat) (n : Nat) (σ : Sg) (j : Nat) (hj : 28 ≤ j) (hn : j < n) (a : σ j 0 = 0) : Con l g yX1_worth cX1_worth 2 (some .int) (rmL 1) [.ref (ad j)] (wC g ad n σ) (Det (some (.int (f_vworth j σ).1)) (wC g ad n (f_vworth j σ).2)) := by
  have e : f_vworth j σ = f_X1_worth j σ := if_pos a
  rw [e]
  exact c_X1_worth l g ad n σ j hj hn 
theorem cv_X2_worth (l : Launch) (g : Gy) (ad : Nat → Nat) (n : Nat) (σ : Sg) (j : Nat) (hj : 28 ≤ j) (hn : j < n) (a : σ j 0 = 1) : Con l g yX2_worth cX2_worth 2 (some .int) (rmL 2) [.ref (ad j)] (wC g ad n σ) (Det (some (.int (f_vworth j σ).1)) (wC g ad n (f_vworth j σ).2)) := by
  have e : f_vworth j σ = f_X2_worth j σ := (if_neg (by rw [a]; decide)).trans (if_pos a)
  rw [e]
  exact c_X2_worth l g ad n σ j hj hn (by rw [a]; decide)
theorem cv_X3_worth (l : Launch) (g : Gy) (ad : Nat → Nat) (n : Nat) (σ : Sg) (j : Nat) (hj : 28 ≤ j) (hn : j < n) (a : ¬ σ j 0 = 0) (b : ¬ σ j 0 = 1) : Con l g yX3_worth cX3_worth 2 (some .int) (rmL 3) [.ref (ad j)] (wC g ad n σ) (Det (some (.int (f_vworth j σ).1)) (wC g ad n (f_vworth j σ).2)) := by
  have e : f_vworth j σ = f_X3_worth j σ := (if_neg a).trans (if_neg b)
  rw [e]
  exact c_X3_worth l g ad n σ j hj hn a b
def f_X1_give (j : Nat) (v : Int32) (w : Int32) (σ : Sg) : Int32 × Sg := (if (f_vput j (-v) (f_X1_enter j σ)).1 = 0 then (if w = -1 then (1, f_X1_leave j ((f_vput j v ((f_vput j (-v) (f_X1_enter j σ)).2)).2)) else (if (f_vput (28 + w.toNatClampNeg) v ((f_vput j (-v) (f_X1_enter j σ)).2)).1 = 0 then ((f_vput (28 + w.toNatClampNeg) v ((f_vput j (-v) (f_X1_enter j σ)).2)).1, f_X1_leave j ((f_vput (28 + w.toNatClampNeg) v ((f_vput j (-v) (f_X1_enter j σ)).2)).2)) else ((f_vput (28 + w.toNatClampNeg) v ((f_vput j (-v) (f_X1_enter j σ)).2)).1, f_X1_leave j ((f_vput j v ((f_vput (28 + w.toNatClampNeg) v ((f_vput j (-v) (f_X1_enter j σ)).2)).2)).2)))) else ((f_vput j (-v) (f_X1_enter j σ)).1, f_X1_leave j ((f_vput j (-v) (f_X1_enter j σ)).2)))
theorem hd_X1_give : yX1_give.cls ≠ "java/lang/invoke/MethodHandle" ∧ yX1_give.cls ≠ "java/lang/invoke/VarHandle" ∧ (parseMethodDescriptor yX1_give.desc).map (fun d => d.parameters.length) = some 2 := by decide +kernel
set_option maxHeartbeats 4000000 in
set_option maxRecDepth 20000 in
theorem c_X1_give (l : Launch) (g : Gy) (ad : Nat → Nat) (n : Nat) (σ : Sg) (j : Nat) (v : Int32) (w : Int32) (hj : 28 ≤ j) (hn : j < n) (hw : w = -1 ∨ 28 + w.toNatClampNeg < n) : Con l g yX1_give cX1_give 4 (some .int) (rmL 4) [.ref (ad j), .int v, va_rf (rfa ad w)] (wC g ad n σ) (Det (some (.int (f_X1_give j v w σ).1)) (wC g ad n ((f_X1_give j v w σ).2))) := by
  refine Con.of (by decide) (by simp [lg_sl, rf_cat, ref_cat, int_cat]) ?_
  intro x h e1 e2 e3 e4 e5 hr
  subst e1 e2
  have h : Ok x cX1_give "SafeDesk$Safe" (some .int) := h
  have hR : RmOk x 4 0 0 := RmOk.of e3 (Nat.le_refl _) (Nat.le_refl _)
  obtain ⟨out, ho⟩ : ∃ o, f_X1_give j v w σ = o := ⟨_, rfl⟩
  rw [ho] at hr
  unfold f_X1_give at ho
  rw [show lv_args 0 [.ref (ad j), .int v, va_rf (rfa ad w)] = [(0, .ref (ad j)), (1, .int v), (2, va_rf (rfa ad w))] from by simp [lv_args, rf_cat, ref_cat, int_cat]]
  refine J_aload_n (pc := 0) (n := 0) (i := 0) h 0 rfl rfl dX1_give_0 ?_
  refine J_cU (pc := 1) (z := ⟨"SafeDesk$Safe", "enter", "()V"⟩) h hR hj hn (by decide) (c_X1_enter _ _ ad n σ j  hj hn ) (by decide) m_282 m_215 (Sels.of3 m_214 m_216 m_217) m_213 m_218 rfl hd_X1_enter rfl rfl (Nat.le_of_ble_eq_true rfl) [] rfl dX1_give_1 ?_
  refine J_aload_n (pc := 4) (n := 0) (i := 0) h 0 rfl rfl dX1_give_4 ?_
  refine J_iload_n (pc := 5) (n := 1) (i := 1) h 1 rfl rfl dX1_give_5 ?_
  refine J_ineg (pc := 6) h dX1_give_6 ?_
  refine J_cO (pc := 7) (z := yX1_put) (r0 := some (.int (f_vput j (-v) (f_X1_enter j σ)).1)) (w0 := wC (xG x) ad n (f_vput j (-v) (f_X1_enter j σ)).2) h hR hj hn ⟨by decide, by decide, by decide⟩ (fun qa => cv_X1_put _ _ ad n (f_X1_enter j σ) j (-v) hj hn qa) (fun qa => cv_X2_put _ _ ad n (f_X1_enter j σ) j (-v) hj hn qa) (fun qa qb => cv_X3_put _ _ ad n (f_X1_enter j σ) j (-v) hj hn qa qb) ⟨by decide, by decide, by decide⟩ m_292 m_256 rfl rfl ⟨rfl, rfl, rfl⟩ m_255 m_257 m_271 m_254 m_258 m_272 m_281 m_259 m_273 hd_X1_put rfl rfl (Nat.le_of_ble_eq_true rfl) [.int ((f_vput j (-v) (f_X1_enter j σ)).1)] rfl dX1_give_7 ?_
  refine J_istore_n (pc := 10) (n := 3) (i := 3) h [(3, .int ((f_vput j (-v) (f_X1_enter j σ)).1)), (0, .ref (ad j)), (1, .int v), (2, va_rf (rfa ad w))] rfl (by rw [e4]; decide) (by simp [ref_cat, int_cat, rf_cat]) dX1_give_10 ?_
  refine J_iload_n (pc := 11) (n := 3) (i := 3) h 0 rfl rfl dX1_give_11 ?_
  refine J_if_ne (pc := 12) h 39 (by decide) dX1_give_12 (fun c1 => ?_) (fun c1 => ?_)
  · replace ho := (if_neg c1).symm.trans ho
    refine J_aload_n (pc := 39) (n := 0) (i := 0) h 1 rfl rfl dX1_give_39 ?_
    refine J_cU (pc := 40) (z := ⟨"SafeDesk$Safe", "leave", "()V"⟩) h hR hj hn (by decide) (c_X1_leave _ _ ad n ((f_vput j (-v) (f_X1_enter j σ)).2) j  hj hn ) (by decide) m_284 m_222 (Sels.of3 m_221 m_223 m_224) m_220 m_225 rfl hd_X1_leave rfl rfl (Nat.le_of_ble_eq_true rfl) [] rfl dX1_give_40 ?_
    refine J_iload_n (pc := 43) (n := 3) (i := 3) h 0 rfl rfl dX1_give_43 ?_
    exact J_iret (pc := 44) h hr (by subst ho; exact ⟨rfl, rfl⟩) dX1_give_44
  · replace ho := (if_pos c1).symm.trans ho
    refine J_aload_nq (pc := 15) (n := 2) (i := 2) h 3 rfl rfl dX1_give_15 ?_
    refine J_ifnonnullr (pc := 16) h 23 (by decide) dX1_give_16 (fun c2 => ?_) (fun c2 => ?_)
    · replace ho := (if_neg c2).symm.trans ho
      rw [rfa_ne c2]
      refine J_aload_n (pc := 23) (n := 2) (i := 2) h 3 rfl rfl dX1_give_23 ?_
      refine J_iload_n (pc := 24) (n := 1) (i := 1) h 2 rfl rfl dX1_give_24 ?_
      refine J_cO (pc := 25) (z := yX1_put) (r0 := some (.int (f_vput (28 + w.toNatClampNeg) v ((f_vput j (-v) (f_X1_enter j σ)).2)).1)) (w0 := wC (xG x) ad n (f_vput (28 + w.toNatClampNeg) v ((f_vput j (-v) (f_X1_enter j σ)).2)).2) h hR (Nat.le_add_right _ _) (hw.resolve_left (by assumption)) ⟨by decide, by decide, by decide⟩ (fun qa => cv_X1_put _ _ ad n ((f_vput j (-v) (f_X1_enter j σ)).2) (28 + w.toNatClampNeg) v (Nat.le_add_right _ _) (hw.resolve_left (by assumption)) qa) (fun qa => cv_X2_put _ _ ad n ((f_vput j (-v) (f_X1_enter j σ)).2) (28 + w.toNatClampNeg) v (Nat.le_add_right _ _) (hw.resolve_left (by assumption)) qa) (fun qa qb => cv_X3_put _ _ ad n ((f_vput j (-v) (f_X1_enter j σ)).2) (28 + w.toNatClampNeg) v (Nat.le_add_right _ _) (hw.resolve_left (by assumption)) qa qb) ⟨by decide, by decide, by decide⟩ m_292 m_256 rfl rfl ⟨rfl, rfl, rfl⟩ m_255 m_257 m_271 m_254 m_258 m_272 m_281 m_259 m_273 hd_X1_put rfl rfl (Nat.le_of_ble_eq_true rfl) [.int ((f_vput (28 + w.toNatClampNeg) v ((f_vput j (-v) (f_X1_enter j σ)).2)).1)] rfl dX1_give_25 ?_
      refine J_istore_n (pc := 28) (n := 3) (i := 3) h [(3, .int ((f_vput (28 + w.toNatClampNeg) v ((f_vput j (-v) (f_X1_enter j σ)).2)).1)), (0, .ref (ad j)), (1, .int v), (2, .ref (ad (28 + w.toNatClampNeg)))] rfl (by rw [e4]; decide) rfl dX1_give_28 ?_
      refine J_iload_n (pc := 29) (n := 3) (i := 3) h 0 rfl rfl dX1_give_29 ?_
      refine J_if_eq (pc := 30) h 39 (by decide) dX1_give_30 (fun c3 => ?_) (fun c3 => ?_)
      · replace ho := (if_pos c3).symm.trans ho
        refine J_aload_n (pc := 39) (n := 0) (i := 0) h 1 rfl rfl dX1_give_39 ?_
        refine J_cU (pc := 40) (z := ⟨"SafeDesk$Safe", "leave", "()V"⟩) h hR hj hn (by decide) (c_X1_leave _ _ ad n ((f_vput (28 + w.toNatClampNeg) v ((f_vput j (-v) (f_X1_enter j σ)).2)).2) j  hj hn ) (by decide) m_284 m_222 (Sels.of3 m_221 m_223 m_224) m_220 m_225 rfl hd_X1_leave rfl rfl (Nat.le_of_ble_eq_true rfl) [] rfl dX1_give_40 ?_
        refine J_iload_n (pc := 43) (n := 3) (i := 3) h 0 rfl rfl dX1_give_43 ?_
        exact J_iret (pc := 44) h hr (by subst ho; exact ⟨rfl, rfl⟩) dX1_give_44
      · replace ho := (if_neg c3).symm.trans ho
        refine J_aload_n (pc := 33) (n := 0) (i := 0) h 1 rfl rfl dX1_give_33 ?_
        refine J_iload_n (pc := 34) (n := 1) (i := 1) h 2 rfl rfl dX1_give_34 ?_
        refine J_cO (pc := 35) (z := yX1_put) (r0 := some (.int (f_vput j v ((f_vput (28 + w.toNatClampNeg) v ((f_vput j (-v) (f_X1_enter j σ)).2)).2)).1)) (w0 := wC (xG x) ad n (f_vput j v ((f_vput (28 + w.toNatClampNeg) v ((f_vput j (-v) (f_X1_enter j σ)).2)).2)).2) h hR hj hn ⟨by decide, by decide, by decide⟩ (fun qa => cv_X1_put _ _ ad n ((f_vput (28 + w.toNatClampNeg) v ((f_vput j (-v) (f_X1_enter j σ)).2)).2) j v hj hn qa) (fun qa => cv_X2_put _ _ ad n ((f_vput (28 + w.toNatClampNeg) v ((f_vput j (-v) (f_X1_enter j σ)).2)).2) j v hj hn qa) (fun qa qb => cv_X3_put _ _ ad n ((f_vput (28 + w.toNatClampNeg) v ((f_vput j (-v) (f_X1_enter j σ)).2)).2) j v hj hn qa qb) ⟨by decide, by decide, by decide⟩ m_292 m_256 rfl rfl ⟨rfl, rfl, rfl⟩ m_255 m_257 m_271 m_254 m_258 m_272 m_281 m_259 m_273 hd_X1_put rfl rfl (Nat.le_of_ble_eq_true rfl) [.int ((f_vput j v ((f_vput (28 + w.toNatClampNeg) v ((f_vput j (-v) (f_X1_enter j σ)).2)).2)).1)] rfl dX1_give_35 ?_
        refine J_pop (pc := 38) h rfl dX1_give_38 ?_
        refine J_aload_n (pc := 39) (n := 0) (i := 0) h 1 rfl rfl dX1_give_39 ?_
        refine J_cU (pc := 40) (z := ⟨"SafeDesk$Safe", "leave", "()V"⟩) h hR hj hn (by decide) (c_X1_leave _ _ ad n ((f_vput j v ((f_vput (28 + w.toNatClampNeg) v ((f_vput j (-v) (f_X1_enter j σ)).2)).2)).2) j  hj hn ) (by decide) m_284 m_222 (Sels.of3 m_221 m_223 m_224) m_220 m_225 rfl hd_X1_leave rfl rfl (Nat.le_of_ble_eq_true rfl) [] rfl dX1_give_40 ?_
        refine J_iload_n (pc := 43) (n := 3) (i := 3) h 0 rfl rfl dX1_give_43 ?_
        exact J_iret (pc := 44) h hr (by subst ho; exact ⟨rfl, rfl⟩) dX1_give_44
    · replace ho := (if_pos c2).symm.trans ho
      refine J_iconst (pc := 19) h (1) rfl dX1_give_19 ?_
      refine J_goto (pc := 20) h 28 (by decide) dX1_give_20 ?_
      refine J_istore_n (pc := 28) (n := 3) (i := 3) h [(3, .int 1), (0, .ref (ad j)), (1, .int v), (2, va_rf (rfa ad w))] rfl (by rw [e4]; decide) (by simp [ref_cat, int_cat, rf_cat]) dX1_give_28 ?_
      refine J_iload_n (pc := 29) (n := 3) (i := 3) h 0 rfl rfl dX1_give_29 ?_
      refine J_if_eq (pc := 30) h 39 (by decide) dX1_give_30 (fun c4 => ?_) (fun c4 => ?_)
      · exact absurd c4 (by decide)
      · skip
        refine J_aload_n (pc := 33) (n := 0) (i := 0) h 1 rfl rfl dX1_give_33 ?_
        refine J_iload_n (pc := 34) (n := 1) (i := 1) h 2 rfl rfl dX1_give_34 ?_
        refine J_cO (pc := 35) (z := yX1_put) (r0 := some (.int (f_vput j v ((f_vput j (-v) (f_X1_enter j σ)).2)).1)) (w0 := wC (xG x) ad n (f_vput j v ((f_vput j (-v) (f_X1_enter j σ)).2)).2) h hR hj hn ⟨by decide, by decide, by decide⟩ (fun qa => cv_X1_put _ _ ad n ((f_vput j (-v) (f_X1_enter j σ)).2) j v hj hn qa) (fun qa => cv_X2_put _ _ ad n ((f_vput j (-v) (f_X1_enter j σ)).2) j v hj hn qa) (fun qa qb => cv_X3_put _ _ ad n ((f_vput j (-v) (f_X1_enter j σ)).2) j v hj hn qa qb) ⟨by decide, by decide, by decide⟩ m_292 m_256 rfl rfl ⟨rfl, rfl, rfl⟩ m_255 m_257 m_271 m_254 m_258 m_272 m_281 m_259 m_273 hd_X1_put rfl rfl (Nat.le_of_ble_eq_true rfl) [.int ((f_vput j v ((f_vput j (-v) (f_X1_enter j σ)).2)).1)] rfl dX1_give_35 ?_
        refine J_pop (pc := 38) h rfl dX1_give_38 ?_
        refine J_aload_n (pc := 39) (n := 0) (i := 0) h 1 rfl rfl dX1_give_39 ?_
        refine J_cU (pc := 40) (z := ⟨"SafeDesk$Safe", "leave", "()V"⟩) h hR hj hn (by decide) (c_X1_leave _ _ ad n ((f_vput j v ((f_vput j (-v) (f_X1_enter j σ)).2)).2) j  hj hn ) (by decide) m_284 m_222 (Sels.of3 m_221 m_223 m_224) m_220 m_225 rfl hd_X1_leave rfl rfl (Nat.le_of_ble_eq_true rfl) [] rfl dX1_give_40 ?_
        refine J_iload_n (pc := 43) (n := 3) (i := 3) h 0 rfl rfl dX1_give_43 ?_
        exact J_iret (pc := 44) h hr (by subst ho; exact ⟨rfl, rfl⟩) dX1_give_44
end
section
theorem vp_of {i b : Int32} {N : Nat} (hb : b.toInt = N) (h0 : ¬ i < 0) (h1 : ¬ b ≤ i) : vp_in i N := by
  rw [Int32.lt_iff_toInt_lt] at h0
  rw [Int32.le_iff_toInt_le, hb] at h1
  have z : (0 : Int32).toInt = 0 := rfl
  rw [z] at h0
  exact vp_in_iff.mpr ⟨by omega, by omega⟩
theorem vp_lt {i : Int32} {N : Nat} (h : vp_in i N) : i.toNatClampNeg < N := Nat.not_le.mp fun q => h (Or.inr q)
theorem isRoom_in {a : Int32} (h : ¬ f_X4_isRoom a = 0) : vp_in a 8 := by
  unfold f_X4_isRoom at h
  by_cases c1 : a < 0
  · rw [if_pos c1] at h; exact absurd rfl h
  · by_cases c2 : (8 : Int32) ≤ a
    · rw [if_neg c1, if_pos c2] at h; exact absurd rfl h
    · exact vp_of (b := 8) rfl c1 c2
theorem isPlan_in {a : Int32} (h : ¬ f_X4_isPlan a = 0) : vp_in a 6 := by
  unfold f_X4_isPlan at h
  by_cases c1 : a < 0
  · rw [if_pos c1] at h; exact absurd rfl h
  · by_cases c2 : (6 : Int32) ≤ a
    · rw [if_neg c1, if_pos c2] at h; exact absurd rfl h
    · exact vp_of (b := 6) rfl c1 c2
theorem isPlan_lt {a : Int32} (h : ¬ f_X4_isPlan a = 0) : a.toNatClampNeg < 6 := vp_lt (isPlan_in h)
/-- what stands in the rooms is there -/
def RI (n : Nat) (σ : Sg) : Prop := ∀ r : Nat, r < 8 → σ 1 r = -1 ∨ 28 + (σ 1 r).toNatClampNeg < n
theorem tr_in {a b : Int32} (h0 : ¬ a < 0) (h1 : ¬ b ≤ a) (h2 : b ≤ 120) : vp_in a 120 := by
  rw [Int32.lt_iff_toInt_lt] at h0
  rw [Int32.le_iff_toInt_le] at h1 h2
  have z : (0 : Int32).toInt = 0 := rfl
  have z2 : (120 : Int32).toInt = 120 := rfl
  rw [z] at h0
  rw [z2] at h2
  exact vp_in_iff.mpr ⟨by omega, by omega⟩
def f_X0_add (p : Nat) (kd : Int32) (a : Int32) (b : Int32) (σ : Sg) : Sg := (if 12 ≤ σ (4 + p) 3 then σ else (up2 (up2 (up2 (up2 σ (10 + 3 * p + 0) ((σ (4 + p) 3).toNatClampNeg) kd) (10 + 3 * p + 1) ((σ (4 + p) 3).toNatClampNeg) a) (10 + 3 * p + 2) ((σ (4 + p) 3).toNatClampNeg) b) (4 + p) 3 ((σ (4 + p) 3) + 1)))
theorem hd_X0_add : yX0_add.cls ≠ "java/lang/invoke/MethodHandle" ∧ yX0_add.cls ≠ "java/lang/invoke/VarHandle" ∧ (parseMethodDescriptor yX0_add.desc).map (fun d => d.parameters.length) = some 3 := by decide +kernel
set_option maxHeartbeats 4000000 in
set_option maxRecDepth 20000 in
theorem c_X0_add (l : Launch) (g : Gy) (ad : Nat → Nat) (n : Nat) (σ : Sg) (p : Nat) (kd : Int32) (a : Int32) (b : Int32) (hp : p < 6) (hN : 28 ≤ n) (hs : ¬ σ (4 + p) 3 < 0) : Con l g yX0_add cX0_add 4 none (rmL 0) [.ref (ad (4 + p)), .int kd, .int a, .int b] (wC g ad n σ) (Det none (wC g ad n (f_X0_add p kd a b σ))) := by
  refine Con.of (by decide) (Nat.le_of_ble_eq_true rfl) ?_
  intro x h e1 e2 e3 e4 e5 hr
  subst e1 e2
  have h : Ok x cX0_add "SafeDesk$Plan" none := h
  have hR : RmOk x 0 0 0 := RmOk.of e3 (Nat.le_refl _) (Nat.le_refl _)
  obtain ⟨out, ho⟩ : ∃ o, f_X0_add p kd a b σ = o := ⟨_, rfl⟩
  rw [ho] at hr
  unfold f_X0_add at ho
  show J x 0 0 _ 0 [(0, .ref (ad (4 + p))), (1, .int kd), (2, .int a), (3, .int b)] []
  refine J_aload_n (pc := 0) (n := 0) (i := 0) h 0 rfl rfl dX0_add_0 ?_
  refine J_Pz (pc := 1) h hp (by omega) m_31 (σ (4 + p) 3) rfl dX0_add_1 ?_
  refine J_bipush (pc := 4) h (12) rfl dX0_add_4 ?_
  refine J_icmp_ge (pc := 6) h 49 (by decide) dX0_add_6 (fun c1 => ?_) (fun c1 => ?_)
  · replace ho := (if_pos c1).symm.trans ho
    exact J_vret (pc := 49) h hr (by subst ho; exact ⟨rfl, rfl⟩) dX0_add_49
  · replace ho := (if_neg c1).symm.trans ho
    refine J_aload_n (pc := 9) (n := 0) (i := 0) h 0 rfl rfl dX0_add_9 ?_
    refine J_Pr0 (pc := 10) h hp (by omega) m_25 dX0_add_10 ?_
    refine J_aload_n (pc := 13) (n := 0) (i := 0) h 0 rfl rfl dX0_add_13 ?_
    refine J_Pz (pc := 14) h hp (by omega) m_31 (σ (4 + p) 3) rfl dX0_add_14 ?_
    refine J_iload_n (pc := 17) (n := 1) (i := 1) h 1 rfl rfl dX0_add_17 ?_
    refine J_Is (pc := 18) h hp (by decide) (by omega) (vp_of (b := 12) rfl hs (by assumption)) dX0_add_18 ?_
    refine J_aload_n (pc := 19) (n := 0) (i := 0) h 0 rfl rfl dX0_add_19 ?_
    refine J_Pr1 (pc := 20) h hp (by omega) m_27 dX0_add_20 ?_
    refine J_aload_n (pc := 23) (n := 0) (i := 0) h 0 rfl rfl dX0_add_23 ?_
    refine J_Pz (pc := 24) h hp (by omega) m_31 (σ (4 + p) 3) (up2_off _ _ (by omega)) dX0_add_24 ?_
    refine J_iload_n (pc := 27) (n := 2) (i := 2) h 2 rfl rfl dX0_add_27 ?_
    refine J_Is (pc := 28) h hp (by decide) (by omega) (vp_of (b := 12) rfl hs (by assumption)) dX0_add_28 ?_
    refine J_aload_n (pc := 29) (n := 0) (i := 0) h 0 rfl rfl dX0_add_29 ?_
    refine J_Pr2 (pc := 30) h hp (by omega) m_29 dX0_add_30 ?_
    refine J_aload_n (pc := 33) (n := 0) (i := 0) h 0 rfl rfl dX0_add_33 ?_
    refine J_Pz (pc := 34) h hp (by omega) m_31 (σ (4 + p) 3) ((up2_off _ _ (by omega)).trans (up2_off _ _ (by omega))) dX0_add_34 ?_
    refine J_iload_n (pc := 37) (n := 3) (i := 3) h 3 rfl rfl dX0_add_37 ?_
    refine J_Is (pc := 38) h hp (by decide) (by omega) (vp_of (b := 12) rfl hs (by assumption)) dX0_add_38 ?_
    refine J_aload_n (pc := 39) (n := 0) (i := 0) h 0 rfl rfl dX0_add_39 ?_
    refine J_dup (pc := 40) h rfl dX0_add_40 ?_
    refine J_Pz (pc := 41) h hp (by omega) m_31 (σ (4 + p) 3) ((up2_off _ _ (by omega)).trans ((up2_off _ _ (by omega)).trans (up2_off _ _ (by omega)))) dX0_add_41 ?_
    refine J_iconst (pc := 44) h (1) rfl dX0_add_44 ?_
    refine J_iadd (pc := 45) h dX0_add_45 ?_
    refine J_Pzp (pc := 46) h hp (by omega) m_31 dX0_add_46 ?_
    exact J_vret (pc := 49) h hr (by subst ho; exact ⟨rfl, rfl⟩) dX0_add_49
def f_X0_behind (p : Nat) (a : Int32) (b : Int32) (σ : Sg) : Int32 := (if σ (10 + 3 * p + 0) a.toNatClampNeg = 0 then (f_J9_min_7cf53 ((a + 1) + (σ (10 + 3 * p + 2) a.toNatClampNeg)) b) else (if σ (10 + 3 * p + 0) a.toNatClampNeg = 1 then (f_J9_min_7cf53 ((a + 1) + (σ (10 + 3 * p + 2) a.toNatClampNeg)) b) else (a + 1)))
theorem hd_X0_behind : yX0_behind.cls ≠ "java/lang/invoke/MethodHandle" ∧ yX0_behind.cls ≠ "java/lang/invoke/VarHandle" ∧ (parseMethodDescriptor yX0_behind.desc).map (fun d => d.parameters.length) = some 2 := by decide +kernel
set_option maxHeartbeats 4000000 in
set_option maxRecDepth 20000 in
theorem c_X0_behind (l : Launch) (g : Gy) (ad : Nat → Nat) (n : Nat) (σ : Sg) (p : Nat) (a : Int32) (b : Int32) (hp : p < 6) (hN : 28 ≤ n) (ha : vp_in a 12) : Con l g yX0_behind cX0_behind 4 (some .int) (rmL 1) [.ref (ad (4 + p)), .int a, .int b] (wC g ad n σ) (Det (some (.int (f_X0_behind p a b σ))) (wC g ad n σ)) := by
  refine Con.of (by decide) (Nat.le_of_ble_eq_true rfl) ?_
  intro x h e1 e2 e3 e4 e5 hr
  subst e1 e2
  have h : Ok x cX0_behind "SafeDesk$Plan" (some .int) := h
  have hR : RmOk x 1 0 0 := RmOk.of e3 (Nat.le_refl _) (Nat.le_refl _)
  obtain ⟨out, ho⟩ : ∃ o, f_X0_behind p a b σ = o := ⟨_, rfl⟩
  rw [ho] at hr
  unfold f_X0_behind at ho
  show J x 0 0 _ 0 [(0, .ref (ad (4 + p))), (1, .int a), (2, .int b)] []
  refine J_aload_n (pc := 0) (n := 0) (i := 0) h 0 rfl rfl dX0_behind_0 ?_
  refine J_Pr0 (pc := 1) h hp (by omega) m_25 dX0_behind_1 ?_
  refine J_iload_n (pc := 4) (n := 1) (i := 1) h 1 rfl rfl dX0_behind_4 ?_
  refine J_Ia (pc := 5) h hp (by decide) (by omega) ha (σ (10 + 3 * p + 0) a.toNatClampNeg) rfl dX0_behind_5 ?_
  refine J_if_eq (pc := 6) h 19 (by decide) dX0_behind_6 (fun c1 => ?_) (fun c1 => ?_)
  · replace ho := (if_pos c1).symm.trans ho
    refine J_iconst (pc := 19) h (1) rfl dX0_behind_19 ?_
    refine J_goto (pc := 20) h 24 (by decide) dX0_behind_20 ?_
    refine J_istore_n (pc := 24) (n := 3) (i := 3) h [(3, .int 1), (0, .ref (ad (4 + p))), (1, .int a), (2, .int b)] rfl (by rw [e4]; decide) rfl dX0_behind_24 ?_
    refine J_iload_n (pc := 25) (n := 3) (i := 3) h 0 rfl rfl dX0_behind_25 ?_
    refine J_if_eq (pc := 26) h 46 (by decide) dX0_behind_26 (fun c2 => ?_) (fun c2 => ?_)
    · exact absurd c2 (by decide)
    · skip
      refine J_iload_n (pc := 29) (n := 1) (i := 1) h 2 rfl rfl dX0_behind_29 ?_
      refine J_iconst (pc := 30) h (1) rfl dX0_behind_30 ?_
      refine J_iadd (pc := 31) h dX0_behind_31 ?_
      refine J_aload_n (pc := 32) (n := 0) (i := 0) h 1 rfl rfl dX0_behind_32 ?_
      refine J_Pr2 (pc := 33) h hp (by omega) m_29 dX0_behind_33 ?_
      refine J_iload_n (pc := 36) (n := 1) (i := 1) h 2 rfl rfl dX0_behind_36 ?_
      refine J_Ia (pc := 37) h hp (by decide) (by omega) ha (σ (10 + 3 * p + 2) a.toNatClampNeg) rfl dX0_behind_37 ?_
      refine J_iadd (pc := 38) h dX0_behind_38 ?_
      refine J_iload_n (pc := 39) (n := 2) (i := 2) h 3 rfl rfl dX0_behind_39 ?_
      refine J_cS (pc := 40) h hR (by decide) (c_J9_min_7cf53 _ _ _ ((a + 1) + (σ (10 + 3 * p + 2) a.toNatClampNeg)) b ) (by decide) m_193 m_194 m_7 m_195 hd_J9_min_7cf53 rfl rfl (Nat.le_of_ble_eq_true rfl) [.int (f_J9_min_7cf53 ((a + 1) + (σ (10 + 3 * p + 2) a.toNatClampNeg)) b)] rfl dX0_behind_40 ?_
      refine J_goto (pc := 43) h 49 (by decide) dX0_behind_43 ?_
      exact J_iret (pc := 49) h hr (by subst ho; exact ⟨rfl, rfl⟩) dX0_behind_49
  · replace ho := (if_neg c1).symm.trans ho
    refine J_aload_n (pc := 9) (n := 0) (i := 0) h 0 rfl rfl dX0_behind_9 ?_
    refine J_Pr0 (pc := 10) h hp (by omega) m_25 dX0_behind_10 ?_
    refine J_iload_n (pc := 13) (n := 1) (i := 1) h 1 rfl rfl dX0_behind_13 ?_
    refine J_Ia (pc := 14) h hp (by decide) (by omega) ha (σ (10 + 3 * p + 0) a.toNatClampNeg) rfl dX0_behind_14 ?_
    refine J_iconst (pc := 15) h (1) rfl dX0_behind_15 ?_
    refine J_icmp_ne (pc := 16) h 23 (by decide) dX0_behind_16 (fun c3 => ?_) (fun c3 => ?_)
    · replace ho := (if_neg c3).symm.trans ho
      refine J_iconst (pc := 23) h (0) rfl dX0_behind_23 ?_
      refine J_istore_n (pc := 24) (n := 3) (i := 3) h [(3, .int 0), (0, .ref (ad (4 + p))), (1, .int a), (2, .int b)] rfl (by rw [e4]; decide) rfl dX0_behind_24 ?_
      refine J_iload_n (pc := 25) (n := 3) (i := 3) h 0 rfl rfl dX0_behind_25 ?_
      refine J_if_eq (pc := 26) h 46 (by decide) dX0_behind_26 (fun c4 => ?_) (fun c4 => ?_)
      · skip
        refine J_iload_n (pc := 46) (n := 1) (i := 1) h 2 rfl rfl dX0_behind_46 ?_
        refine J_iconst (pc := 47) h (1) rfl dX0_behind_47 ?_
        refine J_iadd (pc := 48) h dX0_behind_48 ?_
        exact J_iret (pc := 49) h hr (by subst ho; exact ⟨rfl, rfl⟩) dX0_behind_49
      · exact absurd rfl c4
    · replace ho := (if_pos c3).symm.trans ho
      refine J_iconst (pc := 19) h (1) rfl dX0_behind_19 ?_
      refine J_goto (pc := 20) h 24 (by decide) dX0_behind_20 ?_
      refine J_istore_n (pc := 24) (n := 3) (i := 3) h [(3, .int 1), (0, .ref (ad (4 + p))), (1, .int a), (2, .int b)] rfl (by rw [e4]; decide) rfl dX0_behind_24 ?_
      refine J_iload_n (pc := 25) (n := 3) (i := 3) h 0 rfl rfl dX0_behind_25 ?_
      refine J_if_eq (pc := 26) h 46 (by decide) dX0_behind_26 (fun c5 => ?_) (fun c5 => ?_)
      · exact absurd c5 (by decide)
      · skip
        refine J_iload_n (pc := 29) (n := 1) (i := 1) h 2 rfl rfl dX0_behind_29 ?_
        refine J_iconst (pc := 30) h (1) rfl dX0_behind_30 ?_
        refine J_iadd (pc := 31) h dX0_behind_31 ?_
        refine J_aload_n (pc := 32) (n := 0) (i := 0) h 1 rfl rfl dX0_behind_32 ?_
        refine J_Pr2 (pc := 33) h hp (by omega) m_29 dX0_behind_33 ?_
        refine J_iload_n (pc := 36) (n := 1) (i := 1) h 2 rfl rfl dX0_behind_36 ?_
        refine J_Ia (pc := 37) h hp (by decide) (by omega) ha (σ (10 + 3 * p + 2) a.toNatClampNeg) rfl dX0_behind_37 ?_
        refine J_iadd (pc := 38) h dX0_behind_38 ?_
        refine J_iload_n (pc := 39) (n := 2) (i := 2) h 3 rfl rfl dX0_behind_39 ?_
        refine J_cS (pc := 40) h hR (by decide) (c_J9_min_7cf53 _ _ _ ((a + 1) + (σ (10 + 3 * p + 2) a.toNatClampNeg)) b ) (by decide) m_193 m_194 m_7 m_195 hd_J9_min_7cf53 rfl rfl (Nat.le_of_ble_eq_true rfl) [.int (f_J9_min_7cf53 ((a + 1) + (σ (10 + 3 * p + 2) a.toNatClampNeg)) b)] rfl dX0_behind_40 ?_
        refine J_goto (pc := 43) h 49 (by decide) dX0_behind_43 ?_
        exact J_iret (pc := 49) h hr (by subst ho; exact ⟨rfl, rfl⟩) dX0_behind_49
def f_X4_safeIn (a : Int32) (σ : Sg) : Int32 := (if f_X4_isRoom a = 0 then (-1) else (σ 1 a.toNatClampNeg))
theorem hd_X4_safeIn : yX4_safeIn.cls ≠ "java/lang/invoke/MethodHandle" ∧ yX4_safeIn.cls ≠ "java/lang/invoke/VarHandle" ∧ (parseMethodDescriptor yX4_safeIn.desc).map (fun d => d.parameters.length) = some 1 := by decide +kernel
set_option maxHeartbeats 4000000 in
set_option maxRecDepth 20000 in
theorem c_X4_safeIn (l : Launch) (g : Gy) (ad : Nat → Nat) (n : Nat) (σ : Sg) (a : Int32) (hN : 28 ≤ n) : Con l g yX4_safeIn cX4_safeIn 2 (some (.object "SafeDesk$Safe")) (rmL 1) [.ref (ad 0), .int a] (wC g ad n σ) (Det (some (va_rf (rfa ad (f_X4_safeIn a σ)))) (wC g ad n σ)) := by
  refine Con.of (by decide) (Nat.le_of_ble_eq_true rfl) ?_
  intro x h e1 e2 e3 e4 e5 hr
  subst e1 e2
  have h : Ok x cX4_safeIn "SafeDesk" (some (.object "SafeDesk$Safe")) := h
  have hR : RmOk x 1 0 0 := RmOk.of e3 (Nat.le_refl _) (Nat.le_refl _)
  obtain ⟨out, ho⟩ : ∃ o, f_X4_safeIn a σ = o := ⟨_, rfl⟩
  rw [ho] at hr
  unfold f_X4_safeIn at ho
  show J x 0 0 _ 0 [(0, .ref (ad 0)), (1, .int a)] []
  refine J_iload_n (pc := 0) (n := 1) (i := 1) h 1 rfl rfl dX4_safeIn_0 ?_
  refine J_cS (pc := 1) h hR (by decide) (c_X4_isRoom _ _ _ a ) (by decide) m_75 m_76 m_1 m_77 hd_X4_isRoom rfl rfl (Nat.le_of_ble_eq_true rfl) [.int (f_X4_isRoom a)] rfl dX4_safeIn_1 ?_
  refine J_if_eq (pc := 4) h 16 (by decide) dX4_safeIn_4 (fun c1 => ?_) (fun c1 => ?_)
  · replace ho := (if_pos c1).symm.trans ho
    refine J_null (pc := 16) h dX4_safeIn_16 ?_
    rw [← rfa_m1 ad]
    exact J_aret (pc := 17) h hr (by subst ho; exact ⟨rfl, rfl⟩) dX4_safeIn_17
  · replace ho := (if_neg c1).symm.trans ho
    refine J_aload_n (pc := 7) (n := 0) (i := 0) h 0 rfl rfl dX4_safeIn_7 ?_
    refine J_Dr0 (pc := 8) h (by omega) m_43 dX4_safeIn_8 ?_
    refine J_iload_n (pc := 11) (n := 1) (i := 1) h 1 rfl rfl dX4_safeIn_11 ?_
    refine J_Ra (pc := 12) h (by omega) (isRoom_in (by assumption)) (σ 1 a.toNatClampNeg) rfl dX4_safeIn_12 ?_
    refine J_goto (pc := 13) h 17 (by decide) dX4_safeIn_13 ?_
    exact J_aret (pc := 17) h hr (by subst ho; exact ⟨rfl, rfl⟩) dX4_safeIn_17
theorem safeIn_ok {n : Nat} {σ : Sg} (hI : RI n σ) (a : Int32) : f_X4_safeIn a σ = -1 ∨ 28 + (f_X4_safeIn a σ).toNatClampNeg < n := by
  unfold f_X4_safeIn
  by_cases c : f_X4_isRoom a = 0
  · rw [if_pos c]; exact Or.inl rfl
  · rw [if_neg c]; exact hI _ (vp_lt (isRoom_in c))
def f_X4_setRoom (a : Int32) (w : Int32) (σ : Sg) : Sg := (if f_X4_isRoom a = 0 then σ else (up2 σ 1 a.toNatClampNeg w))
theorem hd_X4_setRoom : yX4_setRoom.cls ≠ "java/lang/invoke/MethodHandle" ∧ yX4_setRoom.cls ≠ "java/lang/invoke/VarHandle" ∧ (parseMethodDescriptor yX4_setRoom.desc).map (fun d => d.parameters.length) = some 2 := by decide +kernel
set_option maxHeartbeats 4000000 in
set_option maxRecDepth 20000 in
theorem c_X4_setRoom (l : Launch) (g : Gy) (ad : Nat → Nat) (n : Nat) (σ : Sg) (a : Int32) (w : Int32) (hN : 28 ≤ n) (hw : w = -1 ∨ 28 + w.toNatClampNeg < n) : Con l g yX4_setRoom cX4_setRoom 3 none (rmL 1) [.ref (ad 0), .int a, va_rf (rfa ad w)] (wC g ad n σ) (Det none (wC g ad n (f_X4_setRoom a w σ))) := by
  refine Con.of (by decide) (by simp [lg_sl, rf_cat, ref_cat, int_cat]) ?_
  intro x h e1 e2 e3 e4 e5 hr
  subst e1 e2
  have h : Ok x cX4_setRoom "SafeDesk" none := h
  have hR : RmOk x 1 0 0 := RmOk.of e3 (Nat.le_refl _) (Nat.le_refl _)
  obtain ⟨out, ho⟩ : ∃ o, f_X4_setRoom a w σ = o := ⟨_, rfl⟩
  rw [ho] at hr
  unfold f_X4_setRoom at ho
  rw [show lv_args 0 [.ref (ad 0), .int a, va_rf (rfa ad w)] = [(0, .ref (ad 0)), (1, .int a), (2, va_rf (rfa ad w))] from by simp [lv_args, rf_cat, ref_cat, int_cat]]
  refine J_iload_n (pc := 0) (n := 1) (i := 1) h 1 rfl rfl dX4_setRoom_0 ?_
  refine J_cS (pc := 1) h hR (by decide) (c_X4_isRoom _ _ _ a ) (by decide) m_75 m_76 m_1 m_77 hd_X4_isRoom rfl rfl (Nat.le_of_ble_eq_true rfl) [.int (f_X4_isRoom a)] rfl dX4_setRoom_1 ?_
  refine J_if_eq (pc := 4) h 14 (by decide) dX4_setRoom_4 (fun c1 => ?_) (fun c1 => ?_)
  · replace ho := (if_pos c1).symm.trans ho
    exact J_vret (pc := 14) h hr (by subst ho; exact ⟨rfl, rfl⟩) dX4_setRoom_14
  · replace ho := (if_neg c1).symm.trans ho
    refine J_aload_n (pc := 7) (n := 0) (i := 0) h 0 rfl rfl dX4_setRoom_7 ?_
    refine J_Dr0 (pc := 8) h (by omega) m_43 dX4_setRoom_8 ?_
    refine J_iload_n (pc := 11) (n := 1) (i := 1) h 1 rfl rfl dX4_setRoom_11 ?_
    refine J_aload_nq (pc := 12) (n := 2) (i := 2) h 2 rfl rfl dX4_setRoom_12 ?_
    refine J_Rs (pc := 13) h (by omega) (isRoom_in (by assumption)) hw dX4_setRoom_13 ?_
    exact J_vret (pc := 14) h hr (by subst ho; exact ⟨rfl, rfl⟩) dX4_setRoom_14
def f_X4_leaveInTrace (a : Int32) (σ : Sg) : Sg := (if 120 ≤ σ 0 3 then σ else (up2 (up2 σ 3 ((σ 0 3).toNatClampNeg) a) 0 3 ((σ 0 3) + 1)))
theorem hd_X4_leaveInTrace : yX4_leaveInTrace.cls ≠ "java/lang/invoke/MethodHandle" ∧ yX4_leaveInTrace.cls ≠ "java/lang/invoke/VarHandle" ∧ (parseMethodDescriptor yX4_leaveInTrace.desc).map (fun d => d.parameters.length) = some 1 := by decide +kernel
set_option maxHeartbeats 4000000 in
set_option maxRecDepth 20000 in
theorem c_X4_leaveInTrace (l : Launch) (g : Gy) (ad : Nat → Nat) (n : Nat) (σ : Sg) (a : Int32) (hN : 28 ≤ n) (ht : ¬ σ 0 3 < 0) : Con l g yX4_leaveInTrace cX4_leaveInTrace 2 none (rmL 0) [.ref (ad 0), .int a] (wC g ad n σ) (Det none (wC g ad n (f_X4_leaveInTrace a σ))) := by
  refine Con.of (by decide) (Nat.le_of_ble_eq_true rfl) ?_
  intro x h e1 e2 e3 e4 e5 hr
  subst e1 e2
  have h : Ok x cX4_leaveInTrace "SafeDesk" none := h
  have hR : RmOk x 0 0 0 := RmOk.of e3 (Nat.le_refl _) (Nat.le_refl _)
  obtain ⟨out, ho⟩ : ∃ o, f_X4_leaveInTrace a σ = o := ⟨_, rfl⟩
  rw [ho] at hr
  unfold f_X4_leaveInTrace at ho
  show J x 0 0 _ 0 [(0, .ref (ad 0)), (1, .int a)] []
  refine J_aload_n (pc := 0) (n := 0) (i := 0) h 0 rfl rfl dX4_leaveInTrace_0 ?_
  refine J_Dg3 (pc := 1) h (by omega) m_46 (σ 0 3) rfl dX4_leaveInTrace_1 ?_
  refine J_bipush (pc := 4) h (120) rfl dX4_leaveInTrace_4 ?_
  refine J_icmp_ge (pc := 6) h 29 (by decide) dX4_leaveInTrace_6 (fun c1 => ?_) (fun c1 => ?_)
  · replace ho := (if_pos c1).symm.trans ho
    exact J_vret (pc := 29) h hr (by subst ho; exact ⟨rfl, rfl⟩) dX4_leaveInTrace_29
  · replace ho := (if_neg c1).symm.trans ho
    refine J_aload_n (pc := 9) (n := 0) (i := 0) h 0 rfl rfl dX4_leaveInTrace_9 ?_
    refine J_Dr2 (pc := 10) h (by omega) m_45 dX4_leaveInTrace_10 ?_
    refine J_aload_n (pc := 13) (n := 0) (i := 0) h 0 rfl rfl dX4_leaveInTrace_13 ?_
    refine J_Dg3 (pc := 14) h (by omega) m_46 (σ 0 3) rfl dX4_leaveInTrace_14 ?_
    refine J_iload_n (pc := 17) (n := 1) (i := 1) h 1 rfl rfl dX4_leaveInTrace_17 ?_
    refine J_Ts (pc := 18) h (by omega) (vp_of (b := 120) rfl ht (by assumption)) dX4_leaveInTrace_18 ?_
    refine J_aload_n (pc := 19) (n := 0) (i := 0) h 0 rfl rfl dX4_leaveInTrace_19 ?_
    refine J_dup (pc := 20) h rfl dX4_leaveInTrace_20 ?_
    refine J_Dg3 (pc := 21) h (by omega) m_46 (σ 0 3) (up2_off _ _ (by decide)) dX4_leaveInTrace_21 ?_
    refine J_iconst (pc := 24) h (1) rfl dX4_leaveInTrace_24 ?_
    refine J_iadd (pc := 25) h dX4_leaveInTrace_25 ?_
    refine J_Dp3 (pc := 26) h (by omega) m_46 dX4_leaveInTrace_26 ?_
    exact J_vret (pc := 29) h hr (by subst ho; exact ⟨rfl, rfl⟩) dX4_leaveInTrace_29
def f_X4_doWithValue (kd : Int32) (a : Int32) (σ : Sg) : Int32 × Sg := (if kd = 8 then (if a = 0 then (6, σ) else (0, up2 σ 0 4 ((σ 0 4) / a))) else (if kd = 9 then (a, σ) else (if kd = 10 then ((-1), up2 σ 0 4 a) else (0, up2 σ 0 4 ((σ 0 4) + a)))))
theorem hd_X4_doWithValue : yX4_doWithValue.cls ≠ "java/lang/invoke/MethodHandle" ∧ yX4_doWithValue.cls ≠ "java/lang/invoke/VarHandle" ∧ (parseMethodDescriptor yX4_doWithValue.desc).map (fun d => d.parameters.length) = some 2 := by decide +kernel
set_option maxHeartbeats 4000000 in
set_option maxRecDepth 20000 in
theorem c_X4_doWithValue (l : Launch) (g : Gy) (ad : Nat → Nat) (n : Nat) (σ : Sg) (kd : Int32) (a : Int32) (hN : 28 ≤ n) : Con l g yX4_doWithValue cX4_doWithValue 3 (some .int) (rmL 0) [.ref (ad 0), .int kd, .int a] (wC g ad n σ) (Det (some (.int (f_X4_doWithValue kd a σ).1)) (wC g ad n ((f_X4_doWithValue kd a σ).2))) := by
  refine Con.of (by decide) (Nat.le_of_ble_eq_true rfl) ?_
  intro x h e1 e2 e3 e4 e5 hr
  subst e1 e2
  have h : Ok x cX4_doWithValue "SafeDesk" (some .int) := h
  have hR : RmOk x 0 0 0 := RmOk.of e3 (Nat.le_refl _) (Nat.le_refl _)
  obtain ⟨out, ho⟩ : ∃ o, f_X4_doWithValue kd a σ = o := ⟨_, rfl⟩
  rw [ho] at hr
  unfold f_X4_doWithValue at ho
  show J x 0 0 _ 0 [(0, .ref (ad 0)), (1, .int kd), (2, .int a)] []
  refine J_iload_n (pc := 0) (n := 1) (i := 1) h 1 rfl rfl dX4_doWithValue_0 ?_
  by_cases c1 : kd = 8
  · replace ho := (if_pos c1).symm.trans ho
    refine J_tabIn (pc := 1) h (8) 28 c1 (by decide) (by decide) rfl (by decide) dX4_doWithValue_1 ?_
    refine J_iload_n (pc := 28) (n := 2) (i := 2) h 2 rfl rfl dX4_doWithValue_28 ?_
    refine J_if_ne (pc := 29) h 35 (by decide) dX4_doWithValue_29 (fun c2 => ?_) (fun c2 => ?_)
    · replace ho := (if_neg c2).symm.trans ho
      refine J_aload_n (pc := 35) (n := 0) (i := 0) h 0 rfl rfl dX4_doWithValue_35 ?_
      refine J_dup (pc := 36) h rfl dX4_doWithValue_36 ?_
      refine J_Dg4 (pc := 37) h (by omega) m_47 (σ 0 4) rfl dX4_doWithValue_37 ?_
      refine J_iload_n (pc := 40) (n := 2) (i := 2) h 2 rfl rfl dX4_doWithValue_40 ?_
      refine J_idiv (pc := 41) h (by assumption) dX4_doWithValue_41 ?_
      refine J_Dp4 (pc := 42) h (by omega) m_47 dX4_doWithValue_42 ?_
      refine J_iconst (pc := 45) h (0) rfl dX4_doWithValue_45 ?_
      exact J_iret (pc := 46) h hr (by subst ho; exact ⟨rfl, rfl⟩) dX4_doWithValue_46
    · replace ho := (if_pos c2).symm.trans ho
      refine J_bipush (pc := 32) h (6) rfl dX4_doWithValue_32 ?_
      exact J_iret (pc := 34) h hr (by subst ho; exact ⟨rfl, rfl⟩) dX4_doWithValue_34
  replace ho := (if_neg c1).symm.trans ho
  by_cases c3 : kd = 9
  · replace ho := (if_pos c3).symm.trans ho
    refine J_tabIn (pc := 1) h (9) 47 c3 (by decide) (by decide) rfl (by decide) dX4_doWithValue_1 ?_
    refine J_iload_n (pc := 47) (n := 2) (i := 2) h 2 rfl rfl dX4_doWithValue_47 ?_
    exact J_iret (pc := 48) h hr (by subst ho; exact ⟨rfl, rfl⟩) dX4_doWithValue_48
  replace ho := (if_neg c3).symm.trans ho
  by_cases c4 : kd = 10
  · replace ho := (if_pos c4).symm.trans ho
    refine J_tabIn (pc := 1) h (10) 49 c4 (by decide) (by decide) rfl (by decide) dX4_doWithValue_1 ?_
    refine J_aload_n (pc := 49) (n := 0) (i := 0) h 0 rfl rfl dX4_doWithValue_49 ?_
    refine J_iload_n (pc := 50) (n := 2) (i := 2) h 2 rfl rfl dX4_doWithValue_50 ?_
    refine J_Dp4 (pc := 51) h (by omega) m_47 dX4_doWithValue_51 ?_
    refine J_iconst (pc := 54) h (-1) rfl dX4_doWithValue_54 ?_
    exact J_iret (pc := 55) h hr (by subst ho; exact ⟨rfl, rfl⟩) dX4_doWithValue_55
  replace ho := (if_neg c4).symm.trans ho
  refine J_tabOut (pc := 1) h 56 (by have zc1 := ne_toI c1 (n := 8) rfl; have zc3 := ne_toI c3 (n := 9) rfl; have zc4 := ne_toI c4 (n := 10) rfl; omega) (by decide) dX4_doWithValue_1 ?_
  refine J_aload_n (pc := 56) (n := 0) (i := 0) h 0 rfl rfl dX4_doWithValue_56 ?_
  refine J_dup (pc := 57) h rfl dX4_doWithValue_57 ?_
  refine J_Dg4 (pc := 58) h (by omega) m_47 (σ 0 4) rfl dX4_doWithValue_58 ?_
  refine J_iload_n (pc := 61) (n := 2) (i := 2) h 2 rfl rfl dX4_doWithValue_61 ?_
  refine J_iadd (pc := 62) h dX4_doWithValue_62 ?_
  refine J_Dp4 (pc := 63) h (by omega) m_47 dX4_doWithValue_63 ?_
  refine J_iconst (pc := 66) h (0) rfl dX4_doWithValue_66 ?_
  exact J_iret (pc := 67) h hr (by subst ho; exact ⟨rfl, rfl⟩) dX4_doWithValue_67
def f_X4_doWithSafe (kd : Int32) (w : Int32) (b : Int32) (σ : Sg) : Int32 × Sg := (if w = -1 then (1, σ) else (if kd = 2 then ((f_vput (28 + w.toNatClampNeg) b σ).1, (f_vput (28 + w.toNatClampNeg) b σ).2) else (if kd = 3 then (0, up2 ((f_vworth (28 + w.toNatClampNeg) σ).2) 0 4 ((f_vworth (28 + w.toNatClampNeg) σ).1)) else (if kd = 4 then ((f_X1_give (28 + w.toNatClampNeg) (σ 0 4) (f_X4_safeIn (f_J9_floorMod_7cf53 b 8) σ) σ).1, (f_X1_give (28 + w.toNatClampNeg) (σ 0 4) (f_X4_safeIn (f_J9_floorMod_7cf53 b 8) σ) σ).2) else (0, up2 σ 0 4 (σ (28 + w.toNatClampNeg) 4))))))
theorem hd_X4_doWithSafe : yX4_doWithSafe.cls ≠ "java/lang/invoke/MethodHandle" ∧ yX4_doWithSafe.cls ≠ "java/lang/invoke/VarHandle" ∧ (parseMethodDescriptor yX4_doWithSafe.desc).map (fun d => d.parameters.length) = some 3 := by decide +kernel
set_option maxHeartbeats 4000000 in
set_option maxRecDepth 20000 in
theorem c_X4_doWithSafe (l : Launch) (g : Gy) (ad : Nat → Nat) (n : Nat) (σ : Sg) (kd : Int32) (w : Int32) (b : Int32) (hN : 28 ≤ n) (hw : w = -1 ∨ 28 + w.toNatClampNeg < n) (hI : RI n σ) : Con l g yX4_doWithSafe cX4_doWithSafe 4 (some .int) (rmL 5) [.ref (ad 0), .int kd, va_rf (rfa ad w), .int b] (wC g ad n σ) (Det (some (.int (f_X4_doWithSafe kd w b σ).1)) (wC g ad n ((f_X4_doWithSafe kd w b σ).2))) := by
  refine Con.of (by decide) (by simp [lg_sl, rf_cat, ref_cat, int_cat]) ?_
  intro x h e1 e2 e3 e4 e5 hr
  subst e1 e2
  have h : Ok x cX4_doWithSafe "SafeDesk" (some .int) := h
  have hR : RmOk x 5 0 0 := RmOk.of e3 (Nat.le_refl _) (Nat.le_refl _)
  obtain ⟨out, ho⟩ : ∃ o, f_X4_doWithSafe kd w b σ = o := ⟨_, rfl⟩
  rw [ho] at hr
  unfold f_X4_doWithSafe at ho
  rw [show lv_args 0 [.ref (ad 0), .int kd, va_rf (rfa ad w), .int b] = [(0, .ref (ad 0)), (1, .int kd), (2, va_rf (rfa ad w)), (3, .int b)] from by simp [lv_args, rf_cat, ref_cat, int_cat]]
  refine J_aload_nq (pc := 0) (n := 2) (i := 2) h 2 rfl rfl dX4_doWithSafe_0 ?_
  refine J_ifnonnullr (pc := 1) h 6 (by decide) dX4_doWithSafe_1 (fun c1 => ?_) (fun c1 => ?_)
  · replace ho := (if_neg c1).symm.trans ho
    rw [rfa_ne c1]
    refine J_iload_n (pc := 6) (n := 1) (i := 1) h 1 rfl rfl dX4_doWithSafe_6 ?_
    by_cases c2 : kd = 2
    · replace ho := (if_pos c2).symm.trans ho
      refine J_tabIn (pc := 7) h (2) 32 c2 (by decide) (by decide) rfl (by decide) dX4_doWithSafe_7 ?_
      refine J_aload_n (pc := 32) (n := 2) (i := 2) h 2 rfl rfl dX4_doWithSafe_32 ?_
      refine J_iload_n (pc := 33) (n := 3) (i := 3) h 3 rfl rfl dX4_doWithSafe_33 ?_
      refine J_cO (pc := 34) (z := yX1_put) (r0 := some (.int (f_vput (28 + w.toNatClampNeg) b σ).1)) (w0 := wC (xG x) ad n (f_vput (28 + w.toNatClampNeg) b σ).2) h hR (Nat.le_add_right _ _) (hw.resolve_left (by assumption)) ⟨by decide, by decide, by decide⟩ (fun qa => cv_X1_put _ _ ad n σ (28 + w.toNatClampNeg) b (Nat.le_add_right _ _) (hw.resolve_left (by assumption)) qa) (fun qa => cv_X2_put _ _ ad n σ (28 + w.toNatClampNeg) b (Nat.le_add_right _ _) (hw.resolve_left (by assumption)) qa) (fun qa qb => cv_X3_put _ _ ad n σ (28 + w.toNatClampNeg) b (Nat.le_add_right _ _) (hw.resolve_left (by assumption)) qa qb) ⟨by decide, by decide, by decide⟩ m_253 m_256 rfl rfl ⟨rfl, rfl, rfl⟩ m_255 m_257 m_271 m_254 m_258 m_272 m_281 m_259 m_273 hd_X1_put rfl rfl (Nat.le_of_ble_eq_true rfl) [.int ((f_vput (28 + w.toNatClampNeg) b σ).1)] rfl dX4_doWithSafe_34 ?_
      exact J_iret (pc := 37) h hr (by subst ho; exact ⟨rfl, rfl⟩) dX4_doWithSafe_37
    replace ho := (if_neg c2).symm.trans ho
    by_cases c3 : kd = 3
    · replace ho := (if_pos c3).symm.trans ho
      refine J_tabIn (pc := 7) h (3) 57 c3 (by decide) (by decide) rfl (by decide) dX4_doWithSafe_7 ?_
      refine J_aload_n (pc := 57) (n := 0) (i := 0) h 0 rfl rfl dX4_doWithSafe_57 ?_
      refine J_aload_n (pc := 58) (n := 2) (i := 2) h 2 rfl rfl dX4_doWithSafe_58 ?_
      refine J_cO (pc := 59) (z := yX1_worth) (r0 := some (.int (f_vworth (28 + w.toNatClampNeg) σ).1)) (w0 := wC (xG x) ad n (f_vworth (28 + w.toNatClampNeg) σ).2) h hR (Nat.le_add_right _ _) (hw.resolve_left (by assumption)) ⟨by decide, by decide, by decide⟩ (fun qa => cv_X1_worth _ _ ad n σ (28 + w.toNatClampNeg)  (Nat.le_add_right _ _) (hw.resolve_left (by assumption)) qa) (fun qa => cv_X2_worth _ _ ad n σ (28 + w.toNatClampNeg)  (Nat.le_add_right _ _) (hw.resolve_left (by assumption)) qa) (fun qa qb => cv_X3_worth _ _ ad n σ (28 + w.toNatClampNeg)  (Nat.le_add_right _ _) (hw.resolve_left (by assumption)) qa qb) ⟨by decide, by decide, by decide⟩ m_293 m_296 rfl rfl ⟨rfl, rfl, rfl⟩ m_295 m_297 m_301 m_294 m_298 m_302 m_305 m_299 m_303 hd_X1_worth rfl rfl (Nat.le_of_ble_eq_true rfl) [.int ((f_vworth (28 + w.toNatClampNeg) σ).1), .ref (ad 0)] rfl dX4_doWithSafe_59 ?_
      refine J_Dp4 (pc := 62) h (by omega) m_47 dX4_doWithSafe_62 ?_
      refine J_iconst (pc := 65) h (0) rfl dX4_doWithSafe_65 ?_
      exact J_iret (pc := 66) h hr (by subst ho; exact ⟨rfl, rfl⟩) dX4_doWithSafe_66
    replace ho := (if_neg c3).symm.trans ho
    by_cases c4 : kd = 4
    · replace ho := (if_pos c4).symm.trans ho
      refine J_tabIn (pc := 7) h (4) 38 c4 (by decide) (by decide) rfl (by decide) dX4_doWithSafe_7 ?_
      refine J_aload_n (pc := 38) (n := 2) (i := 2) h 2 rfl rfl dX4_doWithSafe_38 ?_
      refine J_aload_n (pc := 39) (n := 0) (i := 0) h 0 rfl rfl dX4_doWithSafe_39 ?_
      refine J_Dg4 (pc := 40) h (by omega) m_47 (σ 0 4) rfl dX4_doWithSafe_40 ?_
      refine J_aload_n (pc := 43) (n := 0) (i := 0) h 0 rfl rfl dX4_doWithSafe_43 ?_
      refine J_iload_n (pc := 44) (n := 3) (i := 3) h 3 rfl rfl dX4_doWithSafe_44 ?_
      refine J_bipush (pc := 45) h (8) rfl dX4_doWithSafe_45 ?_
      refine J_cS (pc := 47) h hR (by decide) (c_J9_floorMod_7cf53 _ _ _ b 8 (by decide)) (by decide) m_238 m_239 m_7 m_240 hd_J9_floorMod_7cf53 rfl rfl (Nat.le_of_ble_eq_true rfl) [.int (f_J9_floorMod_7cf53 b 8), .ref (ad 0), .int (σ 0 4), .ref (ad (28 + w.toNatClampNeg))] rfl dX4_doWithSafe_47 ?_
      refine J_cD (pc := 50) h hR (by decide) (c_X4_safeIn _ _ ad n σ (f_J9_floorMod_7cf53 b 8) hN ) (by decide) m_204 m_206 ms_4 m_207 ⟨rfl, hd_X4_safeIn⟩ (by omega) rfl rfl (Nat.le_of_ble_eq_true rfl) [va_rf (rfa ad (f_X4_safeIn (f_J9_floorMod_7cf53 b 8) σ)), .int (σ 0 4), .ref (ad (28 + w.toNatClampNeg))] rfl dX4_doWithSafe_50 ?_
      refine J_cU (pc := 53) (z := ⟨"SafeDesk$Safe", "give", "(ILSafeDesk$Safe;)I"⟩) h hR (Nat.le_add_right _ _) (hw.resolve_left (by assumption)) (by decide) (c_X1_give _ _ ad n σ (28 + w.toNatClampNeg) (σ 0 4) (f_X4_safeIn (f_J9_floorMod_7cf53 b 8) σ) (Nat.le_add_right _ _) (hw.resolve_left (by assumption)) (safeIn_ok hI _)) (by decide) m_285 m_288 (Sels.of3 m_287 m_289 m_290) m_286 m_291 rfl hd_X1_give rfl rfl (Nat.le_of_ble_eq_true rfl) [.int ((f_X1_give (28 + w.toNatClampNeg) (σ 0 4) (f_X4_safeIn (f_J9_floorMod_7cf53 b 8) σ) σ).1)] rfl dX4_doWithSafe_53 ?_
      exact J_iret (pc := 56) h hr (by subst ho; exact ⟨rfl, rfl⟩) dX4_doWithSafe_56
    replace ho := (if_neg c4).symm.trans ho
    refine J_tabOut (pc := 7) h 67 (by have zc2 := ne_toI c2 (n := 2) rfl; have zc3 := ne_toI c3 (n := 3) rfl; have zc4 := ne_toI c4 (n := 4) rfl; omega) (by decide) dX4_doWithSafe_7 ?_
    refine J_aload_n (pc := 67) (n := 0) (i := 0) h 0 rfl rfl dX4_doWithSafe_67 ?_
    refine J_aload_n (pc := 68) (n := 2) (i := 2) h 2 rfl rfl dX4_doWithSafe_68 ?_
    refine J_Sg4 (pc := 69) h (Nat.le_add_right _ _) (hw.resolve_left (by assumption)) m_104 (fun _ q => q) (σ (28 + w.toNatClampNeg) 4) rfl dX4_doWithSafe_69 ?_
    refine J_Dp4 (pc := 72) h (by omega) m_47 dX4_doWithSafe_72 ?_
    refine J_iconst (pc := 75) h (0) rfl dX4_doWithSafe_75 ?_
    exact J_iret (pc := 76) h hr (by subst ho; exact ⟨rfl, rfl⟩) dX4_doWithSafe_76
  · replace ho := (if_pos c1).symm.trans ho
    refine J_iconst (pc := 4) h (1) rfl dX4_doWithSafe_4 ?_
    exact J_iret (pc := 5) h hr (by subst ho; exact ⟨rfl, rfl⟩) dX4_doWithSafe_5
def f_X4_share (a : Int32) (b : Int32) (σ : Sg) : Int32 × Sg := (if f_X4_isRoom a = 0 then ((-1), σ) else (if f_X4_isRoom b = 0 then ((-1), σ) else (if σ 1 a.toNatClampNeg = -1 then (0, up2 σ 1 b.toNatClampNeg (σ 1 a.toNatClampNeg)) else (1, up2 σ 1 b.toNatClampNeg (σ 1 a.toNatClampNeg)))))
theorem hd_X4_share : yX4_share.cls ≠ "java/lang/invoke/MethodHandle" ∧ yX4_share.cls ≠ "java/lang/invoke/VarHandle" ∧ (parseMethodDescriptor yX4_share.desc).map (fun d => d.parameters.length) = some 2 := by decide +kernel
set_option maxHeartbeats 4000000 in
set_option maxRecDepth 20000 in
theorem c_X4_share (l : Launch) (g : Gy) (ad : Nat → Nat) (n : Nat) (σ : Sg) (a : Int32) (b : Int32) (hN : 28 ≤ n) (hI : RI n σ) : Con l g yX4_share cX4_share 3 (some .int) (rmL 1) [.ref (ad 0), .int a, .int b] (wC g ad n σ) (Det (some (.int (f_X4_share a b σ).1)) (wC g ad n ((f_X4_share a b σ).2))) := by
  refine Con.of (by decide) (Nat.le_of_ble_eq_true rfl) ?_
  intro x h e1 e2 e3 e4 e5 hr
  subst e1 e2
  have h : Ok x cX4_share "SafeDesk" (some .int) := h
  have hR : RmOk x 1 0 0 := RmOk.of e3 (Nat.le_refl _) (Nat.le_refl _)
  obtain ⟨out, ho⟩ : ∃ o, f_X4_share a b σ = o := ⟨_, rfl⟩
  rw [ho] at hr
  unfold f_X4_share at ho
  show J x 0 0 _ 0 [(0, .ref (ad 0)), (1, .int a), (2, .int b)] []
  refine J_iload_n (pc := 0) (n := 1) (i := 1) h 1 rfl rfl dX4_share_0 ?_
  refine J_cS (pc := 1) h hR (by decide) (c_X4_isRoom _ _ _ a ) (by decide) m_75 m_76 m_1 m_77 hd_X4_isRoom rfl rfl (Nat.le_of_ble_eq_true rfl) [.int (f_X4_isRoom a)] rfl dX4_share_1 ?_
  refine J_if_eq (pc := 4) h 14 (by decide) dX4_share_4 (fun c1 => ?_) (fun c1 => ?_)
  · replace ho := (if_pos c1).symm.trans ho
    refine J_iconst (pc := 14) h (-1) rfl dX4_share_14 ?_
    exact J_iret (pc := 15) h hr (by subst ho; exact ⟨rfl, rfl⟩) dX4_share_15
  · replace ho := (if_neg c1).symm.trans ho
    refine J_iload_n (pc := 7) (n := 2) (i := 2) h 2 rfl rfl dX4_share_7 ?_
    refine J_cS (pc := 8) h hR (by decide) (c_X4_isRoom _ _ _ b ) (by decide) m_75 m_76 m_1 m_77 hd_X4_isRoom rfl rfl (Nat.le_of_ble_eq_true rfl) [.int (f_X4_isRoom b)] rfl dX4_share_8 ?_
    refine J_if_ne (pc := 11) h 16 (by decide) dX4_share_11 (fun c2 => ?_) (fun c2 => ?_)
    · replace ho := (if_neg c2).symm.trans ho
      refine J_aload_n (pc := 16) (n := 0) (i := 0) h 0 rfl rfl dX4_share_16 ?_
      refine J_Dr0 (pc := 17) h (by omega) m_43 dX4_share_17 ?_
      refine J_iload_n (pc := 20) (n := 2) (i := 2) h 2 rfl rfl dX4_share_20 ?_
      refine J_aload_n (pc := 21) (n := 0) (i := 0) h 0 rfl rfl dX4_share_21 ?_
      refine J_Dr0 (pc := 22) h (by omega) m_43 dX4_share_22 ?_
      refine J_iload_n (pc := 25) (n := 1) (i := 1) h 1 rfl rfl dX4_share_25 ?_
      refine J_Ra (pc := 26) h (by omega) (isRoom_in (by assumption)) (σ 1 a.toNatClampNeg) rfl dX4_share_26 ?_
      refine J_Rs (pc := 27) h (by omega) (isRoom_in (by assumption)) (hI _ (vp_lt (isRoom_in (by assumption)))) dX4_share_27 ?_
      refine J_aload_n (pc := 28) (n := 0) (i := 0) h 0 rfl rfl dX4_share_28 ?_
      refine J_Dr0 (pc := 29) h (by omega) m_43 dX4_share_29 ?_
      refine J_iload_n (pc := 32) (n := 2) (i := 2) h 2 rfl rfl dX4_share_32 ?_
      refine J_Ra (pc := 33) h (by omega) (isRoom_in (by assumption)) (σ 1 a.toNatClampNeg) (up2_self _ _ _ _) dX4_share_33 ?_
      refine J_ifnonnullr (pc := 34) h 41 (by decide) dX4_share_34 (fun c3 => ?_) (fun c3 => ?_)
      · replace ho := (if_neg c3).symm.trans ho
        refine J_iconst (pc := 41) h (1) rfl dX4_share_41 ?_
        exact J_iret (pc := 42) h hr (by subst ho; exact ⟨rfl, rfl⟩) dX4_share_42
      · replace ho := (if_pos c3).symm.trans ho
        refine J_iconst (pc := 37) h (0) rfl dX4_share_37 ?_
        refine J_goto (pc := 38) h 42 (by decide) dX4_share_38 ?_
        exact J_iret (pc := 42) h hr (by subst ho; exact ⟨rfl, rfl⟩) dX4_share_42
    · replace ho := (if_pos c2).symm.trans ho
      refine J_iconst (pc := 14) h (-1) rfl dX4_share_14 ?_
      exact J_iret (pc := 15) h hr (by subst ho; exact ⟨rfl, rfl⟩) dX4_share_15
def f_X4_same (ad : Nat → Nat) (a : Int32) (b : Int32) (σ : Sg) : Int32 := (if f_X4_isRoom a = 0 then (-1) else (if f_X4_isRoom b = 0 then (-1) else (if rfa ad (σ 1 a.toNatClampNeg) = rfa ad (σ 1 b.toNatClampNeg) then 1 else 0)))
theorem hd_X4_same : yX4_same.cls ≠ "java/lang/invoke/MethodHandle" ∧ yX4_same.cls ≠ "java/lang/invoke/VarHandle" ∧ (parseMethodDescriptor yX4_same.desc).map (fun d => d.parameters.length) = some 2 := by decide +kernel
set_option maxHeartbeats 4000000 in
set_option maxRecDepth 20000 in
theorem c_X4_same (l : Launch) (g : Gy) (ad : Nat → Nat) (n : Nat) (σ : Sg) (a : Int32) (b : Int32) (hN : 28 ≤ n) : Con l g yX4_same cX4_same 3 (some .int) (rmL 1) [.ref (ad 0), .int a, .int b] (wC g ad n σ) (Det (some (.int (f_X4_same ad a b σ))) (wC g ad n σ)) := by
  refine Con.of (by decide) (Nat.le_of_ble_eq_true rfl) ?_
  intro x h e1 e2 e3 e4 e5 hr
  subst e1 e2
  have h : Ok x cX4_same "SafeDesk" (some .int) := h
  have hR : RmOk x 1 0 0 := RmOk.of e3 (Nat.le_refl _) (Nat.le_refl _)
  obtain ⟨out, ho⟩ : ∃ o, f_X4_same ad a b σ = o := ⟨_, rfl⟩
  rw [ho] at hr
  unfold f_X4_same at ho
  show J x 0 0 _ 0 [(0, .ref (ad 0)), (1, .int a), (2, .int b)] []
  refine J_iload_n (pc := 0) (n := 1) (i := 1) h 1 rfl rfl dX4_same_0 ?_
  refine J_cS (pc := 1) h hR (by decide) (c_X4_isRoom _ _ _ a ) (by decide) m_75 m_76 m_1 m_77 hd_X4_isRoom rfl rfl (Nat.le_of_ble_eq_true rfl) [.int (f_X4_isRoom a)] rfl dX4_same_1 ?_
  refine J_if_eq (pc := 4) h 14 (by decide) dX4_same_4 (fun c1 => ?_) (fun c1 => ?_)
  · replace ho := (if_pos c1).symm.trans ho
    refine J_iconst (pc := 14) h (-1) rfl dX4_same_14 ?_
    exact J_iret (pc := 15) h hr (by subst ho; exact ⟨rfl, rfl⟩) dX4_same_15
  · replace ho := (if_neg c1).symm.trans ho
    refine J_iload_n (pc := 7) (n := 2) (i := 2) h 2 rfl rfl dX4_same_7 ?_
    refine J_cS (pc := 8) h hR (by decide) (c_X4_isRoom _ _ _ b ) (by decide) m_75 m_76 m_1 m_77 hd_X4_isRoom rfl rfl (Nat.le_of_ble_eq_true rfl) [.int (f_X4_isRoom b)] rfl dX4_same_8 ?_
    refine J_if_ne (pc := 11) h 16 (by decide) dX4_same_11 (fun c2 => ?_) (fun c2 => ?_)
    · replace ho := (if_neg c2).symm.trans ho
      refine J_aload_n (pc := 16) (n := 0) (i := 0) h 0 rfl rfl dX4_same_16 ?_
      refine J_Dr0 (pc := 17) h (by omega) m_43 dX4_same_17 ?_
      refine J_iload_n (pc := 20) (n := 1) (i := 1) h 1 rfl rfl dX4_same_20 ?_
      refine J_Ra (pc := 21) h (by omega) (isRoom_in (by assumption)) (σ 1 a.toNatClampNeg) rfl dX4_same_21 ?_
      refine J_aload_n (pc := 22) (n := 0) (i := 0) h 0 rfl rfl dX4_same_22 ?_
      refine J_Dr0 (pc := 23) h (by omega) m_43 dX4_same_23 ?_
      refine J_iload_n (pc := 26) (n := 2) (i := 2) h 2 rfl rfl dX4_same_26 ?_
      refine J_Ra (pc := 27) h (by omega) (isRoom_in (by assumption)) (σ 1 b.toNatClampNeg) rfl dX4_same_27 ?_
      refine J_acmp_ne (pc := 28) h 35 (by decide) dX4_same_28 (fun c3 => ?_) (fun c3 => ?_)
      · replace ho := (if_neg c3).symm.trans ho
        refine J_iconst (pc := 35) h (0) rfl dX4_same_35 ?_
        exact J_iret (pc := 36) h hr (by subst ho; exact ⟨rfl, rfl⟩) dX4_same_36
      · replace ho := (if_pos c3).symm.trans ho
        refine J_iconst (pc := 31) h (1) rfl dX4_same_31 ?_
        refine J_goto (pc := 32) h 36 (by decide) dX4_same_32 ?_
        exact J_iret (pc := 36) h hr (by subst ho; exact ⟨rfl, rfl⟩) dX4_same_36
    · replace ho := (if_pos c2).symm.trans ho
      refine J_iconst (pc := 14) h (-1) rfl dX4_same_14 ?_
      exact J_iret (pc := 15) h hr (by subst ho; exact ⟨rfl, rfl⟩) dX4_same_15
def f_X4_step (pl : Int32) (kd : Int32) (a : Int32) (b : Int32) (σ : Sg) : Int32 × Sg := (if f_X4_isPlan pl = 0 then ((-1), σ) else (if f_X4_isStep kd a b = 0 then ((-1), σ) else (if σ (4 + pl.toNatClampNeg) 3 < 12 then ((f_X0_add pl.toNatClampNeg kd a b σ) (4 + pl.toNatClampNeg) 3, f_X0_add pl.toNatClampNeg kd a b σ) else ((-2), σ))))
theorem hd_X4_step : yX4_step.cls ≠ "java/lang/invoke/MethodHandle" ∧ yX4_step.cls ≠ "java/lang/invoke/VarHandle" ∧ (parseMethodDescriptor yX4_step.desc).map (fun d => d.parameters.length) = some 4 := by decide +kernel
set_option maxHeartbeats 4000000 in
set_option maxRecDepth 20000 in
theorem c_X4_step (l : Launch) (g : Gy) (ad : Nat → Nat) (n : Nat) (σ : Sg) (pl : Int32) (kd : Int32) (a : Int32) (b : Int32) (hN : 28 ≤ n) (hs : ∀ p : Nat, p < 6 → ¬ σ (4 + p) 3 < 0) : Con l g yX4_step cX4_step 6 (some .int) (rmL 3) [.ref (ad 0), .int pl, .int kd, .int a, .int b] (wC g ad n σ) (Det (some (.int (f_X4_step pl kd a b σ).1)) (wC g ad n ((f_X4_step pl kd a b σ).2))) := by
  refine Con.of (by decide) (Nat.le_of_ble_eq_true rfl) ?_
  intro x h e1 e2 e3 e4 e5 hr
  subst e1 e2
  have h : Ok x cX4_step "SafeDesk" (some .int) := h
  have hR : RmOk x 3 0 0 := RmOk.of e3 (Nat.le_refl _) (Nat.le_refl _)
  obtain ⟨out, ho⟩ : ∃ o, f_X4_step pl kd a b σ = o := ⟨_, rfl⟩
  rw [ho] at hr
  unfold f_X4_step at ho
  show J x 0 0 _ 0 [(0, .ref (ad 0)), (1, .int pl), (2, .int kd), (3, .int a), (4, .int b)] []
  refine J_iload_n (pc := 0) (n := 1) (i := 1) h 1 rfl rfl dX4_step_0 ?_
  refine J_cS (pc := 1) h hR (by decide) (c_X4_isPlan _ _ _ pl ) (by decide) m_151 m_152 m_1 m_153 hd_X4_isPlan rfl rfl (Nat.le_of_ble_eq_true rfl) [.int (f_X4_isPlan pl)] rfl dX4_step_1 ?_
  refine J_if_eq (pc := 4) h 17 (by decide) dX4_step_4 (fun c1 => ?_) (fun c1 => ?_)
  · replace ho := (if_pos c1).symm.trans ho
    refine J_iconst (pc := 17) h (-1) rfl dX4_step_17 ?_
    exact J_iret (pc := 18) h hr (by subst ho; exact ⟨rfl, rfl⟩) dX4_step_18
  · replace ho := (if_neg c1).symm.trans ho
    refine J_iload_n (pc := 7) (n := 2) (i := 2) h 2 rfl rfl dX4_step_7 ?_
    refine J_iload_n (pc := 8) (n := 3) (i := 3) h 3 rfl rfl dX4_step_8 ?_
    refine J_iload (pc := 9) h 4 rfl dX4_step_9 ?_
    refine J_cS (pc := 11) h hR (by decide) (c_X4_isStep _ _ _ kd a b ) (by decide) m_154 m_155 m_1 m_156 hd_X4_isStep rfl rfl (Nat.le_of_ble_eq_true rfl) [.int (f_X4_isStep kd a b)] rfl dX4_step_11 ?_
    refine J_if_ne (pc := 14) h 19 (by decide) dX4_step_14 (fun c2 => ?_) (fun c2 => ?_)
    · replace ho := (if_neg c2).symm.trans ho
      refine J_aload_n (pc := 19) (n := 0) (i := 0) h 0 rfl rfl dX4_step_19 ?_
      refine J_Dr1 (pc := 20) h (by omega) m_44 dX4_step_20 ?_
      refine J_iload_n (pc := 23) (n := 1) (i := 1) h 1 rfl rfl dX4_step_23 ?_
      refine J_Pa (pc := 24) h (by omega) (isPlan_in (by assumption)) dX4_step_24 ?_
      refine J_astore (pc := 25) h [(5, .ref (ad (4 + pl.toNatClampNeg))), (0, .ref (ad 0)), (1, .int pl), (2, .int kd), (3, .int a), (4, .int b)] (by rw [e4]; decide) rfl dX4_step_25 ?_
      refine J_aload (pc := 27) h 0 rfl dX4_step_27 ?_
      refine J_Pz (pc := 29) h (isPlan_lt (by assumption)) (by omega) m_32 (σ (4 + pl.toNatClampNeg) 3) rfl dX4_step_29 ?_
      refine J_bipush (pc := 32) h (12) rfl dX4_step_32 ?_
      refine J_icmp_lt (pc := 34) h 40 (by decide) dX4_step_34 (fun c3 => ?_) (fun c3 => ?_)
      · replace ho := (if_pos c3).symm.trans ho
        refine J_aload (pc := 40) h 0 rfl dX4_step_40 ?_
        refine J_iload_n (pc := 42) (n := 2) (i := 2) h 3 rfl rfl dX4_step_42 ?_
        refine J_iload_n (pc := 43) (n := 3) (i := 3) h 4 rfl rfl dX4_step_43 ?_
        refine J_iload (pc := 44) h 5 rfl dX4_step_44 ?_
        refine J_cP (pc := 46) h hR (isPlan_lt (by assumption)) (by decide) (c_X0_add _ _ ad n σ pl.toNatClampNeg kd a b (isPlan_lt (by assumption)) hN (hs _ (isPlan_lt (by assumption)))) (by decide) m_166 m_167 m_168 m_169 ⟨rfl, hd_X0_add⟩ (by omega) rfl rfl (Nat.le_of_ble_eq_true rfl) [] rfl dX4_step_46 ?_
        refine J_aload (pc := 49) h 0 rfl dX4_step_49 ?_
        refine J_Pz (pc := 51) h (isPlan_lt (by assumption)) (by omega) m_32 ((f_X0_add pl.toNatClampNeg kd a b σ) (4 + pl.toNatClampNeg) 3) rfl dX4_step_51 ?_
        exact J_iret (pc := 54) h hr (by subst ho; exact ⟨rfl, rfl⟩) dX4_step_54
      · replace ho := (if_neg c3).symm.trans ho
        refine J_bipush (pc := 37) h (-2) rfl dX4_step_37 ?_
        exact J_iret (pc := 39) h hr (by subst ho; exact ⟨rfl, rfl⟩) dX4_step_39
    · replace ho := (if_pos c2).symm.trans ho
      refine J_iconst (pc := 17) h (-1) rfl dX4_step_17 ?_
      exact J_iret (pc := 18) h hr (by subst ho; exact ⟨rfl, rfl⟩) dX4_step_18
def f_X4_clear (pl : Int32) (σ : Sg) : Int32 × Sg := (if f_X4_isPlan pl = 0 then ((-1), σ) else (σ (4 + pl.toNatClampNeg) 3, up2 σ (4 + pl.toNatClampNeg) 3 0))
theorem hd_X4_clear : yX4_clear.cls ≠ "java/lang/invoke/MethodHandle" ∧ yX4_clear.cls ≠ "java/lang/invoke/VarHandle" ∧ (parseMethodDescriptor yX4_clear.desc).map (fun d => d.parameters.length) = some 1 := by decide +kernel
set_option maxHeartbeats 4000000 in
set_option maxRecDepth 20000 in
theorem c_X4_clear (l : Launch) (g : Gy) (ad : Nat → Nat) (n : Nat) (σ : Sg) (pl : Int32) (hN : 28 ≤ n) : Con l g yX4_clear cX4_clear 3 (some .int) (rmL 1) [.ref (ad 0), .int pl] (wC g ad n σ) (Det (some (.int (f_X4_clear pl σ).1)) (wC g ad n ((f_X4_clear pl σ).2))) := by
  refine Con.of (by decide) (Nat.le_of_ble_eq_true rfl) ?_
  intro x h e1 e2 e3 e4 e5 hr
  subst e1 e2
  have h : Ok x cX4_clear "SafeDesk" (some .int) := h
  have hR : RmOk x 1 0 0 := RmOk.of e3 (Nat.le_refl _) (Nat.le_refl _)
  obtain ⟨out, ho⟩ : ∃ o, f_X4_clear pl σ = o := ⟨_, rfl⟩
  rw [ho] at hr
  unfold f_X4_clear at ho
  show J x 0 0 _ 0 [(0, .ref (ad 0)), (1, .int pl)] []
  refine J_iload_n (pc := 0) (n := 1) (i := 1) h 1 rfl rfl dX4_clear_0 ?_
  refine J_cS (pc := 1) h hR (by decide) (c_X4_isPlan _ _ _ pl ) (by decide) m_151 m_152 m_1 m_153 hd_X4_isPlan rfl rfl (Nat.le_of_ble_eq_true rfl) [.int (f_X4_isPlan pl)] rfl dX4_clear_1 ?_
  refine J_if_ne (pc := 4) h 9 (by decide) dX4_clear_4 (fun c1 => ?_) (fun c1 => ?_)
  · replace ho := (if_neg c1).symm.trans ho
    refine J_aload_n (pc := 9) (n := 0) (i := 0) h 0 rfl rfl dX4_clear_9 ?_
    refine J_Dr1 (pc := 10) h (by omega) m_44 dX4_clear_10 ?_
    refine J_iload_n (pc := 13) (n := 1) (i := 1) h 1 rfl rfl dX4_clear_13 ?_
    refine J_Pa (pc := 14) h (by omega) (isPlan_in (by assumption)) dX4_clear_14 ?_
    refine J_Pz (pc := 15) h (isPlan_lt (by assumption)) (by omega) m_32 (σ (4 + pl.toNatClampNeg) 3) rfl dX4_clear_15 ?_
    refine J_istore_n (pc := 18) (n := 2) (i := 2) h [(2, .int (σ (4 + pl.toNatClampNeg) 3)), (0, .ref (ad 0)), (1, .int pl)] rfl (by rw [e4]; decide) rfl dX4_clear_18 ?_
    refine J_aload_n (pc := 19) (n := 0) (i := 0) h 1 rfl rfl dX4_clear_19 ?_
    refine J_Dr1 (pc := 20) h (by omega) m_44 dX4_clear_20 ?_
    refine J_iload_n (pc := 23) (n := 1) (i := 1) h 2 rfl rfl dX4_clear_23 ?_
    refine J_Pa (pc := 24) h (by omega) (isPlan_in (by assumption)) dX4_clear_24 ?_
    refine J_iconst (pc := 25) h (0) rfl dX4_clear_25 ?_
    refine J_Pzp (pc := 26) h (isPlan_lt (by assumption)) (by omega) m_32 dX4_clear_26 ?_
    refine J_iload_n (pc := 29) (n := 2) (i := 2) h 0 rfl rfl dX4_clear_29 ?_
    exact J_iret (pc := 30) h hr (by subst ho; exact ⟨rfl, rfl⟩) dX4_clear_30
  · replace ho := (if_pos c1).symm.trans ho
    refine J_iconst (pc := 7) h (-1) rfl dX4_clear_7 ?_
    exact J_iret (pc := 8) h hr (by subst ho; exact ⟨rfl, rfl⟩) dX4_clear_8
def f_X4_value  (σ : Sg) : Int32 := (σ 0 4)
theorem hd_X4_value : yX4_value.cls ≠ "java/lang/invoke/MethodHandle" ∧ yX4_value.cls ≠ "java/lang/invoke/VarHandle" ∧ (parseMethodDescriptor yX4_value.desc).map (fun d => d.parameters.length) = some 0 := by decide +kernel
set_option maxHeartbeats 4000000 in
set_option maxRecDepth 20000 in
theorem c_X4_value (l : Launch) (g : Gy) (ad : Nat → Nat) (n : Nat) (σ : Sg)  (hN : 28 ≤ n) : Con l g yX4_value cX4_value 1 (some .int) (rmL 0) [.ref (ad 0)] (wC g ad n σ) (Det (some (.int (f_X4_value  σ))) (wC g ad n σ)) := by
  refine Con.of (by decide) (Nat.le_of_ble_eq_true rfl) ?_
  intro x h e1 e2 e3 e4 e5 hr
  subst e1 e2
  have h : Ok x cX4_value "SafeDesk" (some .int) := h
  have hR : RmOk x 0 0 0 := RmOk.of e3 (Nat.le_refl _) (Nat.le_refl _)
  obtain ⟨out, ho⟩ : ∃ o, f_X4_value  σ = o := ⟨_, rfl⟩
  rw [ho] at hr
  unfold f_X4_value at ho
  show J x 0 0 _ 0 [(0, .ref (ad 0))] []
  refine J_aload_n (pc := 0) (n := 0) (i := 0) h 0 rfl rfl dX4_value_0 ?_
  refine J_Dg4 (pc := 1) h (by omega) m_47 (σ 0 4) rfl dX4_value_1 ?_
  exact J_iret (pc := 4) h hr (by subst ho; exact ⟨rfl, rfl⟩) dX4_value_4
def f_X4_trace (a : Int32) (σ : Sg) : Int32 := (if a = (-1) then (σ 0 3) else (if a < 0 then (-1) else (if σ 0 3 ≤ a then (-1) else (σ 3 a.toNatClampNeg))))
theorem hd_X4_trace : yX4_trace.cls ≠ "java/lang/invoke/MethodHandle" ∧ yX4_trace.cls ≠ "java/lang/invoke/VarHandle" ∧ (parseMethodDescriptor yX4_trace.desc).map (fun d => d.parameters.length) = some 1 := by decide +kernel
set_option maxHeartbeats 4000000 in
set_option maxRecDepth 20000 in
theorem c_X4_trace (l : Launch) (g : Gy) (ad : Nat → Nat) (n : Nat) (σ : Sg) (a : Int32) (hN : 28 ≤ n) (ht : σ 0 3 ≤ 120) : Con l g yX4_trace cX4_trace 2 (some .int) (rmL 0) [.ref (ad 0), .int a] (wC g ad n σ) (Det (some (.int (f_X4_trace a σ))) (wC g ad n σ)) := by
  refine Con.of (by decide) (Nat.le_of_ble_eq_true rfl) ?_
  intro x h e1 e2 e3 e4 e5 hr
  subst e1 e2
  have h : Ok x cX4_trace "SafeDesk" (some .int) := h
  have hR : RmOk x 0 0 0 := RmOk.of e3 (Nat.le_refl _) (Nat.le_refl _)
  obtain ⟨out, ho⟩ : ∃ o, f_X4_trace a σ = o := ⟨_, rfl⟩
  rw [ho] at hr
  unfold f_X4_trace at ho
  show J x 0 0 _ 0 [(0, .ref (ad 0)), (1, .int a)] []
  refine J_iload_n (pc := 0) (n := 1) (i := 1) h 1 rfl rfl dX4_trace_0 ?_
  refine J_iconst (pc := 1) h (-1) rfl dX4_trace_1 ?_
  refine J_icmp_ne (pc := 2) h 10 (by decide) dX4_trace_2 (fun c1 => ?_) (fun c1 => ?_)
  · replace ho := (if_neg c1).symm.trans ho
    refine J_iload_n (pc := 10) (n := 1) (i := 1) h 1 rfl rfl dX4_trace_10 ?_
    refine J_if_lt (pc := 11) h 31 (by decide) dX4_trace_11 (fun c2 => ?_) (fun c2 => ?_)
    · replace ho := (if_pos c2).symm.trans ho
      refine J_iconst (pc := 31) h (-1) rfl dX4_trace_31 ?_
      exact J_iret (pc := 32) h hr (by subst ho; exact ⟨rfl, rfl⟩) dX4_trace_32
    · replace ho := (if_neg c2).symm.trans ho
      refine J_iload_n (pc := 14) (n := 1) (i := 1) h 1 rfl rfl dX4_trace_14 ?_
      refine J_aload_n (pc := 15) (n := 0) (i := 0) h 0 rfl rfl dX4_trace_15 ?_
      refine J_Dg3 (pc := 16) h (by omega) m_46 (σ 0 3) rfl dX4_trace_16 ?_
      refine J_icmp_ge (pc := 19) h 31 (by decide) dX4_trace_19 (fun c3 => ?_) (fun c3 => ?_)
      · replace ho := (if_pos c3).symm.trans ho
        refine J_iconst (pc := 31) h (-1) rfl dX4_trace_31 ?_
        exact J_iret (pc := 32) h hr (by subst ho; exact ⟨rfl, rfl⟩) dX4_trace_32
      · replace ho := (if_neg c3).symm.trans ho
        refine J_aload_n (pc := 22) (n := 0) (i := 0) h 0 rfl rfl dX4_trace_22 ?_
        refine J_Dr2 (pc := 23) h (by omega) m_45 dX4_trace_23 ?_
        refine J_iload_n (pc := 26) (n := 1) (i := 1) h 1 rfl rfl dX4_trace_26 ?_
        refine J_Ta (pc := 27) h (by omega) (tr_in (by assumption) (by assumption) ht) (σ 3 a.toNatClampNeg) rfl dX4_trace_27 ?_
        refine J_goto (pc := 28) h 32 (by decide) dX4_trace_28 ?_
        exact J_iret (pc := 32) h hr (by subst ho; exact ⟨rfl, rfl⟩) dX4_trace_32
  · replace ho := (if_pos c1).symm.trans ho
    refine J_aload_n (pc := 5) (n := 0) (i := 0) h 0 rfl rfl dX4_trace_5 ?_
    refine J_Dg3 (pc := 6) h (by omega) m_46 (σ 0 3) rfl dX4_trace_6 ?_
    exact J_iret (pc := 9) h hr (by subst ho; exact ⟨rfl, rfl⟩) dX4_trace_9
def f_X4_told (a : Int32) (b : Int32) (σ : Sg) : Int32 := (if f_X4_safeIn a σ = -1 then (-1) else (if b = 0 then (σ (28 + (f_X4_safeIn a σ).toNatClampNeg) 0) else (if b = 1 then (σ (28 + (f_X4_safeIn a σ).toNatClampNeg) 1) else (if b = 2 then (σ (28 + (f_X4_safeIn a σ).toNatClampNeg) 2) else (if b = 3 then (σ (28 + (f_X4_safeIn a σ).toNatClampNeg) 3) else (if b = 4 then (σ (28 + (f_X4_safeIn a σ).toNatClampNeg) 4) else (if b = 5 then (σ (28 + (f_X4_safeIn a σ).toNatClampNeg) 5) else (-1))))))))
theorem hd_X4_told : yX4_told.cls ≠ "java/lang/invoke/MethodHandle" ∧ yX4_told.cls ≠ "java/lang/invoke/VarHandle" ∧ (parseMethodDescriptor yX4_told.desc).map (fun d => d.parameters.length) = some 2 := by decide +kernel
set_option maxHeartbeats 4000000 in
set_option maxRecDepth 20000 in
theorem c_X4_told (l : Launch) (g : Gy) (ad : Nat → Nat) (n : Nat) (σ : Sg) (a : Int32) (b : Int32) (hN : 28 ≤ n) (hI : RI n σ) : Con l g yX4_told cX4_told 4 (some .int) (rmL 2) [.ref (ad 0), .int a, .int b] (wC g ad n σ) (Det (some (.int (f_X4_told a b σ))) (wC g ad n σ)) := by
  refine Con.of (by decide) (Nat.le_of_ble_eq_true rfl) ?_
  intro x h e1 e2 e3 e4 e5 hr
  subst e1 e2
  have h : Ok x cX4_told "SafeDesk" (some .int) := h
  have hR : RmOk x 2 0 0 := RmOk.of e3 (Nat.le_refl _) (Nat.le_refl _)
  obtain ⟨out, ho⟩ : ∃ o, f_X4_told a b σ = o := ⟨_, rfl⟩
  rw [ho] at hr
  unfold f_X4_told at ho
  show J x 0 0 _ 0 [(0, .ref (ad 0)), (1, .int a), (2, .int b)] []
  refine J_aload_n (pc := 0) (n := 0) (i := 0) h 0 rfl rfl dX4_told_0 ?_
  refine J_iload_n (pc := 1) (n := 1) (i := 1) h 1 rfl rfl dX4_told_1 ?_
  refine J_cD (pc := 2) h hR (by decide) (c_X4_safeIn _ _ ad n σ a hN ) (by decide) m_204 m_206 ms_4 m_207 ⟨rfl, hd_X4_safeIn⟩ (by omega) rfl rfl (Nat.le_of_ble_eq_true rfl) [va_rf (rfa ad (f_X4_safeIn a σ))] rfl dX4_told_2 ?_
  refine J_astore_nq (pc := 5) (n := 3) (i := 3) h [(3, va_rf (rfa ad (f_X4_safeIn a σ))), (0, .ref (ad 0)), (1, .int a), (2, .int b)] rfl (by rw [e4]; decide) rfl dX4_told_5 ?_
  refine J_aload_nq (pc := 6) (n := 3) (i := 3) h 0 rfl rfl dX4_told_6 ?_
  refine J_ifnonnullr (pc := 7) h 12 (by decide) dX4_told_7 (fun c1 => ?_) (fun c1 => ?_)
  · replace ho := (if_neg c1).symm.trans ho
    rw [rfa_ne c1]
    refine J_iload_n (pc := 12) (n := 2) (i := 2) h 3 rfl rfl dX4_told_12 ?_
    by_cases c2 : b = 0
    · replace ho := (if_pos c2).symm.trans ho
      refine J_tabIn (pc := 13) h (0) 52 c2 (by decide) (by decide) rfl (by decide) dX4_told_13 ?_
      refine J_aload_n (pc := 52) (n := 3) (i := 3) h 0 rfl rfl dX4_told_52 ?_
      refine J_Sg0 (pc := 53) h (Nat.le_add_right _ _) ((safeIn_ok hI _).resolve_left (by assumption)) m_95 (fun _ q => q) (σ (28 + (f_X4_safeIn a σ).toNatClampNeg) 0) rfl dX4_told_53 ?_
      exact J_iret (pc := 56) h hr (by subst ho; exact ⟨rfl, rfl⟩) dX4_told_56
    replace ho := (if_neg c2).symm.trans ho
    by_cases c3 : b = 1
    · replace ho := (if_pos c3).symm.trans ho
      refine J_tabIn (pc := 13) h (1) 57 c3 (by decide) (by decide) rfl (by decide) dX4_told_13 ?_
      refine J_aload_n (pc := 57) (n := 3) (i := 3) h 0 rfl rfl dX4_told_57 ?_
      refine J_Sg1 (pc := 58) h (Nat.le_add_right _ _) ((safeIn_ok hI _).resolve_left (by assumption)) m_97 (fun _ q => q) (σ (28 + (f_X4_safeIn a σ).toNatClampNeg) 1) rfl dX4_told_58 ?_
      exact J_iret (pc := 61) h hr (by subst ho; exact ⟨rfl, rfl⟩) dX4_told_61
    replace ho := (if_neg c3).symm.trans ho
    by_cases c4 : b = 2
    · replace ho := (if_pos c4).symm.trans ho
      refine J_tabIn (pc := 13) h (2) 62 c4 (by decide) (by decide) rfl (by decide) dX4_told_13 ?_
      refine J_aload_n (pc := 62) (n := 3) (i := 3) h 0 rfl rfl dX4_told_62 ?_
      refine J_Sg2 (pc := 63) h (Nat.le_add_right _ _) ((safeIn_ok hI _).resolve_left (by assumption)) m_100 (fun _ q => q) (σ (28 + (f_X4_safeIn a σ).toNatClampNeg) 2) rfl dX4_told_63 ?_
      exact J_iret (pc := 66) h hr (by subst ho; exact ⟨rfl, rfl⟩) dX4_told_66
    replace ho := (if_neg c4).symm.trans ho
    by_cases c5 : b = 3
    · replace ho := (if_pos c5).symm.trans ho
      refine J_tabIn (pc := 13) h (3) 67 c5 (by decide) (by decide) rfl (by decide) dX4_told_13 ?_
      refine J_aload_n (pc := 67) (n := 3) (i := 3) h 0 rfl rfl dX4_told_67 ?_
      refine J_Sg3 (pc := 68) h (Nat.le_add_right _ _) ((safeIn_ok hI _).resolve_left (by assumption)) m_102 (fun _ q => q) (σ (28 + (f_X4_safeIn a σ).toNatClampNeg) 3) rfl dX4_told_68 ?_
      exact J_iret (pc := 71) h hr (by subst ho; exact ⟨rfl, rfl⟩) dX4_told_71
    replace ho := (if_neg c5).symm.trans ho
    by_cases c6 : b = 4
    · replace ho := (if_pos c6).symm.trans ho
      refine J_tabIn (pc := 13) h (4) 72 c6 (by decide) (by decide) rfl (by decide) dX4_told_13 ?_
      refine J_aload_n (pc := 72) (n := 3) (i := 3) h 0 rfl rfl dX4_told_72 ?_
      refine J_Sg4 (pc := 73) h (Nat.le_add_right _ _) ((safeIn_ok hI _).resolve_left (by assumption)) m_104 (fun _ q => q) (σ (28 + (f_X4_safeIn a σ).toNatClampNeg) 4) rfl dX4_told_73 ?_
      exact J_iret (pc := 76) h hr (by subst ho; exact ⟨rfl, rfl⟩) dX4_told_76
    replace ho := (if_neg c6).symm.trans ho
    by_cases c7 : b = 5
    · replace ho := (if_pos c7).symm.trans ho
      refine J_tabIn (pc := 13) h (5) 77 c7 (by decide) (by decide) rfl (by decide) dX4_told_13 ?_
      refine J_aload_n (pc := 77) (n := 3) (i := 3) h 0 rfl rfl dX4_told_77 ?_
      refine J_Sg5 (pc := 78) h (Nat.le_add_right _ _) ((safeIn_ok hI _).resolve_left (by assumption)) m_106 (fun _ q => q) (σ (28 + (f_X4_safeIn a σ).toNatClampNeg) 5) rfl dX4_told_78 ?_
      exact J_iret (pc := 81) h hr (by subst ho; exact ⟨rfl, rfl⟩) dX4_told_81
    replace ho := (if_neg c7).symm.trans ho
    refine J_tabOut (pc := 13) h 82 (by have zc2 := ne_toI c2 (n := 0) rfl; have zc3 := ne_toI c3 (n := 1) rfl; have zc4 := ne_toI c4 (n := 2) rfl; have zc5 := ne_toI c5 (n := 3) rfl; have zc6 := ne_toI c6 (n := 4) rfl; have zc7 := ne_toI c7 (n := 5) rfl; omega) (by decide) dX4_told_13 ?_
    refine J_iconst (pc := 82) h (-1) rfl dX4_told_82 ?_
    exact J_iret (pc := 83) h hr (by subst ho; exact ⟨rfl, rfl⟩) dX4_told_83
  · replace ho := (if_pos c1).symm.trans ho
    refine J_iconst (pc := 10) h (-1) rfl dX4_told_10 ?_
    exact J_iret (pc := 11) h hr (by subst ho; exact ⟨rfl, rfl⟩) dX4_told_11
end
section
theorem ltn {k N : Nat} {b : Int32} (hb : b = nI N) (hk : k < 2 ^ 31) (h : ¬ b ≤ nI k) : k < N := by
  rw [hb] at h
  exact Nat.lt_of_not_le (fun q => h (nI_le q hk))
theorem fr_enter {j k : Nat} (h : k ≠ j) (σ : Sg) : f_X1_enter j σ k = σ k := by
  unfold f_X1_enter
  split <;> simp [up2, va_up, h]
theorem fr_leave {j k : Nat} (h : k ≠ j) (σ : Sg) : f_X1_leave j σ k = σ k := by simp [f_X1_leave, up2, va_up, h]
theorem fr_X1_put {j k : Nat} (h : k ≠ j) (v : Int32) (σ : Sg) : (f_X1_put j v σ).2 k = σ k := by
  unfold f_X1_put
  split
  · simp [fr_enter h, fr_leave h]
  · split <;> simp [fr_enter h, fr_leave h, up2, va_up, h]
theorem fr_X1_worth {j k : Nat} (h : k ≠ j) (σ : Sg) : (f_X1_worth j σ).2 k = σ k := by simp [f_X1_worth, fr_enter h, fr_leave h]
theorem fr_X2_put {j k : Nat} (h : k ≠ j) (v : Int32) (σ : Sg) : (f_X2_put j v σ).2 k = σ k := by simp [f_X2_put, fr_enter h, fr_leave h, fr_X1_put h, up2, va_up, h]
theorem fr_X2_worth {j k : Nat} (h : k ≠ j) (σ : Sg) : (f_X2_worth j σ).2 k = σ k := by simp [f_X2_worth, fr_enter h, fr_leave h, fr_X1_worth h]
theorem fr_X3_put {j k : Nat} (h : k ≠ j) (v : Int32) (σ : Sg) : (f_X3_put j v σ).2 k = σ k := by
  unfold f_X3_put
  split <;> simp [fr_enter h, fr_leave h, fr_X2_put h]
theorem fr_X3_worth {j k : Nat} (h : k ≠ j) (σ : Sg) : (f_X3_worth j σ).2 k = σ k := by simp [f_X3_worth, fr_enter h, fr_leave h, fr_X2_worth h]
theorem fr_vput {j k : Nat} (h : k ≠ j) (v : Int32) (σ : Sg) : (f_vput j v σ).2 k = σ k := by
  unfold f_vput
  split
  · exact fr_X1_put h v σ
  · split
    · exact fr_X2_put h v σ
    · exact fr_X3_put h v σ
theorem fr_vworth {j k : Nat} (h : k ≠ j) (σ : Sg) : (f_vworth j σ).2 k = σ k := by
  unfold f_vworth
  split
  · exact fr_X1_worth h σ
  · split
    · exact fr_X2_worth h σ
    · exact fr_X3_worth h σ
theorem fr_give {j k : Nat} {w : Int32} (h : k ≠ j) (h2 : k ≠ 28 + w.toNatClampNeg) (v : Int32) (σ : Sg) : (f_X1_give j v w σ).2 k = σ k := by
  unfold f_X1_give
  repeat' split
  all_goals simp [fr_enter h, fr_leave h, fr_vput h, fr_vput h2]
theorem RI.of1 {n : Nat} {σ σ' : Sg} (h : RI n σ) (e : σ' 1 = σ 1) : RI n σ' := by
  intro r hr
  rw [e]
  exact h r hr
def lf_X4_roomsWithSafe : Nat → Nat → Int32 → Sg → Int32
  | 0, _, acc, _ => acc
  | m + 1, k, acc, σ => (if 8 ≤ nI k then acc else (if σ 1 ((nI k).toNatClampNeg) = -1 then (lf_X4_roomsWithSafe m (k + 1) acc σ) else (lf_X4_roomsWithSafe m (k + 1) (acc + 1) σ)))
set_option maxHeartbeats 4000000 in
theorem lp_X4_roomsWithSafe {x : Cx} {ad : Nat → Nat} {n : Nat} {σ : Sg} (hN : 28 ≤ n) (h : Ok x cX4_roomsWithSafe "SafeDesk" (some .int)) (e4 : xN x = 3) {out : Int32} (hr : Rt x 0 0 (Det (some (.int out)) (wC (xG x) ad n σ))) : ∀ (m k : Nat) (acc : Int32), k ≤ 8 → k + m = 9 → lf_X4_roomsWithSafe m k acc σ = out → J x 0 0 (wC (xG x) ad n σ) 4 [(2, .int (nI k)), (1, .int acc), (0, .ref (ad 0))] [] := by
  intro m
  induction m with
  | zero => intro k acc hk hm ho; omega
  | succ m ih =>
    intro k acc hk hm ho
    unfold lf_X4_roomsWithSafe at ho
    refine J_iload_n (pc := 4) (n := 2) (i := 2) h 0 rfl rfl dX4_roomsWithSafe_4 ?_
    refine J_bipush (pc := 5) h (8) rfl dX4_roomsWithSafe_5 ?_
    refine J_icmp_ge (pc := 7) h 28 (by decide) dX4_roomsWithSafe_7 (fun c1 => ?_) (fun c1 => ?_)
    · replace ho := (if_pos c1).symm.trans ho
      refine J_iload_n (pc := 28) (n := 1) (i := 1) h 1 rfl rfl dX4_roomsWithSafe_28 ?_
      exact J_iret (pc := 29) h hr (by subst ho; exact ⟨rfl, rfl⟩) dX4_roomsWithSafe_29
    · replace ho := (if_neg c1).symm.trans ho
      refine J_aload_n (pc := 10) (n := 0) (i := 0) h 2 rfl rfl dX4_roomsWithSafe_10 ?_
      refine J_Dr0 (pc := 11) h (by omega) m_43 dX4_roomsWithSafe_11 ?_
      refine J_iload_n (pc := 14) (n := 2) (i := 2) h 0 rfl rfl dX4_roomsWithSafe_14 ?_
      refine J_Ra (pc := 15) h (by omega) (vp_in_nI (ltn (b := 8) (N := 8) rfl (by omega) (by assumption)) (by decide)) (σ 1 ((nI k).toNatClampNeg)) rfl dX4_roomsWithSafe_15 ?_
      refine J_ifnullr (pc := 16) h 22 (by decide) dX4_roomsWithSafe_16 (fun c2 => ?_) (fun c2 => ?_)
      · replace ho := (if_pos c2).symm.trans ho
        refine J_iinc (pc := 22) h 0 ((nI k) + 1) [(2, .int ((nI k) + 1)), (1, .int acc), (0, .ref (ad 0))] rfl rfl (by rw [e4]; decide) rfl dX4_roomsWithSafe_22 ?_
        refine J_goto (pc := 25) h 4 (by decide) dX4_roomsWithSafe_25 ?_
        have hk8 := ltn (k := k) (b := 8) (N := 8) rfl (by omega) (by assumption)
        rw [nI_1]
        exact ih (k + 1) acc (by omega) (by omega) ho
      · replace ho := (if_neg c2).symm.trans ho
        refine J_iinc (pc := 19) h 1 (acc + 1) [(1, .int (acc + 1)), (2, .int (nI k)), (0, .ref (ad 0))] rfl rfl (by rw [e4]; decide) rfl dX4_roomsWithSafe_19 ?_
        refine J_iinc (pc := 22) h 1 ((nI k) + 1) [(2, .int ((nI k) + 1)), (1, .int (acc + 1)), (0, .ref (ad 0))] rfl rfl (by rw [e4]; decide) rfl dX4_roomsWithSafe_22 ?_
        refine J_goto (pc := 25) h 4 (by decide) dX4_roomsWithSafe_25 ?_
        have hk8 := ltn (k := k) (b := 8) (N := 8) rfl (by omega) (by assumption)
        rw [nI_1]
        exact ih (k + 1) (acc + 1) (by omega) (by omega) ho
def f_X4_roomsWithSafe  (σ : Sg) : Int32 := (lf_X4_roomsWithSafe 9 0 0 σ)
theorem hd_X4_roomsWithSafe : yX4_roomsWithSafe.cls ≠ "java/lang/invoke/MethodHandle" ∧ yX4_roomsWithSafe.cls ≠ "java/lang/invoke/VarHandle" ∧ (parseMethodDescriptor yX4_roomsWithSafe.desc).map (fun d => d.parameters.length) = some 0 := by decide +kernel
set_option maxHeartbeats 4000000 in
set_option maxRecDepth 20000 in
theorem c_X4_roomsWithSafe (l : Launch) (g : Gy) (ad : Nat → Nat) (n : Nat) (σ : Sg)  (hN : 28 ≤ n) : Con l g yX4_roomsWithSafe cX4_roomsWithSafe 3 (some .int) (rmL 0) [.ref (ad 0)] (wC g ad n σ) (Det (some (.int (f_X4_roomsWithSafe  σ))) (wC g ad n σ)) := by
  refine Con.of (by decide) (Nat.le_of_ble_eq_true rfl) ?_
  intro x h e1 e2 e3 e4 e5 hr
  subst e1 e2
  have h : Ok x cX4_roomsWithSafe "SafeDesk" (some .int) := h
  have hR : RmOk x 0 0 0 := RmOk.of e3 (Nat.le_refl _) (Nat.le_refl _)
  obtain ⟨out, ho⟩ : ∃ o, f_X4_roomsWithSafe  σ = o := ⟨_, rfl⟩
  rw [ho] at hr
  unfold f_X4_roomsWithSafe at ho
  show J x 0 0 _ 0 [(0, .ref (ad 0))] []
  refine J_iconst (pc := 0) h (0) rfl dX4_roomsWithSafe_0 ?_
  refine J_istore_n (pc := 1) (n := 1) (i := 1) h [(1, .int 0), (0, .ref (ad 0))] rfl (by rw [e4]; decide) rfl dX4_roomsWithSafe_1 ?_
  refine J_iconst (pc := 2) h (0) rfl dX4_roomsWithSafe_2 ?_
  refine J_istore_n (pc := 3) (n := 2) (i := 2) h [(2, .int 0), (1, .int 0), (0, .ref (ad 0))] rfl (by rw [e4]; decide) rfl dX4_roomsWithSafe_3 ?_
  exact lp_X4_roomsWithSafe hN h e4 hr 9 0 0 (by decide) (by decide) ho
def lf_X4_seek : Nat → Nat → Int32 → Sg → Int32 × Sg
  | 0, _, _, σ => (0, σ)
  | m + 1, k, b, σ => (if 8 ≤ nI k then ((-1), σ) else (if f_X4_safeIn (nI k) σ = -1 then (lf_X4_seek m (k + 1) b σ) else (if (f_X1_enter (28 + (f_X4_safeIn (nI k) σ).toNatClampNeg) σ) (28 + (f_X4_safeIn (nI k) σ).toNatClampNeg) 1 < b then (lf_X4_seek m (k + 1) b (f_X1_leave (28 + (f_X4_safeIn (nI k) σ).toNatClampNeg) (f_X1_enter (28 + (f_X4_safeIn (nI k) σ).toNatClampNeg) σ))) else (nI k, f_X1_leave (28 + (f_X4_safeIn (nI k) σ).toNatClampNeg) (f_X1_enter (28 + (f_X4_safeIn (nI k) σ).toNatClampNeg) σ)))))
set_option maxHeartbeats 4000000 in
theorem lp_X4_seek {x : Cx} {ad : Nat → Nat} {n : Nat} {a b : Int32} (hN : 28 ≤ n) (h : Ok x cX4_seek "SafeDesk" (some .int)) (hR : RmOk x 2 0 0) (e4 : xN x = 6) {out : Int32 × Sg} (hr : Rt x 0 0 (Det (some (.int out.1)) (wC (xG x) ad n out.2))) : ∀ (m k : Nat) (σ : Sg), RI n σ → k ≤ 8 → k + m = 9 → lf_X4_seek m k b σ = out → J x 0 0 (wC (xG x) ad n σ) 2 [(3, .int (nI k)), (0, .ref (ad 0)), (1, .int a), (2, .int b)] [] := by
  intro m
  induction m with
  | zero => intro k σ hI hk hm ho; omega
  | succ m ih =>
    intro k σ hI hk hm ho
    unfold lf_X4_seek at ho
    refine J_iload_n (pc := 2) (n := 3) (i := 3) h 0 rfl rfl dX4_seek_2 ?_
    refine J_bipush (pc := 3) h (8) rfl dX4_seek_3 ?_
    refine J_icmp_ge (pc := 5) h 59 (by decide) dX4_seek_5 (fun c1 => ?_) (fun c1 => ?_)
    · replace ho := (if_pos c1).symm.trans ho
      refine J_iconst (pc := 59) h (-1) rfl dX4_seek_59 ?_
      exact J_iret (pc := 60) h hr (by subst ho; exact ⟨rfl, rfl⟩) dX4_seek_60
    · replace ho := (if_neg c1).symm.trans ho
      refine J_aload_n (pc := 8) (n := 0) (i := 0) h 1 rfl rfl dX4_seek_8 ?_
      refine J_iload_n (pc := 9) (n := 3) (i := 3) h 0 rfl rfl dX4_seek_9 ?_
      refine J_cD (pc := 10) h hR (by decide) (c_X4_safeIn _ _ ad n σ (nI k) hN ) (by decide) m_204 m_206 ms_4 m_207 ⟨rfl, hd_X4_safeIn⟩ (by omega) rfl rfl (Nat.le_of_ble_eq_true rfl) [va_rf (rfa ad (f_X4_safeIn (nI k) σ))] rfl dX4_seek_10 ?_
      refine J_astoreq (pc := 13) h [(4, va_rf (rfa ad (f_X4_safeIn (nI k) σ))), (3, .int (nI k)), (0, .ref (ad 0)), (1, .int a), (2, .int b)] (by rw [e4]; decide) rfl dX4_seek_13 ?_
      refine J_aloadq (pc := 15) h 0 rfl dX4_seek_15 ?_
      refine J_ifnullr (pc := 17) h 53 (by decide) dX4_seek_17 (fun c2 => ?_) (fun c2 => ?_)
      · replace ho := (if_pos c2).symm.trans ho
        refine J_iinc (pc := 53) h 1 ((nI k) + 1) [(3, .int ((nI k) + 1)), (4, va_rf (rfa ad (f_X4_safeIn (nI k) σ))), (0, .ref (ad 0)), (1, .int a), (2, .int b)] rfl rfl (by rw [e4]; decide) rfl dX4_seek_53 ?_
        refine J_goto (pc := 56) h 2 (by decide) dX4_seek_56 ?_
        have hk8 := ltn (k := k) (b := 8) (N := 8) rfl (by omega) (by assumption)
        rw [nI_1]
        refine J_sub [(3, .int (nI (k + 1))), (0, .ref (ad 0)), (1, .int a), (2, .int b)] [0, 2, 3, 4] rfl ?_
        exact ih (k + 1) σ hI (by omega) (by omega) ho
      · replace ho := (if_neg c2).symm.trans ho
        rw [rfa_ne c2]
        refine J_aload (pc := 20) h 0 rfl dX4_seek_20 ?_
        refine J_cU (pc := 22) (z := ⟨"SafeDesk$Safe", "enter", "()V"⟩) h hR (Nat.le_add_right _ _) ((safeIn_ok hI _).resolve_left (by assumption)) (by decide) (c_X1_enter _ _ ad n σ (28 + (f_X4_safeIn (nI k) σ).toNatClampNeg)  (Nat.le_add_right _ _) ((safeIn_ok hI _).resolve_left (by assumption)) ) (by decide) m_212 m_215 (Sels.of3 m_214 m_216 m_217) m_213 m_218 rfl hd_X1_enter rfl rfl (Nat.le_of_ble_eq_true rfl) [] rfl dX4_seek_22 ?_
        refine J_aload (pc := 25) h 0 rfl dX4_seek_25 ?_
        refine J_Sg1 (pc := 27) h (Nat.le_add_right _ _) ((safeIn_ok hI _).resolve_left (by assumption)) m_97 (fun _ q => q) ((f_X1_enter (28 + (f_X4_safeIn (nI k) σ).toNatClampNeg) σ) (28 + (f_X4_safeIn (nI k) σ).toNatClampNeg) 1) rfl dX4_seek_27 ?_
        refine J_iload_n (pc := 30) (n := 2) (i := 2) h 4 rfl rfl dX4_seek_30 ?_
        refine J_icmp_lt (pc := 31) h 38 (by decide) dX4_seek_31 (fun c3 => ?_) (fun c3 => ?_)
        · replace ho := (if_pos c3).symm.trans ho
          refine J_iconst (pc := 38) h (0) rfl dX4_seek_38 ?_
          refine J_istore (pc := 39) h [(5, .int 0), (4, .ref (ad (28 + (f_X4_safeIn (nI k) σ).toNatClampNeg))), (3, .int (nI k)), (0, .ref (ad 0)), (1, .int a), (2, .int b)] (by rw [e4]; decide) rfl dX4_seek_39 ?_
          refine J_aload (pc := 41) h 1 rfl dX4_seek_41 ?_
          refine J_cU (pc := 43) (z := ⟨"SafeDesk$Safe", "leave", "()V"⟩) h hR (Nat.le_add_right _ _) ((safeIn_ok hI _).resolve_left (by assumption)) (by decide) (c_X1_leave _ _ ad n (f_X1_enter (28 + (f_X4_safeIn (nI k) σ).toNatClampNeg) σ) (28 + (f_X4_safeIn (nI k) σ).toNatClampNeg)  (Nat.le_add_right _ _) ((safeIn_ok hI _).resolve_left (by assumption)) ) (by decide) m_219 m_222 (Sels.of3 m_221 m_223 m_224) m_220 m_225 rfl hd_X1_leave rfl rfl (Nat.le_of_ble_eq_true rfl) [] rfl dX4_seek_43 ?_
          refine J_iload (pc := 46) h 0 rfl dX4_seek_46 ?_
          refine J_if_eq (pc := 48) h 53 (by decide) dX4_seek_48 (fun c4 => ?_) (fun c4 => ?_)
          · skip
            refine J_iinc (pc := 53) h 2 ((nI k) + 1) [(3, .int ((nI k) + 1)), (5, .int 0), (4, .ref (ad (28 + (f_X4_safeIn (nI k) σ).toNatClampNeg))), (0, .ref (ad 0)), (1, .int a), (2, .int b)] rfl rfl (by rw [e4]; decide) rfl dX4_seek_53 ?_
            refine J_goto (pc := 56) h 2 (by decide) dX4_seek_56 ?_
            have hk8 := ltn (k := k) (b := 8) (N := 8) rfl (by omega) (by assumption)
            rw [nI_1]
            refine J_sub [(3, .int (nI (k + 1))), (0, .ref (ad 0)), (1, .int a), (2, .int b)] [0, 3, 4, 5] rfl ?_
            exact ih (k + 1) (f_X1_leave (28 + (f_X4_safeIn (nI k) σ).toNatClampNeg) (f_X1_enter (28 + (f_X4_safeIn (nI k) σ).toNatClampNeg) σ)) (hI.of1 ((fr_leave (by omega) _).trans (fr_enter (by omega) _))) (by omega) (by omega) ho
          · exact absurd rfl c4
        · replace ho := (if_neg c3).symm.trans ho
          refine J_iconst (pc := 34) h (1) rfl dX4_seek_34 ?_
          refine J_goto (pc := 35) h 39 (by decide) dX4_seek_35 ?_
          refine J_istore (pc := 39) h [(5, .int 1), (4, .ref (ad (28 + (f_X4_safeIn (nI k) σ).toNatClampNeg))), (3, .int (nI k)), (0, .ref (ad 0)), (1, .int a), (2, .int b)] (by rw [e4]; decide) rfl dX4_seek_39 ?_
          refine J_aload (pc := 41) h 1 rfl dX4_seek_41 ?_
          refine J_cU (pc := 43) (z := ⟨"SafeDesk$Safe", "leave", "()V"⟩) h hR (Nat.le_add_right _ _) ((safeIn_ok hI _).resolve_left (by assumption)) (by decide) (c_X1_leave _ _ ad n (f_X1_enter (28 + (f_X4_safeIn (nI k) σ).toNatClampNeg) σ) (28 + (f_X4_safeIn (nI k) σ).toNatClampNeg)  (Nat.le_add_right _ _) ((safeIn_ok hI _).resolve_left (by assumption)) ) (by decide) m_219 m_222 (Sels.of3 m_221 m_223 m_224) m_220 m_225 rfl hd_X1_leave rfl rfl (Nat.le_of_ble_eq_true rfl) [] rfl dX4_seek_43 ?_
          refine J_iload (pc := 46) h 0 rfl dX4_seek_46 ?_
          refine J_if_eq (pc := 48) h 53 (by decide) dX4_seek_48 (fun c5 => ?_) (fun c5 => ?_)
          · exact absurd c5 (by decide)
          · skip
            refine J_iload_n (pc := 51) (n := 3) (i := 3) h 2 rfl rfl dX4_seek_51 ?_
            exact J_iret (pc := 52) h hr (by subst ho; exact ⟨rfl, rfl⟩) dX4_seek_52
theorem nI_nat {a : Int32} {N : Nat} (h : vp_in a N) : a = nI a.toNatClampNeg := by
  have h0 : ¬ a < 0 := fun q => h (Or.inl q)
  obtain ⟨j, hj, rfl⟩ := nI_of h0
  rw [nI_clamp hj]
def f_X4_seek (a : Int32) (b : Int32) (σ : Sg) : Int32 × Sg := (lf_X4_seek (9 - a.toNatClampNeg) a.toNatClampNeg b σ)
theorem hd_X4_seek : yX4_seek.cls ≠ "java/lang/invoke/MethodHandle" ∧ yX4_seek.cls ≠ "java/lang/invoke/VarHandle" ∧ (parseMethodDescriptor yX4_seek.desc).map (fun d => d.parameters.length) = some 2 := by decide +kernel
set_option maxHeartbeats 4000000 in
set_option maxRecDepth 20000 in
theorem c_X4_seek (l : Launch) (g : Gy) (ad : Nat → Nat) (n : Nat) (σ : Sg) (a : Int32) (b : Int32) (hN : 28 ≤ n) (hI : RI n σ) (ha : vp_in a 8) : Con l g yX4_seek cX4_seek 6 (some .int) (rmL 2) [.ref (ad 0), .int a, .int b] (wC g ad n σ) (Det (some (.int (f_X4_seek a b σ).1)) (wC g ad n ((f_X4_seek a b σ).2))) := by
  refine Con.of (by decide) (Nat.le_of_ble_eq_true rfl) ?_
  intro x h e1 e2 e3 e4 e5 hr
  subst e1 e2
  have h : Ok x cX4_seek "SafeDesk" (some .int) := h
  have hR : RmOk x 2 0 0 := RmOk.of e3 (Nat.le_refl _) (Nat.le_refl _)
  obtain ⟨out, ho⟩ : ∃ o, f_X4_seek a b σ = o := ⟨_, rfl⟩
  rw [ho] at hr
  unfold f_X4_seek at ho
  show J x 0 0 _ 0 [(0, .ref (ad 0)), (1, .int a), (2, .int b)] []
  refine J_iload_n (pc := 0) (n := 1) (i := 1) h 1 rfl rfl dX4_seek_0 ?_
  refine J_istore_n (pc := 1) (n := 3) (i := 3) h [(3, .int a), (0, .ref (ad 0)), (1, .int a), (2, .int b)] rfl (by rw [e4]; decide) rfl dX4_seek_1 ?_
  rw [nI_nat ha]
  exact lp_X4_seek hN h hR e4 hr (9 - a.toNatClampNeg) a.toNatClampNeg σ hI (Nat.le_of_lt (vp_lt ha)) (by have := vp_lt ha; omega) ho
def f_X4_doWithRooms (kd : Int32) (a : Int32) (b : Int32) (σ : Sg) : Int32 × Sg := (if kd = 5 then (0, f_X4_setRoom a (f_X4_safeIn (f_J9_floorMod_7cf53 b 8) σ) σ) else (if kd = 6 then (0, f_X4_setRoom a (-1) σ) else (0, up2 ((f_X4_seek a b σ).2) 0 4 ((f_X4_seek a b σ).1))))
theorem hd_X4_doWithRooms : yX4_doWithRooms.cls ≠ "java/lang/invoke/MethodHandle" ∧ yX4_doWithRooms.cls ≠ "java/lang/invoke/VarHandle" ∧ (parseMethodDescriptor yX4_doWithRooms.desc).map (fun d => d.parameters.length) = some 3 := by decide +kernel
set_option maxHeartbeats 4000000 in
set_option maxRecDepth 20000 in
theorem c_X4_doWithRooms (l : Launch) (g : Gy) (ad : Nat → Nat) (n : Nat) (σ : Sg) (kd : Int32) (a : Int32) (b : Int32) (hN : 28 ≤ n) (hI : RI n σ) (ha : ¬ kd = 5 → ¬ kd = 6 → vp_in a 8) : Con l g yX4_doWithRooms cX4_doWithRooms 4 (some .int) (rmL 3) [.ref (ad 0), .int kd, .int a, .int b] (wC g ad n σ) (Det (some (.int (f_X4_doWithRooms kd a b σ).1)) (wC g ad n ((f_X4_doWithRooms kd a b σ).2))) := by
  refine Con.of (by decide) (Nat.le_of_ble_eq_true rfl) ?_
  intro x h e1 e2 e3 e4 e5 hr
  subst e1 e2
  have h : Ok x cX4_doWithRooms "SafeDesk" (some .int) := h
  have hR : RmOk x 3 0 0 := RmOk.of e3 (Nat.le_refl _) (Nat.le_refl _)
  obtain ⟨out, ho⟩ : ∃ o, f_X4_doWithRooms kd a b σ = o := ⟨_, rfl⟩
  rw [ho] at hr
  unfold f_X4_doWithRooms at ho
  show J x 0 0 _ 0 [(0, .ref (ad 0)), (1, .int kd), (2, .int a), (3, .int b)] []
  refine J_iload_n (pc := 0) (n := 1) (i := 1) h 1 rfl rfl dX4_doWithRooms_0 ?_
  by_cases c1 : kd = 5
  · replace ho := (if_pos c1).symm.trans ho
    refine J_lookup (pc := 1) (off := 27) h 28 (by decide) (by rw [c1]; first | done | rfl) (by decide) dX4_doWithRooms_1 ?_
    refine J_aload_n (pc := 28) (n := 0) (i := 0) h 0 rfl rfl dX4_doWithRooms_28 ?_
    refine J_iload_n (pc := 29) (n := 2) (i := 2) h 2 rfl rfl dX4_doWithRooms_29 ?_
    refine J_aload_n (pc := 30) (n := 0) (i := 0) h 0 rfl rfl dX4_doWithRooms_30 ?_
    refine J_iload_n (pc := 31) (n := 3) (i := 3) h 3 rfl rfl dX4_doWithRooms_31 ?_
    refine J_bipush (pc := 32) h (8) rfl dX4_doWithRooms_32 ?_
    refine J_cS (pc := 34) h hR (by decide) (c_J9_floorMod_7cf53 _ _ _ b 8 (by decide)) (by decide) m_238 m_239 m_7 m_240 hd_J9_floorMod_7cf53 rfl rfl (Nat.le_of_ble_eq_true rfl) [.int (f_J9_floorMod_7cf53 b 8), .ref (ad 0), .int a, .ref (ad 0)] rfl dX4_doWithRooms_34 ?_
    refine J_cD (pc := 37) h hR (by decide) (c_X4_safeIn _ _ ad n σ (f_J9_floorMod_7cf53 b 8) hN ) (by decide) m_204 m_206 ms_4 m_207 ⟨rfl, hd_X4_safeIn⟩ (by omega) rfl rfl (Nat.le_of_ble_eq_true rfl) [va_rf (rfa ad (f_X4_safeIn (f_J9_floorMod_7cf53 b 8) σ)), .int a, .ref (ad 0)] rfl dX4_doWithRooms_37 ?_
    refine J_cD (pc := 40) h hR (by decide) (c_X4_setRoom _ _ ad n σ a (f_X4_safeIn (f_J9_floorMod_7cf53 b 8) σ) hN (safeIn_ok hI _)) (by decide) m_241 m_243 ms_9 m_244 ⟨rfl, hd_X4_setRoom⟩ (by omega) rfl rfl (Nat.le_of_ble_eq_true rfl) [] rfl dX4_doWithRooms_40 ?_
    refine J_goto (pc := 43) h 65 (by decide) dX4_doWithRooms_43 ?_
    refine J_iconst (pc := 65) h (0) rfl dX4_doWithRooms_65 ?_
    exact J_iret (pc := 66) h hr (by subst ho; exact ⟨rfl, rfl⟩) dX4_doWithRooms_66
  replace ho := (if_neg c1).symm.trans ho
  by_cases c2 : kd = 6
  · replace ho := (if_pos c2).symm.trans ho
    refine J_lookup (pc := 1) (off := 45) h 46 (by decide) (by rw [c2]; first | done | rfl) (by decide) dX4_doWithRooms_1 ?_
    refine J_aload_n (pc := 46) (n := 0) (i := 0) h 0 rfl rfl dX4_doWithRooms_46 ?_
    refine J_iload_n (pc := 47) (n := 2) (i := 2) h 2 rfl rfl dX4_doWithRooms_47 ?_
    refine J_null (pc := 48) h dX4_doWithRooms_48 ?_
    refine J_cD (pc := 49) h hR (by decide) (c_X4_setRoom _ _ ad n σ a (-1) hN (Or.inl rfl)) (by decide) m_241 m_243 ms_9 m_244 ⟨rfl, hd_X4_setRoom⟩ (by omega) rfl rfl (Nat.le_of_ble_eq_true rfl) [] rfl dX4_doWithRooms_49 ?_
    refine J_goto (pc := 52) h 65 (by decide) dX4_doWithRooms_52 ?_
    refine J_iconst (pc := 65) h (0) rfl dX4_doWithRooms_65 ?_
    exact J_iret (pc := 66) h hr (by subst ho; exact ⟨rfl, rfl⟩) dX4_doWithRooms_66
  replace ho := (if_neg c2).symm.trans ho
  refine J_lookup (pc := 1) (off := 54) h 55 (by decide) ((lv_osw c1 rfl).trans ((lv_osw c2 rfl).trans rfl)) (by decide) dX4_doWithRooms_1 ?_
  refine J_aload_n (pc := 55) (n := 0) (i := 0) h 0 rfl rfl dX4_doWithRooms_55 ?_
  refine J_aload_n (pc := 56) (n := 0) (i := 0) h 0 rfl rfl dX4_doWithRooms_56 ?_
  refine J_iload_n (pc := 57) (n := 2) (i := 2) h 2 rfl rfl dX4_doWithRooms_57 ?_
  refine J_iload_n (pc := 58) (n := 3) (i := 3) h 3 rfl rfl dX4_doWithRooms_58 ?_
  refine J_cD (pc := 59) h hR (by decide) (c_X4_seek _ _ ad n σ a b hN hI (ha (by assumption) (by assumption))) (by decide) m_245 m_247 ms_10 m_248 ⟨rfl, hd_X4_seek⟩ (by omega) rfl rfl (Nat.le_of_ble_eq_true rfl) [.int ((f_X4_seek a b σ).1), .ref (ad 0)] rfl dX4_doWithRooms_59 ?_
  refine J_Dp4 (pc := 62) h (by omega) m_47 dX4_doWithRooms_62 ?_
  refine J_iconst (pc := 65) h (0) rfl dX4_doWithRooms_65 ?_
  exact J_iret (pc := 66) h hr (by subst ho; exact ⟨rfl, rfl⟩) dX4_doWithRooms_66
def f_X4_count (a : Int32) (σ : Sg) : Int32 := (if a = 0 then (σ 0 5) else (if a = 1 then (σ 0 6) else (if a = 2 then (σ 0 8) else (if a = 3 then (f_X4_roomsWithSafe σ) else (if a < 4 then (-1) else (if f_X4_isPlan (a - 4) = 0 then (-1) else (σ (4 + ((a - 4).toNatClampNeg)) 3)))))))
theorem hd_X4_count : yX4_count.cls ≠ "java/lang/invoke/MethodHandle" ∧ yX4_count.cls ≠ "java/lang/invoke/VarHandle" ∧ (parseMethodDescriptor yX4_count.desc).map (fun d => d.parameters.length) = some 1 := by decide +kernel
set_option maxHeartbeats 4000000 in
set_option maxRecDepth 20000 in
theorem c_X4_count (l : Launch) (g : Gy) (ad : Nat → Nat) (n : Nat) (σ : Sg) (a : Int32) (hN : 28 ≤ n) : Con l g yX4_count cX4_count 2 (some .int) (rmL 1) [.ref (ad 0), .int a] (wC g ad n σ) (Det (some (.int (f_X4_count a σ))) (wC g ad n σ)) := by
  refine Con.of (by decide) (Nat.le_of_ble_eq_true rfl) ?_
  intro x h e1 e2 e3 e4 e5 hr
  subst e1 e2
  have h : Ok x cX4_count "SafeDesk" (some .int) := h
  have hR : RmOk x 1 0 0 := RmOk.of e3 (Nat.le_refl _) (Nat.le_refl _)
  obtain ⟨out, ho⟩ : ∃ o, f_X4_count a σ = o := ⟨_, rfl⟩
  rw [ho] at hr
  unfold f_X4_count at ho
  show J x 0 0 _ 0 [(0, .ref (ad 0)), (1, .int a)] []
  refine J_iload_n (pc := 0) (n := 1) (i := 1) h 1 rfl rfl dX4_count_0 ?_
  by_cases c1 : a = 0
  · replace ho := (if_pos c1).symm.trans ho
    refine J_tabIn (pc := 1) h (0) 32 c1 (by decide) (by decide) rfl (by decide) dX4_count_1 ?_
    refine J_aload_n (pc := 32) (n := 0) (i := 0) h 0 rfl rfl dX4_count_32 ?_
    refine J_Dg5 (pc := 33) h (by omega) m_48 (σ 0 5) rfl dX4_count_33 ?_
    exact J_iret (pc := 36) h hr (by subst ho; exact ⟨rfl, rfl⟩) dX4_count_36
  replace ho := (if_neg c1).symm.trans ho
  by_cases c2 : a = 1
  · replace ho := (if_pos c2).symm.trans ho
    refine J_tabIn (pc := 1) h (1) 37 c2 (by decide) (by decide) rfl (by decide) dX4_count_1 ?_
    refine J_aload_n (pc := 37) (n := 0) (i := 0) h 0 rfl rfl dX4_count_37 ?_
    refine J_Dg6 (pc := 38) h (by omega) m_49 (σ 0 6) rfl dX4_count_38 ?_
    exact J_iret (pc := 41) h hr (by subst ho; exact ⟨rfl, rfl⟩) dX4_count_41
  replace ho := (if_neg c2).symm.trans ho
  by_cases c3 : a = 2
  · replace ho := (if_pos c3).symm.trans ho
    refine J_tabIn (pc := 1) h (2) 42 c3 (by decide) (by decide) rfl (by decide) dX4_count_1 ?_
    refine J_aload_n (pc := 42) (n := 0) (i := 0) h 0 rfl rfl dX4_count_42 ?_
    refine J_Dg8 (pc := 43) h (by omega) m_51 (σ 0 8) rfl dX4_count_43 ?_
    exact J_iret (pc := 46) h hr (by subst ho; exact ⟨rfl, rfl⟩) dX4_count_46
  replace ho := (if_neg c3).symm.trans ho
  by_cases c4 : a = 3
  · replace ho := (if_pos c4).symm.trans ho
    refine J_tabIn (pc := 1) h (3) 47 c4 (by decide) (by decide) rfl (by decide) dX4_count_1 ?_
    refine J_aload_n (pc := 47) (n := 0) (i := 0) h 0 rfl rfl dX4_count_47 ?_
    refine J_cD (pc := 48) h hR (by decide) (c_X4_roomsWithSafe _ _ ad n σ  hN ) (by decide) m_322 m_324 ms_12 m_325 ⟨rfl, hd_X4_roomsWithSafe⟩ (by omega) rfl rfl (Nat.le_of_ble_eq_true rfl) [.int (f_X4_roomsWithSafe σ)] rfl dX4_count_48 ?_
    exact J_iret (pc := 51) h hr (by subst ho; exact ⟨rfl, rfl⟩) dX4_count_51
  replace ho := (if_neg c4).symm.trans ho
  refine J_tabOut (pc := 1) h 52 (by have zc1 := ne_toI c1 (n := 0) rfl; have zc2 := ne_toI c2 (n := 1) rfl; have zc3 := ne_toI c3 (n := 2) rfl; have zc4 := ne_toI c4 (n := 3) rfl; omega) (by decide) dX4_count_1 ?_
  refine J_iload_n (pc := 52) (n := 1) (i := 1) h 1 rfl rfl dX4_count_52 ?_
  refine J_iconst (pc := 53) h (4) rfl dX4_count_53 ?_
  refine J_icmp_lt (pc := 54) h 80 (by decide) dX4_count_54 (fun c5 => ?_) (fun c5 => ?_)
  · replace ho := (if_pos c5).symm.trans ho
    refine J_iconst (pc := 80) h (-1) rfl dX4_count_80 ?_
    exact J_iret (pc := 81) h hr (by subst ho; exact ⟨rfl, rfl⟩) dX4_count_81
  · replace ho := (if_neg c5).symm.trans ho
    refine J_iload_n (pc := 57) (n := 1) (i := 1) h 1 rfl rfl dX4_count_57 ?_
    refine J_iconst (pc := 58) h (4) rfl dX4_count_58 ?_
    refine J_isub (pc := 59) h dX4_count_59 ?_
    refine J_cS (pc := 60) h hR (by decide) (c_X4_isPlan _ _ _ (a - 4) ) (by decide) m_151 m_152 m_1 m_153 hd_X4_isPlan rfl rfl (Nat.le_of_ble_eq_true rfl) [.int (f_X4_isPlan (a - 4))] rfl dX4_count_60 ?_
    refine J_if_eq (pc := 63) h 80 (by decide) dX4_count_63 (fun c6 => ?_) (fun c6 => ?_)
    · replace ho := (if_pos c6).symm.trans ho
      refine J_iconst (pc := 80) h (-1) rfl dX4_count_80 ?_
      exact J_iret (pc := 81) h hr (by subst ho; exact ⟨rfl, rfl⟩) dX4_count_81
    · replace ho := (if_neg c6).symm.trans ho
      refine J_aload_n (pc := 66) (n := 0) (i := 0) h 0 rfl rfl dX4_count_66 ?_
      refine J_Dr1 (pc := 67) h (by omega) m_44 dX4_count_67 ?_
      refine J_iload_n (pc := 70) (n := 1) (i := 1) h 1 rfl rfl dX4_count_70 ?_
      refine J_iconst (pc := 71) h (4) rfl dX4_count_71 ?_
      refine J_isub (pc := 72) h dX4_count_72 ?_
      refine J_Pa (pc := 73) h (by omega) (isPlan_in (by assumption)) dX4_count_73 ?_
      refine J_Pz (pc := 74) h (isPlan_lt (by assumption)) (by omega) m_32 (σ (4 + ((a - 4).toNatClampNeg)) 3) rfl dX4_count_74 ?_
      refine J_goto (pc := 77) h 81 (by decide) dX4_count_77 ?_
      exact J_iret (pc := 81) h hr (by subst ho; exact ⟨rfl, rfl⟩) dX4_count_81
end
section
theorem i_lt {a b : Int32} : a < b ↔ a.toInt < b.toInt := Int32.lt_iff_toInt_lt
theorem i_le {a b : Int32} : a ≤ b ↔ a.toInt ≤ b.toInt := Int32.le_iff_toInt_le
theorem ti0 : (0 : Int32).toInt = 0 := rfl
theorem toInt_succ {i : Int32} (h0 : 0 ≤ i.toInt) (h : i.toInt < 2147483647) : (i + 1).toInt = i.toInt + 1 := by
  have hn : ¬ i < 0 := by rw [i_lt, ti0]; omega
  obtain ⟨j, hj, rfl⟩ := nI_of hn
  rw [nI_toInt hj] at h ⊢
  rw [nI_1, nI_toInt (by omega)]
  omega
theorem nat_toInt {i : Int32} (h0 : 0 ≤ i.toInt) : (i.toNatClampNeg : Int) = i.toInt := by
  have hn : ¬ i < 0 := by rw [i_lt, ti0]; omega
  obtain ⟨j, hj, rfl⟩ := nI_of hn
  rw [nI_toInt hj, nI_clamp hj]
/-- what holds of the class's ints while a run goes on: rooms, trace; the plans are those of σ0 -/
def DI (n : Nat) (σ0 σ : Sg) : Prop := RI n σ ∧ (¬ σ 0 3 < 0 ∧ σ 0 3 ≤ 120) ∧ ∀ k, 4 ≤ k → k < 28 → σ k = σ0 k
def Sm (n : Nat) (σ0 σ σ' : Sg) : Prop := DI n σ0 σ' ∧ σ' 0 7 = σ 0 7
theorem Sm.refl {n : Nat} {σ0 σ : Sg} (h : DI n σ0 σ) : Sm n σ0 σ σ := ⟨h, rfl⟩
theorem Sm.trans {n : Nat} {σ0 σ σ1 σ2 : Sg} (h : Sm n σ0 σ σ1) (h2 : Sm n σ0 σ1 σ2) : Sm n σ0 σ σ2 := ⟨h2.1, h2.2.trans h.2⟩
theorem Sm.low {n : Nat} {σ0 σ σ1 σ2 : Sg} (h : Sm n σ0 σ σ1) (e : ∀ k, k < 28 → σ2 k = σ1 k) : Sm n σ0 σ σ2 := by
  refine ⟨⟨h.1.1.of1 (e 1 (by decide)), ?_, fun k h1 h2 => (e k h2).trans (h.1.2.2 k h1 h2)⟩, ?_⟩
  · rw [e 0 (by decide)]; exact h.1.2.1
  · rw [e 0 (by decide)]; exact h.2
theorem Sm.up0 {n : Nat} {σ0 σ σ1 : Sg} (h : Sm n σ0 σ σ1) {i : Nat} (hi : i ≠ 3 ∧ i ≠ 7) (v : Int32) : Sm n σ0 σ (up2 σ1 0 i v) := by
  have e : ∀ k j, k ≠ 0 → up2 σ1 0 i v k j = σ1 k j := fun k j hk => up2_off _ _ hk
  refine ⟨⟨fun r hr => ?_, ?_, fun k h1 h2 => ?_⟩, ?_⟩
  · rw [e 1 r (by decide)]; exact h.1.1 r hr
  · rw [up2_row _ _ _ (Ne.symm hi.1)]; exact h.1.2.1
  · rw [← h.1.2.2 k h1 h2]; funext j; exact e k j (by omega)
  · rw [up2_row _ _ _ (Ne.symm hi.2)]; exact h.2
theorem Sm.enter {n : Nat} {σ0 σ σ1 : Sg} {j : Nat} (h : Sm n σ0 σ σ1) (hj : 28 ≤ j) : Sm n σ0 σ (f_X1_enter j σ1) := h.low (fun k hk => fr_enter (by omega) _)
theorem Sm.leave {n : Nat} {σ0 σ σ1 : Sg} {j : Nat} (h : Sm n σ0 σ σ1) (hj : 28 ≤ j) : Sm n σ0 σ (f_X1_leave j σ1) := h.low (fun k hk => fr_leave (by omega) _)
theorem Sm.trace {n : Nat} {σ0 σ σ1 : Sg} (h : Sm n σ0 σ σ1) (a : Int32) : Sm n σ0 σ (f_X4_leaveInTrace a σ1) := by
  unfold f_X4_leaveInTrace
  by_cases c : (120 : Int32) ≤ σ1 0 3
  · rw [if_pos c]; exact h
  · rw [if_neg c]
    have t0 := h.1.2.1.1
    rw [i_lt, ti0] at t0
    rw [i_le] at c
    have t120 : (120 : Int32).toInt = 120 := rfl
    rw [t120] at c
    have e := toInt_succ (i := σ1 0 3) (by omega) (by omega)
    refine ⟨⟨fun r hr => ?_, ?_, fun k h1 h2 => ?_⟩, ?_⟩
    · rw [up2_off _ _ (by decide), up2_off _ _ (by decide)]; exact h.1.1 r hr
    · rw [up2_self, i_lt, i_le, e, ti0, t120]; omega
    · rw [← h.1.2.2 k h1 h2]; funext j; rw [up2_off _ _ (by omega), up2_off _ _ (by omega)]
    · rw [up2_row _ _ _ (by decide), up2_off _ _ (by decide)]; exact h.2
theorem Sm.room {n : Nat} {σ0 σ σ1 : Sg} (h : Sm n σ0 σ σ1) (a : Int32) {w : Int32} (hw : w = -1 ∨ 28 + w.toNatClampNeg < n) : Sm n σ0 σ (f_X4_setRoom a w σ1) := by
  unfold f_X4_setRoom
  split
  · exact h
  · refine ⟨⟨fun r hr => ?_, ?_, fun k h1 h2 => ?_⟩, ?_⟩
    · by_cases e : r = a.toNatClampNeg
      · rw [e, up2_self]; exact hw
      · rw [up2_row _ _ _ e]; exact h.1.1 r hr
    · rw [up2_off _ _ (by decide)]; exact h.1.2.1
    · rw [← h.1.2.2 k h1 h2]; funext j; rw [up2_off _ _ (by omega)]
    · rw [up2_off _ _ (by decide)]; exact h.2
theorem Sm.vput {n : Nat} {σ0 σ σ1 : Sg} {j : Nat} (h : Sm n σ0 σ σ1) (hj : 28 ≤ j) (v : Int32) : Sm n σ0 σ (f_vput j v σ1).2 := h.low (fun k hk => fr_vput (by omega) _ _)
theorem Sm.vworth {n : Nat} {σ0 σ σ1 : Sg} {j : Nat} (h : Sm n σ0 σ σ1) (hj : 28 ≤ j) : Sm n σ0 σ (f_vworth j σ1).2 := h.low (fun k hk => fr_vworth (by omega) _)
theorem Sm.give {n : Nat} {σ0 σ σ1 : Sg} {j : Nat} {w : Int32} (h : Sm n σ0 σ σ1) (hj : 28 ≤ j) (v : Int32) : Sm n σ0 σ (f_X1_give j v w σ1).2 := h.low (fun k hk => fr_give (by omega) (by omega) _ _)
theorem Sm.ite {n : Nat} {σ0 σ : Sg} {c : Prop} [Decidable c] {y z : Int32 × Sg} (hy : Sm n σ0 σ y.2) (hz : Sm n σ0 σ z.2) : Sm n σ0 σ (if c then y else z).2 := by
  by_cases h : c
  · rw [if_pos h]; exact hy
  · rw [if_neg h]; exact hz
theorem Sm.seek {n : Nat} {σ0 σ : Sg} {b : Int32} : ∀ (m k : Nat) (σ1 : Sg), Sm n σ0 σ σ1 → Sm n σ0 σ (lf_X4_seek m k b σ1).2 := by
  intro m
  induction m with
  | zero => intro k σ1 h; exact h
  | succ m ih =>
    intro k σ1 h
    unfold lf_X4_seek
    repeat' split
    all_goals first | exact h | exact ih _ _ h | exact (h.enter (Nat.le_add_right _ _)).leave (Nat.le_add_right _ _) | exact ih _ _ ((h.enter (Nat.le_add_right _ _)).leave (Nat.le_add_right _ _))
theorem Sm.withRooms {n : Nat} {σ0 σ σ1 : Sg} (h : Sm n σ0 σ σ1) (kd a b : Int32) : Sm n σ0 σ (f_X4_doWithRooms kd a b σ1).2 := by
  unfold f_X4_doWithRooms
  split
  · exact h.room a (safeIn_ok h.1.1 _)
  · split
    · exact h.room a (Or.inl rfl)
    · exact Sm.up0 (Sm.seek _ _ _ h) (by decide) _
theorem Sm.withSafe {n : Nat} {σ0 σ σ1 : Sg} (h : Sm n σ0 σ σ1) (kd w b : Int32) : Sm n σ0 σ (f_X4_doWithSafe kd w b σ1).2 := by
  exact Sm.ite h (Sm.ite (h.vput (Nat.le_add_right _ _) _) (Sm.ite (Sm.up0 (h.vworth (Nat.le_add_right _ _)) (by decide) _) (Sm.ite (h.give (Nat.le_add_right _ _) _) (h.up0 (by decide) _))))
theorem Sm.withValue {n : Nat} {σ0 σ σ1 : Sg} (h : Sm n σ0 σ σ1) (kd a : Int32) : Sm n σ0 σ (f_X4_doWithValue kd a σ1).2 := by
  exact Sm.ite (Sm.ite h (h.up0 (by decide) _)) (Sm.ite h (Sm.ite (h.up0 (by decide) _) (h.up0 (by decide) _)))
/-- the plans: how many steps, and each as it was told -/
def PI (σ0 : Sg) : Prop := ∀ p, p < 6 → (0 ≤ (σ0 (4 + p) 3).toInt ∧ (σ0 (4 + p) 3).toInt ≤ 12) ∧ ∀ i : Nat, (i : Int) < (σ0 (4 + p) 3).toInt → ¬ f_X4_isStep (σ0 (10 + 3 * p + 0) i) (σ0 (10 + 3 * p + 1) i) (σ0 (10 + 3 * p + 2) i) = 0
/-- what a call of doSteps asks: plan p, from a to b, w plans at work, d enough -/
def CR (n : Nat) (σ0 : Sg) (d w p : Nat) (a b : Int32) (σ : Sg) : Prop := p < 6 ∧ 0 ≤ a.toInt ∧ b.toInt ≤ (σ0 (4 + p) 3).toInt ∧ DI n σ0 σ ∧ σ 0 7 = nI w ∧ w ≤ 4 ∧ (4 - w) * 13 + (b.toInt - a.toInt).toNat < d
theorem CR.di {n : Nat} {σ0 : Sg} {d w p : Nat} {a b : Int32} {σ : Sg} (h : CR n σ0 d w p a b σ) : DI n σ0 σ := h.2.2.2.1
theorem CR.of {n : Nat} {σ0 : Sg} {d w p : Nat} {a b : Int32} {σ σ' : Sg} (h : CR n σ0 d w p a b σ) (s : Sm n σ0 σ σ') : CR n σ0 d w p a b σ' := ⟨h.1, h.2.1, h.2.2.1, s.1, s.2.trans h.2.2.2.2.1, h.2.2.2.2.2⟩
abbrev RecT : Type := Nat → Int32 → Int32 → Sg → Int32 × Sg
def RS (n : Nat) (σ0 : Sg) (d : Nat) (rec : RecT) : Prop := ∀ (w p : Nat) (a b : Int32) (σ : Sg), CR n σ0 d w p a b σ → Sm n σ0 σ (rec p a b σ).2
theorem step_room {kd a b : Int32} (hv : ¬ f_X4_isStep kd a b = 0) (hk : kd = 5 ∨ kd = 6 ∨ kd = 13) : vp_in a 8 := by
  apply isRoom_in
  intro q
  apply hv
  rcases hk with rfl | rfl | rfl <;> exact q
theorem behind_le {p : Nat} {i b : Int32} {σ : Sg} (h0 : 0 ≤ i.toInt) (hb : i.toInt < b.toInt) (hb2 : b.toInt ≤ 12) : (f_X0_behind p i b σ).toInt ≤ b.toInt := by
  have e := toInt_succ h0 (by omega)
  have hm : ∀ c : Int32, (f_J9_min_7cf53 c b).toInt ≤ b.toInt := by
    intro c
    unfold f_J9_min_7cf53
    split
    · omega
    · rename_i q
      rw [i_lt] at q
      omega
  unfold f_X0_behind
  by_cases c1 : σ (10 + 3 * p + 0) i.toNatClampNeg = 0
  · rw [if_pos c1]; exact hm _
  · rw [if_neg c1]
    by_cases c2 : σ (10 + 3 * p + 0) i.toNatClampNeg = 1
    · rw [if_pos c2]; exact hm _
    · rw [if_neg c2, e]; omega
end
section
def RC (l : Launch) (g : Gy) (ad : Nat → Nat) (n : Nat) (σ0 : Sg) (d Lr : Nat) (rec : RecT) : Prop := ∀ (w p : Nat) (a b : Int32) (σ : Sg), CR n σ0 d w p a b σ → Con l g yX4_doSteps cX4_doSteps 7 (some .int) (rmL Lr) [.ref (ad 0), .ref (ad (4 + p)), .int a, .int b] (wC g ad n σ) (Det (some (.int (rec p a b σ).1)) (wC g ad n (rec p a b σ).2))
theorem hd_X4_doSteps : yX4_doSteps.cls ≠ "java/lang/invoke/MethodHandle" ∧ yX4_doSteps.cls ≠ "java/lang/invoke/VarHandle" ∧ (parseMethodDescriptor yX4_doSteps.desc).map (fun d => d.parameters.length) = some 3 := by decide +kernel
theorem hd_X4_doStep : yX4_doStep.cls ≠ "java/lang/invoke/MethodHandle" ∧ yX4_doStep.cls ≠ "java/lang/invoke/VarHandle" ∧ (parseMethodDescriptor yX4_doStep.desc).map (fun d => d.parameters.length) = some 3 := by decide +kernel
theorem hd_X4_doInside : yX4_doInside.cls ≠ "java/lang/invoke/MethodHandle" ∧ yX4_doInside.cls ≠ "java/lang/invoke/VarHandle" ∧ (parseMethodDescriptor yX4_doInside.desc).map (fun d => d.parameters.length) = some 4 := by decide +kernel
theorem hd_X4_doTry : yX4_doTry.cls ≠ "java/lang/invoke/MethodHandle" ∧ yX4_doTry.cls ≠ "java/lang/invoke/VarHandle" ∧ (parseMethodDescriptor yX4_doTry.desc).map (fun d => d.parameters.length) = some 4 := by decide +kernel
theorem hd_X4_doPlan : yX4_doPlan.cls ≠ "java/lang/invoke/MethodHandle" ∧ yX4_doPlan.cls ≠ "java/lang/invoke/VarHandle" ∧ (parseMethodDescriptor yX4_doPlan.desc).map (fun d => d.parameters.length) = some 1 := by decide +kernel
def F_X4_doInside (rec : RecT) (w : Int32) (p : Nat) (a : Int32) (b : Int32) (σ : Sg) : Int32 × Sg := (if w = -1 then (1, σ) else ((rec p a b (f_X4_leaveInTrace 1 (f_X1_enter (28 + w.toNatClampNeg) σ))).1, f_X4_leaveInTrace 2 (f_X1_leave (28 + w.toNatClampNeg) ((rec p a b (f_X4_leaveInTrace 1 (f_X1_enter (28 + w.toNatClampNeg) σ))).2))))
set_option maxHeartbeats 4000000 in
set_option maxRecDepth 20000 in
theorem c_X4_doInside (l : Launch) (g : Gy) (ad : Nat → Nat) (n : Nat) (rec : RecT) (σ0 : Sg) (d Lr : Nat) (hL : 10 ≤ Lr) (hrec : RC l g ad n σ0 d Lr rec) (hrs : RS n σ0 d rec) (hPI : PI σ0) (σ : Sg) (w : Int32) (p : Nat) (a : Int32) (b : Int32) (hN : 28 ≤ n) (hw : w = -1 ∨ 28 + w.toNatClampNeg < n) (wk : Nat) (hc : CR n σ0 d wk p a b σ) : Con l g yX4_doInside cX4_doInside 6 (some .int) (rmL (Lr + 1)) [.ref (ad 0), va_rf (rfa ad w), .ref (ad (4 + p)), .int a, .int b] (wC g ad n σ) (Det (some (.int (F_X4_doInside rec w p a b σ).1)) (wC g ad n (F_X4_doInside rec w p a b σ).2)) := by
  refine Con.of (by decide) (by simp [lg_sl, rf_cat, ref_cat, int_cat]) ?_
  intro x h e1 e2 e3 e4 e5 hr
  subst e1 e2
  have h : Ok x cX4_doInside "SafeDesk" (some .int) := h
  have hR : RmOk x (Lr + 1) 0 0 := RmOk.of e3 (Nat.le_refl _) (Nat.le_refl _)
  obtain ⟨out, ho⟩ : ∃ o, F_X4_doInside rec w p a b σ = o := ⟨_, rfl⟩
  rw [ho] at hr
  unfold F_X4_doInside at ho
  rw [show lv_args 0 [.ref (ad 0), va_rf (rfa ad w), .ref (ad (4 + p)), .int a, .int b] = [(0, .ref (ad 0)), (1, va_rf (rfa ad w)), (2, .ref (ad (4 + p))), (3, .int a), (4, .int b)] from by simp [lv_args, rf_cat, ref_cat, int_cat]]
  refine J_aload_nq (pc := 0) (n := 1) (i := 1) h 1 rfl rfl dX4_doInside_0 ?_
  refine J_ifnonnullr (pc := 1) h 6 (by decide) dX4_doInside_1 (fun c1 => ?_) (fun c1 => ?_)
  · replace ho := (if_neg c1).symm.trans ho
    rw [rfa_ne c1]
    refine J_aload_n (pc := 6) (n := 1) (i := 1) h 1 rfl rfl dX4_doInside_6 ?_
    refine J_cU (pc := 7) (z := ⟨"SafeDesk$Safe", "enter", "()V"⟩) h hR (Nat.le_add_right _ _) (hw.resolve_left (by assumption)) (by omega) (c_X1_enter _ _ ad n σ (28 + w.toNatClampNeg)  (Nat.le_add_right _ _) (hw.resolve_left (by assumption)) ) (by decide) m_212 m_215 (Sels.of3 m_214 m_216 m_217) m_213 m_218 rfl hd_X1_enter rfl rfl (Nat.le_of_ble_eq_true rfl) [] rfl dX4_doInside_7 ?_
    refine J_aload_n (pc := 10) (n := 0) (i := 0) h 0 rfl rfl dX4_doInside_10 ?_
    refine J_iconst (pc := 11) h (1) rfl dX4_doInside_11 ?_
    refine J_cD (pc := 12) h hR (by omega) (c_X4_leaveInTrace _ _ ad n (f_X1_enter (28 + w.toNatClampNeg) σ) 1 hN  (show Sm n σ0 σ (f_X1_enter (28 + w.toNatClampNeg) σ) from ((Sm.refl hc.di).enter (by omega))).1.2.1.1) (by decide) m_200 m_202 ms_3 m_203 ⟨rfl, hd_X4_leaveInTrace⟩ (by omega) rfl rfl (Nat.le_of_ble_eq_true rfl) [] rfl dX4_doInside_12 ?_
    refine J_aload_n (pc := 15) (n := 0) (i := 0) h 0 rfl rfl dX4_doInside_15 ?_
    refine J_aload_n (pc := 16) (n := 2) (i := 2) h 2 rfl rfl dX4_doInside_16 ?_
    refine J_iload_n (pc := 17) (n := 3) (i := 3) h 3 rfl rfl dX4_doInside_17 ?_
    refine J_iload (pc := 18) h 4 rfl dX4_doInside_18 ?_
    have hcr : CR n σ0 d (wk) p a b (f_X4_leaveInTrace 1 (f_X1_enter (28 + w.toNatClampNeg) σ)) := hc.of (((Sm.refl hc.di).enter (by omega)).trace _)
    refine J_cD (pc := 20) h hR (by omega) (hrec _ p a b (f_X4_leaveInTrace 1 (f_X1_enter (28 + w.toNatClampNeg) σ)) hcr) (by decide) m_185 m_187 ms_1 m_188 ⟨rfl, hd_X4_doSteps⟩ (by omega) rfl rfl (Nat.le_of_ble_eq_true rfl) [.int ((rec p a b (f_X4_leaveInTrace 1 (f_X1_enter (28 + w.toNatClampNeg) σ))).1)] rfl dX4_doInside_20 ?_
    refine J_istore (pc := 23) h [(5, .int ((rec p a b (f_X4_leaveInTrace 1 (f_X1_enter (28 + w.toNatClampNeg) σ))).1)), (0, .ref (ad 0)), (1, .ref (ad (28 + w.toNatClampNeg))), (2, .ref (ad (4 + p))), (3, .int a), (4, .int b)] (by rw [e4]; decide) rfl dX4_doInside_23 ?_
    refine J_aload_n (pc := 25) (n := 1) (i := 1) h 2 rfl rfl dX4_doInside_25 ?_
    refine J_cU (pc := 26) (z := ⟨"SafeDesk$Safe", "leave", "()V"⟩) h hR (Nat.le_add_right _ _) (hw.resolve_left (by assumption)) (by omega) (c_X1_leave _ _ ad n ((rec p a b (f_X4_leaveInTrace 1 (f_X1_enter (28 + w.toNatClampNeg) σ))).2) (28 + w.toNatClampNeg)  (Nat.le_add_right _ _) (hw.resolve_left (by assumption)) ) (by decide) m_219 m_222 (Sels.of3 m_221 m_223 m_224) m_220 m_225 rfl hd_X1_leave rfl rfl (Nat.le_of_ble_eq_true rfl) [] rfl dX4_doInside_26 ?_
    refine J_aload_n (pc := 29) (n := 0) (i := 0) h 1 rfl rfl dX4_doInside_29 ?_
    refine J_iconst (pc := 30) h (2) rfl dX4_doInside_30 ?_
    refine J_cD (pc := 31) h hR (by omega) (c_X4_leaveInTrace _ _ ad n (f_X1_leave (28 + w.toNatClampNeg) ((rec p a b (f_X4_leaveInTrace 1 (f_X1_enter (28 + w.toNatClampNeg) σ))).2)) 2 hN  (show Sm n σ0 σ (f_X1_leave (28 + w.toNatClampNeg) ((rec p a b (f_X4_leaveInTrace 1 (f_X1_enter (28 + w.toNatClampNeg) σ))).2)) from (((((Sm.refl hc.di).enter (by omega)).trace _).trans (hrs _ p a b (f_X4_leaveInTrace 1 (f_X1_enter (28 + w.toNatClampNeg) σ)) hcr)).leave (by omega))).1.2.1.1) (by decide) m_200 m_202 ms_3 m_203 ⟨rfl, hd_X4_leaveInTrace⟩ (by omega) rfl rfl (Nat.le_of_ble_eq_true rfl) [] rfl dX4_doInside_31 ?_
    refine J_iload (pc := 34) h 0 rfl dX4_doInside_34 ?_
    exact J_iret (pc := 36) h hr (by subst ho; exact ⟨rfl, rfl⟩) dX4_doInside_36
  · replace ho := (if_pos c1).symm.trans ho
    refine J_iconst (pc := 4) h (1) rfl dX4_doInside_4 ?_
    exact J_iret (pc := 5) h hr (by subst ho; exact ⟨rfl, rfl⟩) dX4_doInside_5
def F_X4_doTry (rec : RecT) (hd : Int32) (p : Nat) (a : Int32) (b : Int32) (σ : Sg) : Int32 × Sg := (if (rec p a b σ).1 = 0 then ((rec p a b σ).1, (rec p a b σ).2) else (if (rec p a b σ).1 = (-1) then ((rec p a b σ).1, (rec p a b σ).2) else (if (rec p a b σ).1 = 40 then ((rec p a b σ).1, (rec p a b σ).2) else (if hd = 0 then (0, up2 ((rec p a b σ).2) 0 4 ((rec p a b σ).1)) else (if hd = (rec p a b σ).1 then (0, up2 ((rec p a b σ).2) 0 4 ((rec p a b σ).1)) else ((rec p a b σ).1, (rec p a b σ).2))))))
set_option maxHeartbeats 4000000 in
set_option maxRecDepth 20000 in
theorem c_X4_doTry (l : Launch) (g : Gy) (ad : Nat → Nat) (n : Nat) (rec : RecT) (σ0 : Sg) (d Lr : Nat) (hL : 10 ≤ Lr) (hrec : RC l g ad n σ0 d Lr rec) (hrs : RS n σ0 d rec) (hPI : PI σ0) (σ : Sg) (hd : Int32) (p : Nat) (a : Int32) (b : Int32) (hN : 28 ≤ n) (wk : Nat) (hc : CR n σ0 d wk p a b σ) : Con l g yX4_doTry cX4_doTry 6 (some .int) (rmL (Lr + 1)) [.ref (ad 0), .int hd, .ref (ad (4 + p)), .int a, .int b] (wC g ad n σ) (Det (some (.int (F_X4_doTry rec hd p a b σ).1)) (wC g ad n (F_X4_doTry rec hd p a b σ).2)) := by
  refine Con.of (by decide) (Nat.le_of_ble_eq_true rfl) ?_
  intro x h e1 e2 e3 e4 e5 hr
  subst e1 e2
  have h : Ok x cX4_doTry "SafeDesk" (some .int) := h
  have hR : RmOk x (Lr + 1) 0 0 := RmOk.of e3 (Nat.le_refl _) (Nat.le_refl _)
  obtain ⟨out, ho⟩ : ∃ o, F_X4_doTry rec hd p a b σ = o := ⟨_, rfl⟩
  rw [ho] at hr
  unfold F_X4_doTry at ho
  show J x 0 0 _ 0 [(0, .ref (ad 0)), (1, .int hd), (2, .ref (ad (4 + p))), (3, .int a), (4, .int b)] []
  refine J_aload_n (pc := 0) (n := 0) (i := 0) h 0 rfl rfl dX4_doTry_0 ?_
  refine J_aload_n (pc := 1) (n := 2) (i := 2) h 2 rfl rfl dX4_doTry_1 ?_
  refine J_iload_n (pc := 2) (n := 3) (i := 3) h 3 rfl rfl dX4_doTry_2 ?_
  refine J_iload (pc := 3) h 4 rfl dX4_doTry_3 ?_
  have hcr : CR n σ0 d (wk) p a b σ := hc.of (Sm.refl hc.di)
  refine J_cD (pc := 5) h hR (by omega) (hrec _ p a b σ hcr) (by decide) m_185 m_187 ms_1 m_188 ⟨rfl, hd_X4_doSteps⟩ (by omega) rfl rfl (Nat.le_of_ble_eq_true rfl) [.int ((rec p a b σ).1)] rfl dX4_doTry_5 ?_
  refine J_istore (pc := 8) h [(5, .int ((rec p a b σ).1)), (0, .ref (ad 0)), (1, .int hd), (2, .ref (ad (4 + p))), (3, .int a), (4, .int b)] (by rw [e4]; decide) rfl dX4_doTry_8 ?_
  refine J_iload (pc := 10) h 0 rfl dX4_doTry_10 ?_
  refine J_if_eq (pc := 12) h 28 (by decide) dX4_doTry_12 (fun c1 => ?_) (fun c1 => ?_)
  · replace ho := (if_pos c1).symm.trans ho
    refine J_iload (pc := 28) h 0 rfl dX4_doTry_28 ?_
    exact J_iret (pc := 30) h hr (by subst ho; exact ⟨rfl, rfl⟩) dX4_doTry_30
  · replace ho := (if_neg c1).symm.trans ho
    refine J_iload (pc := 15) h 0 rfl dX4_doTry_15 ?_
    refine J_iconst (pc := 17) h (-1) rfl dX4_doTry_17 ?_
    refine J_icmp_eq (pc := 18) h 28 (by decide) dX4_doTry_18 (fun c2 => ?_) (fun c2 => ?_)
    · replace ho := (if_pos c2).symm.trans ho
      refine J_iload (pc := 28) h 0 rfl dX4_doTry_28 ?_
      exact J_iret (pc := 30) h hr (by subst ho; exact ⟨rfl, rfl⟩) dX4_doTry_30
    · replace ho := (if_neg c2).symm.trans ho
      refine J_iload (pc := 21) h 0 rfl dX4_doTry_21 ?_
      refine J_bipush (pc := 23) h (40) rfl dX4_doTry_23 ?_
      refine J_icmp_ne (pc := 25) h 31 (by decide) dX4_doTry_25 (fun c3 => ?_) (fun c3 => ?_)
      · replace ho := (if_neg c3).symm.trans ho
        refine J_iload_n (pc := 31) (n := 1) (i := 1) h 2 rfl rfl dX4_doTry_31 ?_
        refine J_if_eq (pc := 32) h 44 (by decide) dX4_doTry_32 (fun c4 => ?_) (fun c4 => ?_)
        · replace ho := (if_pos c4).symm.trans ho
          refine J_aload_n (pc := 44) (n := 0) (i := 0) h 1 rfl rfl dX4_doTry_44 ?_
          refine J_iload (pc := 45) h 0 rfl dX4_doTry_45 ?_
          refine J_Dp4 (pc := 47) h (by omega) m_47 dX4_doTry_47 ?_
          refine J_iconst (pc := 50) h (0) rfl dX4_doTry_50 ?_
          exact J_iret (pc := 51) h hr (by subst ho; exact ⟨rfl, rfl⟩) dX4_doTry_51
        · replace ho := (if_neg c4).symm.trans ho
          refine J_iload_n (pc := 35) (n := 1) (i := 1) h 2 rfl rfl dX4_doTry_35 ?_
          refine J_iload (pc := 36) h 0 rfl dX4_doTry_36 ?_
          refine J_icmp_eq (pc := 38) h 44 (by decide) dX4_doTry_38 (fun c5 => ?_) (fun c5 => ?_)
          · replace ho := (if_pos c5).symm.trans ho
            refine J_aload_n (pc := 44) (n := 0) (i := 0) h 1 rfl rfl dX4_doTry_44 ?_
            refine J_iload (pc := 45) h 0 rfl dX4_doTry_45 ?_
            refine J_Dp4 (pc := 47) h (by omega) m_47 dX4_doTry_47 ?_
            refine J_iconst (pc := 50) h (0) rfl dX4_doTry_50 ?_
            exact J_iret (pc := 51) h hr (by subst ho; exact ⟨rfl, rfl⟩) dX4_doTry_51
          · replace ho := (if_neg c5).symm.trans ho
            refine J_iload (pc := 41) h 0 rfl dX4_doTry_41 ?_
            exact J_iret (pc := 43) h hr (by subst ho; exact ⟨rfl, rfl⟩) dX4_doTry_43
      · replace ho := (if_pos c3).symm.trans ho
        refine J_iload (pc := 28) h 0 rfl dX4_doTry_28 ?_
        exact J_iret (pc := 30) h hr (by subst ho; exact ⟨rfl, rfl⟩) dX4_doTry_30
theorem CR.w7 {n : Nat} {σ0 : Sg} {d w p : Nat} {a b : Int32} {σ : Sg} (h : CR n σ0 d w p a b σ) : σ 0 7 = nI w := h.2.2.2.2.1
theorem CR.w4 {n : Nat} {σ0 : Sg} {d w p : Nat} {a b : Int32} {σ : Sg} (h : CR n σ0 d w p a b σ) : w ≤ 4 := h.2.2.2.2.2.1
theorem CR.hd {n : Nat} {σ0 : Sg} {d w p : Nat} {a b : Int32} {σ : Sg} (h : CR n σ0 d w p a b σ) : (4 - w) * 13 ≤ d := by have := h.2.2.2.2.2.2; omega
theorem CR_plan {n : Nat} {σ0 σ : Sg} {d wk p : Nat} (hPI : PI σ0) (hD : DI n σ0 σ) (hw7 : σ 0 7 = nI wk) (hw4 : wk ≤ 4) (hlt : ¬ 4 ≤ σ 0 7) (hp : p < 6) (hd : (4 - wk) * 13 ≤ d) (v : Int32) : CR n σ0 d (wk + 1) p 0 (σ (4 + p) 3) (up2 (up2 σ 0 7 ((σ 0 7) + 1)) 0 8 v) := by
  have e : σ (4 + p) = σ0 (4 + p) := hD.2.2 (4 + p) (by omega) (by omega)
  have z := (hPI p hp).1
  rw [hw7, show (4 : Int32) = nI 4 from rfl] at hlt
  have hlt : wk < 4 := Nat.lt_of_not_le (fun q => hlt (nI_le q (by omega)))
  refine ⟨hp, by rw [ti0]; exact Int.le_refl 0, by rw [e]; exact Int.le_refl _, ⟨fun r hr => ?_, ?_, fun k h1 h2 => ?_⟩, ?_, by omega, ?_⟩
  · rw [up2_off _ _ (by decide), up2_off _ _ (by decide)]; exact hD.1 r hr
  · rw [up2_row _ _ _ (by decide), up2_row _ _ _ (by decide)]; exact hD.2.1
  · rw [← hD.2.2 k h1 h2]; funext j; rw [up2_off _ _ (by omega), up2_off _ _ (by omega)]
  · rw [up2_row _ _ _ (by decide), up2_self, hw7, nI_1]
  · rw [e, ti0]; omega
def F_X4_doPlan (rec : RecT) (pl : Int32) (σ : Sg) : Int32 × Sg := (if 4 ≤ σ 0 7 then (7, σ) else (if f_X4_isPlan pl = 0 then (7, σ) else (if (rec pl.toNatClampNeg 0 (σ (4 + pl.toNatClampNeg) 3) (up2 (up2 σ 0 7 ((σ 0 7) + 1)) 0 8 (f_J9_max_7cf53 (σ 0 8) ((σ 0 7) + 1)))).1 = (-1) then (0, up2 ((rec pl.toNatClampNeg 0 (σ (4 + pl.toNatClampNeg) 3) (up2 (up2 σ 0 7 ((σ 0 7) + 1)) 0 8 (f_J9_max_7cf53 (σ 0 8) ((σ 0 7) + 1)))).2) 0 7 ((((rec pl.toNatClampNeg 0 (σ (4 + pl.toNatClampNeg) 3) (up2 (up2 σ 0 7 ((σ 0 7) + 1)) 0 8 (f_J9_max_7cf53 (σ 0 8) ((σ 0 7) + 1)))).2) 0 7) - 1)) else ((rec pl.toNatClampNeg 0 (σ (4 + pl.toNatClampNeg) 3) (up2 (up2 σ 0 7 ((σ 0 7) + 1)) 0 8 (f_J9_max_7cf53 (σ 0 8) ((σ 0 7) + 1)))).1, up2 ((rec pl.toNatClampNeg 0 (σ (4 + pl.toNatClampNeg) 3) (up2 (up2 σ 0 7 ((σ 0 7) + 1)) 0 8 (f_J9_max_7cf53 (σ 0 8) ((σ 0 7) + 1)))).2) 0 7 ((((rec pl.toNatClampNeg 0 (σ (4 + pl.toNatClampNeg) 3) (up2 (up2 σ 0 7 ((σ 0 7) + 1)) 0 8 (f_J9_max_7cf53 (σ 0 8) ((σ 0 7) + 1)))).2) 0 7) - 1)))))
set_option maxHeartbeats 4000000 in
set_option maxRecDepth 20000 in
theorem c_X4_doPlan (l : Launch) (g : Gy) (ad : Nat → Nat) (n : Nat) (rec : RecT) (σ0 : Sg) (d Lr : Nat) (hL : 10 ≤ Lr) (hrec : RC l g ad n σ0 d Lr rec) (hrs : RS n σ0 d rec) (hPI : PI σ0) (σ : Sg) (pl : Int32) (hN : 28 ≤ n) (hD : DI n σ0 σ) (wk : Nat) (hw7 : σ 0 7 = nI wk) (hw4 : wk ≤ 4) (hd : (4 - wk) * 13 ≤ d) : Con l g yX4_doPlan cX4_doPlan 3 (some .int) (rmL (Lr + 1)) [.ref (ad 0), .int pl] (wC g ad n σ) (Det (some (.int (F_X4_doPlan rec pl σ).1)) (wC g ad n (F_X4_doPlan rec pl σ).2)) := by
  refine Con.of (by decide) (Nat.le_of_ble_eq_true rfl) ?_
  intro x h e1 e2 e3 e4 e5 hr
  subst e1 e2
  have h : Ok x cX4_doPlan "SafeDesk" (some .int) := h
  have hR : RmOk x (Lr + 1) 0 0 := RmOk.of e3 (Nat.le_refl _) (Nat.le_refl _)
  obtain ⟨out, ho⟩ : ∃ o, F_X4_doPlan rec pl σ = o := ⟨_, rfl⟩
  rw [ho] at hr
  unfold F_X4_doPlan at ho
  show J x 0 0 _ 0 [(0, .ref (ad 0)), (1, .int pl)] []
  refine J_aload_n (pc := 0) (n := 0) (i := 0) h 0 rfl rfl dX4_doPlan_0 ?_
  refine J_Dg7 (pc := 1) h (by omega) m_50 (σ 0 7) rfl dX4_doPlan_1 ?_
  refine J_iconst (pc := 4) h (4) rfl dX4_doPlan_4 ?_
  refine J_icmp_ge (pc := 5) h 15 (by decide) dX4_doPlan_5 (fun c1 => ?_) (fun c1 => ?_)
  · replace ho := (if_pos c1).symm.trans ho
    refine J_bipush (pc := 15) h (7) rfl dX4_doPlan_15 ?_
    exact J_iret (pc := 17) h hr (by subst ho; exact ⟨rfl, rfl⟩) dX4_doPlan_17
  · replace ho := (if_neg c1).symm.trans ho
    refine J_iload_n (pc := 8) (n := 1) (i := 1) h 1 rfl rfl dX4_doPlan_8 ?_
    refine J_cS (pc := 9) h hR (by omega) (c_X4_isPlan _ _ _ pl ) (by decide) m_151 m_152 m_1 m_153 hd_X4_isPlan rfl rfl (Nat.le_of_ble_eq_true rfl) [.int (f_X4_isPlan pl)] rfl dX4_doPlan_9 ?_
    refine J_if_ne (pc := 12) h 18 (by decide) dX4_doPlan_12 (fun c2 => ?_) (fun c2 => ?_)
    · replace ho := (if_neg c2).symm.trans ho
      refine J_aload_n (pc := 18) (n := 0) (i := 0) h 0 rfl rfl dX4_doPlan_18 ?_
      refine J_dup (pc := 19) h rfl dX4_doPlan_19 ?_
      refine J_Dg7 (pc := 20) h (by omega) m_50 (σ 0 7) rfl dX4_doPlan_20 ?_
      refine J_iconst (pc := 23) h (1) rfl dX4_doPlan_23 ?_
      refine J_iadd (pc := 24) h dX4_doPlan_24 ?_
      refine J_Dp7 (pc := 25) h (by omega) m_50 dX4_doPlan_25 ?_
      refine J_aload_n (pc := 28) (n := 0) (i := 0) h 0 rfl rfl dX4_doPlan_28 ?_
      refine J_aload_n (pc := 29) (n := 0) (i := 0) h 0 rfl rfl dX4_doPlan_29 ?_
      refine J_Dg8 (pc := 30) h (by omega) m_51 (σ 0 8) (up2_row _ _ _ (by decide)) dX4_doPlan_30 ?_
      refine J_aload_n (pc := 33) (n := 0) (i := 0) h 0 rfl rfl dX4_doPlan_33 ?_
      refine J_Dg7 (pc := 34) h (by omega) m_50 ((σ 0 7) + 1) (up2_self _ _ _ _) dX4_doPlan_34 ?_
      refine J_cS (pc := 37) h hR (by omega) (c_J9_max_7cf53 _ _ _ (σ 0 8) ((σ 0 7) + 1) ) (by decide) m_182 m_183 m_7 m_184 hd_J9_max_7cf53 rfl rfl (Nat.le_of_ble_eq_true rfl) [.int (f_J9_max_7cf53 (σ 0 8) ((σ 0 7) + 1)), .ref (ad 0)] rfl dX4_doPlan_37 ?_
      refine J_Dp8 (pc := 40) h (by omega) m_51 dX4_doPlan_40 ?_
      refine J_aload_n (pc := 43) (n := 0) (i := 0) h 0 rfl rfl dX4_doPlan_43 ?_
      refine J_aload_n (pc := 44) (n := 0) (i := 0) h 0 rfl rfl dX4_doPlan_44 ?_
      refine J_Dr1 (pc := 45) h (by omega) m_44 dX4_doPlan_45 ?_
      refine J_iload_n (pc := 48) (n := 1) (i := 1) h 1 rfl rfl dX4_doPlan_48 ?_
      refine J_Pa (pc := 49) h (by omega) (isPlan_in (by assumption)) dX4_doPlan_49 ?_
      refine J_iconst (pc := 50) h (0) rfl dX4_doPlan_50 ?_
      refine J_aload_n (pc := 51) (n := 0) (i := 0) h 0 rfl rfl dX4_doPlan_51 ?_
      refine J_Dr1 (pc := 52) h (by omega) m_44 dX4_doPlan_52 ?_
      refine J_iload_n (pc := 55) (n := 1) (i := 1) h 1 rfl rfl dX4_doPlan_55 ?_
      refine J_Pa (pc := 56) h (by omega) (isPlan_in (by assumption)) dX4_doPlan_56 ?_
      refine J_Pz (pc := 57) h (isPlan_lt (by assumption)) (by omega) m_32 (σ (4 + pl.toNatClampNeg) 3) ((up2_off _ _ (by omega)).trans (up2_off _ _ (by omega))) dX4_doPlan_57 ?_
      have hcr : CR n σ0 d (wk + 1) pl.toNatClampNeg 0 (σ (4 + pl.toNatClampNeg) 3) (up2 (up2 σ 0 7 ((σ 0 7) + 1)) 0 8 (f_J9_max_7cf53 (σ 0 8) ((σ 0 7) + 1))) := CR_plan hPI hD hw7 hw4 (by assumption) (isPlan_lt (by assumption)) hd _
      refine J_cD (pc := 60) h hR (by omega) (hrec _ pl.toNatClampNeg 0 (σ (4 + pl.toNatClampNeg) 3) (up2 (up2 σ 0 7 ((σ 0 7) + 1)) 0 8 (f_J9_max_7cf53 (σ 0 8) ((σ 0 7) + 1))) hcr) (by decide) m_185 m_187 ms_1 m_188 ⟨rfl, hd_X4_doSteps⟩ (by omega) rfl rfl (Nat.le_of_ble_eq_true rfl) [.int ((rec pl.toNatClampNeg 0 (σ (4 + pl.toNatClampNeg) 3) (up2 (up2 σ 0 7 ((σ 0 7) + 1)) 0 8 (f_J9_max_7cf53 (σ 0 8) ((σ 0 7) + 1)))).1)] rfl dX4_doPlan_60 ?_
      refine J_istore_n (pc := 63) (n := 2) (i := 2) h [(2, .int ((rec pl.toNatClampNeg 0 (σ (4 + pl.toNatClampNeg) 3) (up2 (up2 σ 0 7 ((σ 0 7) + 1)) 0 8 (f_J9_max_7cf53 (σ 0 8) ((σ 0 7) + 1)))).1)), (0, .ref (ad 0)), (1, .int pl)] rfl (by rw [e4]; decide) rfl dX4_doPlan_63 ?_
      refine J_aload_n (pc := 64) (n := 0) (i := 0) h 1 rfl rfl dX4_doPlan_64 ?_
      refine J_dup (pc := 65) h rfl dX4_doPlan_65 ?_
      refine J_Dg7 (pc := 66) h (by omega) m_50 (((rec pl.toNatClampNeg 0 (σ (4 + pl.toNatClampNeg) 3) (up2 (up2 σ 0 7 ((σ 0 7) + 1)) 0 8 (f_J9_max_7cf53 (σ 0 8) ((σ 0 7) + 1)))).2) 0 7) rfl dX4_doPlan_66 ?_
      refine J_iconst (pc := 69) h (1) rfl dX4_doPlan_69 ?_
      refine J_isub (pc := 70) h dX4_doPlan_70 ?_
      refine J_Dp7 (pc := 71) h (by omega) m_50 dX4_doPlan_71 ?_
      refine J_iload_n (pc := 74) (n := 2) (i := 2) h 0 rfl rfl dX4_doPlan_74 ?_
      refine J_iconst (pc := 75) h (-1) rfl dX4_doPlan_75 ?_
      refine J_icmp_ne (pc := 76) h 83 (by decide) dX4_doPlan_76 (fun c3 => ?_) (fun c3 => ?_)
      · replace ho := (if_neg c3).symm.trans ho
        refine J_iload_n (pc := 83) (n := 2) (i := 2) h 0 rfl rfl dX4_doPlan_83 ?_
        exact J_iret (pc := 84) h hr (by subst ho; exact ⟨rfl, rfl⟩) dX4_doPlan_84
      · replace ho := (if_pos c3).symm.trans ho
        refine J_iconst (pc := 79) h (0) rfl dX4_doPlan_79 ?_
        refine J_goto (pc := 80) h 84 (by decide) dX4_doPlan_80 ?_
        exact J_iret (pc := 84) h hr (by subst ho; exact ⟨rfl, rfl⟩) dX4_doPlan_84
    · replace ho := (if_pos c2).symm.trans ho
      refine J_bipush (pc := 15) h (7) rfl dX4_doPlan_15 ?_
      exact J_iret (pc := 17) h hr (by subst ho; exact ⟨rfl, rfl⟩) dX4_doPlan_17
def F_X4_doStep (rec : RecT) (p : Nat) (a : Int32) (b : Int32) (σ : Sg) : Int32 × Sg := (if σ 0 5 < 200 then (if σ (10 + 3 * p + 0) a.toNatClampNeg = 0 then ((F_X4_doInside rec (f_X4_safeIn (σ (10 + 3 * p + 1) a.toNatClampNeg) (f_X4_leaveInTrace (100 + (σ (10 + 3 * p + 0) a.toNatClampNeg)) (up2 σ 0 5 ((σ 0 5) + 1)))) p (a + 1) b (f_X4_leaveInTrace (100 + (σ (10 + 3 * p + 0) a.toNatClampNeg)) (up2 σ 0 5 ((σ 0 5) + 1)))).1, (F_X4_doInside rec (f_X4_safeIn (σ (10 + 3 * p + 1) a.toNatClampNeg) (f_X4_leaveInTrace (100 + (σ (10 + 3 * p + 0) a.toNatClampNeg)) (up2 σ 0 5 ((σ 0 5) + 1)))) p (a + 1) b (f_X4_leaveInTrace (100 + (σ (10 + 3 * p + 0) a.toNatClampNeg)) (up2 σ 0 5 ((σ 0 5) + 1)))).2) else (if σ (10 + 3 * p + 0) a.toNatClampNeg = 1 then ((F_X4_doTry rec (σ (10 + 3 * p + 1) a.toNatClampNeg) p (a + 1) b (f_X4_leaveInTrace (100 + (σ (10 + 3 * p + 0) a.toNatClampNeg)) (up2 σ 0 5 ((σ 0 5) + 1)))).1, (F_X4_doTry rec (σ (10 + 3 * p + 1) a.toNatClampNeg) p (a + 1) b (f_X4_leaveInTrace (100 + (σ (10 + 3 * p + 0) a.toNatClampNeg)) (up2 σ 0 5 ((σ 0 5) + 1)))).2) else (if σ (10 + 3 * p + 0) a.toNatClampNeg = 2 then ((f_X4_doWithSafe (σ (10 + 3 * p + 0) a.toNatClampNeg) (f_X4_safeIn (σ (10 + 3 * p + 1) a.toNatClampNeg) (f_X4_leaveInTrace (100 + (σ (10 + 3 * p + 0) a.toNatClampNeg)) (up2 σ 0 5 ((σ 0 5) + 1)))) ((f_X4_leaveInTrace (100 + (σ (10 + 3 * p + 0) a.toNatClampNeg)) (up2 σ 0 5 ((σ 0 5) + 1))) (10 + 3 * p + 2) a.toNatClampNeg) (f_X4_leaveInTrace (100 + (σ (10 + 3 * p + 0) a.toNatClampNeg)) (up2 σ 0 5 ((σ 0 5) + 1)))).1, (f_X4_doWithSafe (σ (10 + 3 * p + 0) a.toNatClampNeg) (f_X4_safeIn (σ (10 + 3 * p + 1) a.toNatClampNeg) (f_X4_leaveInTrace (100 + (σ (10 + 3 * p + 0) a.toNatClampNeg)) (up2 σ 0 5 ((σ 0 5) + 1)))) ((f_X4_leaveInTrace (100 + (σ (10 + 3 * p + 0) a.toNatClampNeg)) (up2 σ 0 5 ((σ 0 5) + 1))) (10 + 3 * p + 2) a.toNatClampNeg) (f_X4_leaveInTrace (100 + (σ (10 + 3 * p + 0) a.toNatClampNeg)) (up2 σ 0 5 ((σ 0 5) + 1)))).2) else (if σ (10 + 3 * p + 0) a.toNatClampNeg = 3 then ((f_X4_doWithSafe (σ (10 + 3 * p + 0) a.toNatClampNeg) (f_X4_safeIn (σ (10 + 3 * p + 1) a.toNatClampNeg) (f_X4_leaveInTrace (100 + (σ (10 + 3 * p + 0) a.toNatClampNeg)) (up2 σ 0 5 ((σ 0 5) + 1)))) ((f_X4_leaveInTrace (100 + (σ (10 + 3 * p + 0) a.toNatClampNeg)) (up2 σ 0 5 ((σ 0 5) + 1))) (10 + 3 * p + 2) a.toNatClampNeg) (f_X4_leaveInTrace (100 + (σ (10 + 3 * p + 0) a.toNatClampNeg)) (up2 σ 0 5 ((σ 0 5) + 1)))).1, (f_X4_doWithSafe (σ (10 + 3 * p + 0) a.toNatClampNeg) (f_X4_safeIn (σ (10 + 3 * p + 1) a.toNatClampNeg) (f_X4_leaveInTrace (100 + (σ (10 + 3 * p + 0) a.toNatClampNeg)) (up2 σ 0 5 ((σ 0 5) + 1)))) ((f_X4_leaveInTrace (100 + (σ (10 + 3 * p + 0) a.toNatClampNeg)) (up2 σ 0 5 ((σ 0 5) + 1))) (10 + 3 * p + 2) a.toNatClampNeg) (f_X4_leaveInTrace (100 + (σ (10 + 3 * p + 0) a.toNatClampNeg)) (up2 σ 0 5 ((σ 0 5) + 1)))).2) else (if σ (10 + 3 * p + 0) a.toNatClampNeg = 4 then ((f_X4_doWithSafe (σ (10 + 3 * p + 0) a.toNatClampNeg) (f_X4_safeIn (σ (10 + 3 * p + 1) a.toNatClampNeg) (f_X4_leaveInTrace (100 + (σ (10 + 3 * p + 0) a.toNatClampNeg)) (up2 σ 0 5 ((σ 0 5) + 1)))) ((f_X4_leaveInTrace (100 + (σ (10 + 3 * p + 0) a.toNatClampNeg)) (up2 σ 0 5 ((σ 0 5) + 1))) (10 + 3 * p + 2) a.toNatClampNeg) (f_X4_leaveInTrace (100 + (σ (10 + 3 * p + 0) a.toNatClampNeg)) (up2 σ 0 5 ((σ 0 5) + 1)))).1, (f_X4_doWithSafe (σ (10 + 3 * p + 0) a.toNatClampNeg) (f_X4_safeIn (σ (10 + 3 * p + 1) a.toNatClampNeg) (f_X4_leaveInTrace (100 + (σ (10 + 3 * p + 0) a.toNatClampNeg)) (up2 σ 0 5 ((σ 0 5) + 1)))) ((f_X4_leaveInTrace (100 + (σ (10 + 3 * p + 0) a.toNatClampNeg)) (up2 σ 0 5 ((σ 0 5) + 1))) (10 + 3 * p + 2) a.toNatClampNeg) (f_X4_leaveInTrace (100 + (σ (10 + 3 * p + 0) a.toNatClampNeg)) (up2 σ 0 5 ((σ 0 5) + 1)))).2) else (if σ (10 + 3 * p + 0) a.toNatClampNeg = 5 then ((f_X4_doWithRooms (σ (10 + 3 * p + 0) a.toNatClampNeg) (σ (10 + 3 * p + 1) a.toNatClampNeg) ((f_X4_leaveInTrace (100 + (σ (10 + 3 * p + 0) a.toNatClampNeg)) (up2 σ 0 5 ((σ 0 5) + 1))) (10 + 3 * p + 2) a.toNatClampNeg) (f_X4_leaveInTrace (100 + (σ (10 + 3 * p + 0) a.toNatClampNeg)) (up2 σ 0 5 ((σ 0 5) + 1)))).1, (f_X4_doWithRooms (σ (10 + 3 * p + 0) a.toNatClampNeg) (σ (10 + 3 * p + 1) a.toNatClampNeg) ((f_X4_leaveInTrace (100 + (σ (10 + 3 * p + 0) a.toNatClampNeg)) (up2 σ 0 5 ((σ 0 5) + 1))) (10 + 3 * p + 2) a.toNatClampNeg) (f_X4_leaveInTrace (100 + (σ (10 + 3 * p + 0) a.toNatClampNeg)) (up2 σ 0 5 ((σ 0 5) + 1)))).2) else (if σ (10 + 3 * p + 0) a.toNatClampNeg = 6 then ((f_X4_doWithRooms (σ (10 + 3 * p + 0) a.toNatClampNeg) (σ (10 + 3 * p + 1) a.toNatClampNeg) ((f_X4_leaveInTrace (100 + (σ (10 + 3 * p + 0) a.toNatClampNeg)) (up2 σ 0 5 ((σ 0 5) + 1))) (10 + 3 * p + 2) a.toNatClampNeg) (f_X4_leaveInTrace (100 + (σ (10 + 3 * p + 0) a.toNatClampNeg)) (up2 σ 0 5 ((σ 0 5) + 1)))).1, (f_X4_doWithRooms (σ (10 + 3 * p + 0) a.toNatClampNeg) (σ (10 + 3 * p + 1) a.toNatClampNeg) ((f_X4_leaveInTrace (100 + (σ (10 + 3 * p + 0) a.toNatClampNeg)) (up2 σ 0 5 ((σ 0 5) + 1))) (10 + 3 * p + 2) a.toNatClampNeg) (f_X4_leaveInTrace (100 + (σ (10 + 3 * p + 0) a.toNatClampNeg)) (up2 σ 0 5 ((σ 0 5) + 1)))).2) else (if σ (10 + 3 * p + 0) a.toNatClampNeg = 7 then ((f_X4_doWithSafe (σ (10 + 3 * p + 0) a.toNatClampNeg) (f_X4_safeIn (σ (10 + 3 * p + 1) a.toNatClampNeg) (f_X4_leaveInTrace (100 + (σ (10 + 3 * p + 0) a.toNatClampNeg)) (up2 σ 0 5 ((σ 0 5) + 1)))) ((f_X4_leaveInTrace (100 + (σ (10 + 3 * p + 0) a.toNatClampNeg)) (up2 σ 0 5 ((σ 0 5) + 1))) (10 + 3 * p + 2) a.toNatClampNeg) (f_X4_leaveInTrace (100 + (σ (10 + 3 * p + 0) a.toNatClampNeg)) (up2 σ 0 5 ((σ 0 5) + 1)))).1, (f_X4_doWithSafe (σ (10 + 3 * p + 0) a.toNatClampNeg) (f_X4_safeIn (σ (10 + 3 * p + 1) a.toNatClampNeg) (f_X4_leaveInTrace (100 + (σ (10 + 3 * p + 0) a.toNatClampNeg)) (up2 σ 0 5 ((σ 0 5) + 1)))) ((f_X4_leaveInTrace (100 + (σ (10 + 3 * p + 0) a.toNatClampNeg)) (up2 σ 0 5 ((σ 0 5) + 1))) (10 + 3 * p + 2) a.toNatClampNeg) (f_X4_leaveInTrace (100 + (σ (10 + 3 * p + 0) a.toNatClampNeg)) (up2 σ 0 5 ((σ 0 5) + 1)))).2) else (if σ (10 + 3 * p + 0) a.toNatClampNeg = 8 then ((f_X4_doWithValue (σ (10 + 3 * p + 0) a.toNatClampNeg) (σ (10 + 3 * p + 1) a.toNatClampNeg) (f_X4_leaveInTrace (100 + (σ (10 + 3 * p + 0) a.toNatClampNeg)) (up2 σ 0 5 ((σ 0 5) + 1)))).1, (f_X4_doWithValue (σ (10 + 3 * p + 0) a.toNatClampNeg) (σ (10 + 3 * p + 1) a.toNatClampNeg) (f_X4_leaveInTrace (100 + (σ (10 + 3 * p + 0) a.toNatClampNeg)) (up2 σ 0 5 ((σ 0 5) + 1)))).2) else (if σ (10 + 3 * p + 0) a.toNatClampNeg = 9 then ((f_X4_doWithValue (σ (10 + 3 * p + 0) a.toNatClampNeg) (σ (10 + 3 * p + 1) a.toNatClampNeg) (f_X4_leaveInTrace (100 + (σ (10 + 3 * p + 0) a.toNatClampNeg)) (up2 σ 0 5 ((σ 0 5) + 1)))).1, (f_X4_doWithValue (σ (10 + 3 * p + 0) a.toNatClampNeg) (σ (10 + 3 * p + 1) a.toNatClampNeg) (f_X4_leaveInTrace (100 + (σ (10 + 3 * p + 0) a.toNatClampNeg)) (up2 σ 0 5 ((σ 0 5) + 1)))).2) else (if σ (10 + 3 * p + 0) a.toNatClampNeg = 10 then ((f_X4_doWithValue (σ (10 + 3 * p + 0) a.toNatClampNeg) (σ (10 + 3 * p + 1) a.toNatClampNeg) (f_X4_leaveInTrace (100 + (σ (10 + 3 * p + 0) a.toNatClampNeg)) (up2 σ 0 5 ((σ 0 5) + 1)))).1, (f_X4_doWithValue (σ (10 + 3 * p + 0) a.toNatClampNeg) (σ (10 + 3 * p + 1) a.toNatClampNeg) (f_X4_leaveInTrace (100 + (σ (10 + 3 * p + 0) a.toNatClampNeg)) (up2 σ 0 5 ((σ 0 5) + 1)))).2) else (if σ (10 + 3 * p + 0) a.toNatClampNeg = 11 then ((f_X4_doWithValue (σ (10 + 3 * p + 0) a.toNatClampNeg) (σ (10 + 3 * p + 1) a.toNatClampNeg) (f_X4_leaveInTrace (100 + (σ (10 + 3 * p + 0) a.toNatClampNeg)) (up2 σ 0 5 ((σ 0 5) + 1)))).1, (f_X4_doWithValue (σ (10 + 3 * p + 0) a.toNatClampNeg) (σ (10 + 3 * p + 1) a.toNatClampNeg) (f_X4_leaveInTrace (100 + (σ (10 + 3 * p + 0) a.toNatClampNeg)) (up2 σ 0 5 ((σ 0 5) + 1)))).2) else (if σ (10 + 3 * p + 0) a.toNatClampNeg = 12 then ((F_X4_doPlan rec (σ (10 + 3 * p + 1) a.toNatClampNeg) (f_X4_leaveInTrace (100 + (σ (10 + 3 * p + 0) a.toNatClampNeg)) (up2 σ 0 5 ((σ 0 5) + 1)))).1, (F_X4_doPlan rec (σ (10 + 3 * p + 1) a.toNatClampNeg) (f_X4_leaveInTrace (100 + (σ (10 + 3 * p + 0) a.toNatClampNeg)) (up2 σ 0 5 ((σ 0 5) + 1)))).2) else (if σ (10 + 3 * p + 0) a.toNatClampNeg = 13 then ((f_X4_doWithRooms (σ (10 + 3 * p + 0) a.toNatClampNeg) (σ (10 + 3 * p + 1) a.toNatClampNeg) ((f_X4_leaveInTrace (100 + (σ (10 + 3 * p + 0) a.toNatClampNeg)) (up2 σ 0 5 ((σ 0 5) + 1))) (10 + 3 * p + 2) a.toNatClampNeg) (f_X4_leaveInTrace (100 + (σ (10 + 3 * p + 0) a.toNatClampNeg)) (up2 σ 0 5 ((σ 0 5) + 1)))).1, (f_X4_doWithRooms (σ (10 + 3 * p + 0) a.toNatClampNeg) (σ (10 + 3 * p + 1) a.toNatClampNeg) ((f_X4_leaveInTrace (100 + (σ (10 + 3 * p + 0) a.toNatClampNeg)) (up2 σ 0 5 ((σ 0 5) + 1))) (10 + 3 * p + 2) a.toNatClampNeg) (f_X4_leaveInTrace (100 + (σ (10 + 3 * p + 0) a.toNatClampNeg)) (up2 σ 0 5 ((σ 0 5) + 1)))).2) else ((f_X4_doWithSafe (σ (10 + 3 * p + 0) a.toNatClampNeg) (f_X4_safeIn (σ (10 + 3 * p + 1) a.toNatClampNeg) (f_X4_leaveInTrace (100 + (σ (10 + 3 * p + 0) a.toNatClampNeg)) (up2 σ 0 5 ((σ 0 5) + 1)))) ((f_X4_leaveInTrace (100 + (σ (10 + 3 * p + 0) a.toNatClampNeg)) (up2 σ 0 5 ((σ 0 5) + 1))) (10 + 3 * p + 2) a.toNatClampNeg) (f_X4_leaveInTrace (100 + (σ (10 + 3 * p + 0) a.toNatClampNeg)) (up2 σ 0 5 ((σ 0 5) + 1)))).1, (f_X4_doWithSafe (σ (10 + 3 * p + 0) a.toNatClampNeg) (f_X4_safeIn (σ (10 + 3 * p + 1) a.toNatClampNeg) (f_X4_leaveInTrace (100 + (σ (10 + 3 * p + 0) a.toNatClampNeg)) (up2 σ 0 5 ((σ 0 5) + 1)))) ((f_X4_leaveInTrace (100 + (σ (10 + 3 * p + 0) a.toNatClampNeg)) (up2 σ 0 5 ((σ 0 5) + 1))) (10 + 3 * p + 2) a.toNatClampNeg) (f_X4_leaveInTrace (100 + (σ (10 + 3 * p + 0) a.toNatClampNeg)) (up2 σ 0 5 ((σ 0 5) + 1)))).2))))))))))))))) else (40, σ))
set_option maxHeartbeats 4000000 in
set_option maxRecDepth 20000 in
theorem c_X4_doStep (l : Launch) (g : Gy) (ad : Nat → Nat) (n : Nat) (rec : RecT) (σ0 : Sg) (d Lr : Nat) (hL : 10 ≤ Lr) (hrec : RC l g ad n σ0 d Lr rec) (hrs : RS n σ0 d rec) (hPI : PI σ0) (σ : Sg) (p : Nat) (a : Int32) (b : Int32) (hN : 28 ≤ n) (wk : Nat) (hc : CR n σ0 d wk p (a + 1) b σ) (hat : vp_in a 12) (hv : ¬ f_X4_isStep (σ (10 + 3 * p + 0) a.toNatClampNeg) (σ (10 + 3 * p + 1) a.toNatClampNeg) (σ (10 + 3 * p + 2) a.toNatClampNeg) = 0) : Con l g yX4_doStep cX4_doStep 6 (some .int) (rmL (Lr + 2)) [.ref (ad 0), .ref (ad (4 + p)), .int a, .int b] (wC g ad n σ) (Det (some (.int (F_X4_doStep rec p a b σ).1)) (wC g ad n (F_X4_doStep rec p a b σ).2)) := by
  refine Con.of (by decide) (Nat.le_of_ble_eq_true rfl) ?_
  intro x h e1 e2 e3 e4 e5 hr
  subst e1 e2
  have h : Ok x cX4_doStep "SafeDesk" (some .int) := h
  have hR : RmOk x (Lr + 2) 0 0 := RmOk.of e3 (Nat.le_refl _) (Nat.le_refl _)
  obtain ⟨out, ho⟩ : ∃ o, F_X4_doStep rec p a b σ = o := ⟨_, rfl⟩
  rw [ho] at hr
  unfold F_X4_doStep at ho
  show J x 0 0 _ 0 [(0, .ref (ad 0)), (1, .ref (ad (4 + p))), (2, .int a), (3, .int b)] []
  refine J_aload_n (pc := 0) (n := 0) (i := 0) h 0 rfl rfl dX4_doStep_0 ?_
  refine J_Dg5 (pc := 1) h (by omega) m_48 (σ 0 5) rfl dX4_doStep_1 ?_
  refine J_sipush (pc := 4) h (200) rfl dX4_doStep_4 ?_
  refine J_icmp_lt (pc := 7) h 13 (by decide) dX4_doStep_7 (fun c1 => ?_) (fun c1 => ?_)
  · replace ho := (if_pos c1).symm.trans ho
    refine J_aload_n (pc := 13) (n := 0) (i := 0) h 0 rfl rfl dX4_doStep_13 ?_
    refine J_dup (pc := 14) h rfl dX4_doStep_14 ?_
    refine J_Dg5 (pc := 15) h (by omega) m_48 (σ 0 5) rfl dX4_doStep_15 ?_
    refine J_iconst (pc := 18) h (1) rfl dX4_doStep_18 ?_
    refine J_iadd (pc := 19) h dX4_doStep_19 ?_
    refine J_Dp5 (pc := 20) h (by omega) m_48 dX4_doStep_20 ?_
    refine J_aload_n (pc := 23) (n := 1) (i := 1) h 1 rfl rfl dX4_doStep_23 ?_
    refine J_Pr0 (pc := 24) h hc.1 (by omega) m_26 dX4_doStep_24 ?_
    refine J_iload_n (pc := 27) (n := 2) (i := 2) h 2 rfl rfl dX4_doStep_27 ?_
    refine J_Ia (pc := 28) h hc.1 (by decide) (by omega) hat (σ (10 + 3 * p + 0) a.toNatClampNeg) (up2_off _ _ (by omega)) dX4_doStep_28 ?_
    refine J_istore (pc := 29) h [(4, .int (σ (10 + 3 * p + 0) a.toNatClampNeg)), (0, .ref (ad 0)), (1, .ref (ad (4 + p))), (2, .int a), (3, .int b)] (by rw [e4]; decide) rfl dX4_doStep_29 ?_
    refine J_aload_n (pc := 31) (n := 1) (i := 1) h 2 rfl rfl dX4_doStep_31 ?_
    refine J_Pr1 (pc := 32) h hc.1 (by omega) m_28 dX4_doStep_32 ?_
    refine J_iload_n (pc := 35) (n := 2) (i := 2) h 3 rfl rfl dX4_doStep_35 ?_
    refine J_Ia (pc := 36) h hc.1 (by decide) (by omega) hat (σ (10 + 3 * p + 1) a.toNatClampNeg) (up2_off _ _ (by omega)) dX4_doStep_36 ?_
    refine J_istore (pc := 37) h [(5, .int (σ (10 + 3 * p + 1) a.toNatClampNeg)), (4, .int (σ (10 + 3 * p + 0) a.toNatClampNeg)), (0, .ref (ad 0)), (1, .ref (ad (4 + p))), (2, .int a), (3, .int b)] (by rw [e4]; decide) rfl dX4_doStep_37 ?_
    refine J_aload_n (pc := 39) (n := 0) (i := 0) h 2 rfl rfl dX4_doStep_39 ?_
    refine J_bipush (pc := 40) h (100) rfl dX4_doStep_40 ?_
    refine J_iload (pc := 42) h 1 rfl dX4_doStep_42 ?_
    refine J_iadd (pc := 44) h dX4_doStep_44 ?_
    refine J_cD (pc := 45) h hR (by omega) (c_X4_leaveInTrace _ _ ad n (up2 σ 0 5 ((σ 0 5) + 1)) (100 + (σ (10 + 3 * p + 0) a.toNatClampNeg)) hN  (show Sm n σ0 σ (up2 σ 0 5 ((σ 0 5) + 1)) from ((Sm.refl hc.di).up0 (by decide) _)).1.2.1.1) (by decide) m_200 m_202 ms_3 m_203 ⟨rfl, hd_X4_leaveInTrace⟩ (by omega) rfl rfl (Nat.le_of_ble_eq_true rfl) [] rfl dX4_doStep_45 ?_
    refine J_iload (pc := 48) h 1 rfl dX4_doStep_48 ?_
    by_cases c2 : σ (10 + 3 * p + 0) a.toNatClampNeg = 0
    · replace ho := (if_pos c2).symm.trans ho
      refine J_tabIn (pc := 50) h (0) 120 c2 (by decide) (by decide) rfl (by decide) dX4_doStep_50 ?_
      refine J_aload_n (pc := 120) (n := 0) (i := 0) h 2 rfl rfl dX4_doStep_120 ?_
      refine J_aload_n (pc := 121) (n := 0) (i := 0) h 2 rfl rfl dX4_doStep_121 ?_
      refine J_iload (pc := 122) h 0 rfl dX4_doStep_122 ?_
      refine J_cD (pc := 124) h hR (by omega) (c_X4_safeIn _ _ ad n (f_X4_leaveInTrace (100 + (σ (10 + 3 * p + 0) a.toNatClampNeg)) (up2 σ 0 5 ((σ 0 5) + 1))) (σ (10 + 3 * p + 1) a.toNatClampNeg) hN ) (by decide) m_204 m_206 ms_4 m_207 ⟨rfl, hd_X4_safeIn⟩ (by omega) rfl rfl (Nat.le_of_ble_eq_true rfl) [va_rf (rfa ad (f_X4_safeIn (σ (10 + 3 * p + 1) a.toNatClampNeg) (f_X4_leaveInTrace (100 + (σ (10 + 3 * p + 0) a.toNatClampNeg)) (up2 σ 0 5 ((σ 0 5) + 1))))), .ref (ad 0)] rfl dX4_doStep_124 ?_
      refine J_aload_n (pc := 127) (n := 1) (i := 1) h 3 rfl rfl dX4_doStep_127 ?_
      refine J_iload_n (pc := 128) (n := 2) (i := 2) h 4 rfl rfl dX4_doStep_128 ?_
      refine J_iconst (pc := 129) h (1) rfl dX4_doStep_129 ?_
      refine J_iadd (pc := 130) h dX4_doStep_130 ?_
      refine J_iload_n (pc := 131) (n := 3) (i := 3) h 5 rfl rfl dX4_doStep_131 ?_
      refine J_cD (pc := 132) h hR (by omega) (c_X4_doInside _ _ ad n rec σ0 d Lr hL hrec hrs hPI (f_X4_leaveInTrace (100 + (σ (10 + 3 * p + 0) a.toNatClampNeg)) (up2 σ 0 5 ((σ 0 5) + 1))) (f_X4_safeIn (σ (10 + 3 * p + 1) a.toNatClampNeg) (f_X4_leaveInTrace (100 + (σ (10 + 3 * p + 0) a.toNatClampNeg)) (up2 σ 0 5 ((σ 0 5) + 1)))) p (a + 1) b hN (safeIn_ok (show Sm n σ0 σ (f_X4_leaveInTrace (100 + (σ (10 + 3 * p + 0) a.toNatClampNeg)) (up2 σ 0 5 ((σ 0 5) + 1))) from (((Sm.refl hc.di).up0 (by decide) _).trace _)).1.1 _) wk (hc.of (show Sm n σ0 σ (f_X4_leaveInTrace (100 + (σ (10 + 3 * p + 0) a.toNatClampNeg)) (up2 σ 0 5 ((σ 0 5) + 1))) from (((Sm.refl hc.di).up0 (by decide) _).trace _)))) (by decide) m_208 m_210 ms_5 m_211 ⟨rfl, hd_X4_doInside⟩ (by omega) rfl rfl (Nat.le_of_ble_eq_true rfl) [.int ((F_X4_doInside rec (f_X4_safeIn (σ (10 + 3 * p + 1) a.toNatClampNeg) (f_X4_leaveInTrace (100 + (σ (10 + 3 * p + 0) a.toNatClampNeg)) (up2 σ 0 5 ((σ 0 5) + 1)))) p (a + 1) b (f_X4_leaveInTrace (100 + (σ (10 + 3 * p + 0) a.toNatClampNeg)) (up2 σ 0 5 ((σ 0 5) + 1)))).1)] rfl dX4_doStep_132 ?_
      exact J_iret (pc := 135) h hr (by subst ho; exact ⟨rfl, rfl⟩) dX4_doStep_135
    replace ho := (if_neg c2).symm.trans ho
    by_cases c3 : σ (10 + 3 * p + 0) a.toNatClampNeg = 1
    · replace ho := (if_pos c3).symm.trans ho
      refine J_tabIn (pc := 50) h (1) 136 c3 (by decide) (by decide) rfl (by decide) dX4_doStep_50 ?_
      refine J_aload_n (pc := 136) (n := 0) (i := 0) h 2 rfl rfl dX4_doStep_136 ?_
      refine J_iload (pc := 137) h 0 rfl dX4_doStep_137 ?_
      refine J_aload_n (pc := 139) (n := 1) (i := 1) h 3 rfl rfl dX4_doStep_139 ?_
      refine J_iload_n (pc := 140) (n := 2) (i := 2) h 4 rfl rfl dX4_doStep_140 ?_
      refine J_iconst (pc := 141) h (1) rfl dX4_doStep_141 ?_
      refine J_iadd (pc := 142) h dX4_doStep_142 ?_
      refine J_iload_n (pc := 143) (n := 3) (i := 3) h 5 rfl rfl dX4_doStep_143 ?_
      refine J_cD (pc := 144) h hR (by omega) (c_X4_doTry _ _ ad n rec σ0 d Lr hL hrec hrs hPI (f_X4_leaveInTrace (100 + (σ (10 + 3 * p + 0) a.toNatClampNeg)) (up2 σ 0 5 ((σ 0 5) + 1))) (σ (10 + 3 * p + 1) a.toNatClampNeg) p (a + 1) b hN wk (hc.of (show Sm n σ0 σ (f_X4_leaveInTrace (100 + (σ (10 + 3 * p + 0) a.toNatClampNeg)) (up2 σ 0 5 ((σ 0 5) + 1))) from (((Sm.refl hc.di).up0 (by decide) _).trace _)))) (by decide) m_226 m_228 ms_6 m_229 ⟨rfl, hd_X4_doTry⟩ (by omega) rfl rfl (Nat.le_of_ble_eq_true rfl) [.int ((F_X4_doTry rec (σ (10 + 3 * p + 1) a.toNatClampNeg) p (a + 1) b (f_X4_leaveInTrace (100 + (σ (10 + 3 * p + 0) a.toNatClampNeg)) (up2 σ 0 5 ((σ 0 5) + 1)))).1)] rfl dX4_doStep_144 ?_
      exact J_iret (pc := 147) h hr (by subst ho; exact ⟨rfl, rfl⟩) dX4_doStep_147
    replace ho := (if_neg c3).symm.trans ho
    by_cases c4 : σ (10 + 3 * p + 0) a.toNatClampNeg = 2
    · replace ho := (if_pos c4).symm.trans ho
      refine J_tabIn (pc := 50) h (2) 179 c4 (by decide) (by decide) rfl (by decide) dX4_doStep_50 ?_
      refine J_aload_n (pc := 179) (n := 0) (i := 0) h 2 rfl rfl dX4_doStep_179 ?_
      refine J_iload (pc := 180) h 1 rfl dX4_doStep_180 ?_
      refine J_aload_n (pc := 182) (n := 0) (i := 0) h 2 rfl rfl dX4_doStep_182 ?_
      refine J_iload (pc := 183) h 0 rfl dX4_doStep_183 ?_
      refine J_cD (pc := 185) h hR (by omega) (c_X4_safeIn _ _ ad n (f_X4_leaveInTrace (100 + (σ (10 + 3 * p + 0) a.toNatClampNeg)) (up2 σ 0 5 ((σ 0 5) + 1))) (σ (10 + 3 * p + 1) a.toNatClampNeg) hN ) (by decide) m_204 m_206 ms_4 m_207 ⟨rfl, hd_X4_safeIn⟩ (by omega) rfl rfl (Nat.le_of_ble_eq_true rfl) [va_rf (rfa ad (f_X4_safeIn (σ (10 + 3 * p + 1) a.toNatClampNeg) (f_X4_leaveInTrace (100 + (σ (10 + 3 * p + 0) a.toNatClampNeg)) (up2 σ 0 5 ((σ 0 5) + 1))))), .int (σ (10 + 3 * p + 0) a.toNatClampNeg), .ref (ad 0)] rfl dX4_doStep_185 ?_
      refine J_aload_n (pc := 188) (n := 1) (i := 1) h 3 rfl rfl dX4_doStep_188 ?_
      refine J_Pr2 (pc := 189) h hc.1 (by omega) m_30 dX4_doStep_189 ?_
      refine J_iload_n (pc := 192) (n := 2) (i := 2) h 4 rfl rfl dX4_doStep_192 ?_
      refine J_Ia (pc := 193) h hc.1 (by decide) (by omega) hat ((f_X4_leaveInTrace (100 + (σ (10 + 3 * p + 0) a.toNatClampNeg)) (up2 σ 0 5 ((σ 0 5) + 1))) (10 + 3 * p + 2) a.toNatClampNeg) rfl dX4_doStep_193 ?_
      refine J_cD (pc := 194) h hR (by omega) (c_X4_doWithSafe _ _ ad n (f_X4_leaveInTrace (100 + (σ (10 + 3 * p + 0) a.toNatClampNeg)) (up2 σ 0 5 ((σ 0 5) + 1))) (σ (10 + 3 * p + 0) a.toNatClampNeg) (f_X4_safeIn (σ (10 + 3 * p + 1) a.toNatClampNeg) (f_X4_leaveInTrace (100 + (σ (10 + 3 * p + 0) a.toNatClampNeg)) (up2 σ 0 5 ((σ 0 5) + 1)))) ((f_X4_leaveInTrace (100 + (σ (10 + 3 * p + 0) a.toNatClampNeg)) (up2 σ 0 5 ((σ 0 5) + 1))) (10 + 3 * p + 2) a.toNatClampNeg) hN  (safeIn_ok (show Sm n σ0 σ (f_X4_leaveInTrace (100 + (σ (10 + 3 * p + 0) a.toNatClampNeg)) (up2 σ 0 5 ((σ 0 5) + 1))) from (((Sm.refl hc.di).up0 (by decide) _).trace _)).1.1 _) (show Sm n σ0 σ (f_X4_leaveInTrace (100 + (σ (10 + 3 * p + 0) a.toNatClampNeg)) (up2 σ 0 5 ((σ 0 5) + 1))) from (((Sm.refl hc.di).up0 (by decide) _).trace _)).1.1) (by decide) m_249 m_251 ms_11 m_252 ⟨rfl, hd_X4_doWithSafe⟩ (by omega) rfl rfl (Nat.le_of_ble_eq_true rfl) [.int ((f_X4_doWithSafe (σ (10 + 3 * p + 0) a.toNatClampNeg) (f_X4_safeIn (σ (10 + 3 * p + 1) a.toNatClampNeg) (f_X4_leaveInTrace (100 + (σ (10 + 3 * p + 0) a.toNatClampNeg)) (up2 σ 0 5 ((σ 0 5) + 1)))) ((f_X4_leaveInTrace (100 + (σ (10 + 3 * p + 0) a.toNatClampNeg)) (up2 σ 0 5 ((σ 0 5) + 1))) (10 + 3 * p + 2) a.toNatClampNeg) (f_X4_leaveInTrace (100 + (σ (10 + 3 * p + 0) a.toNatClampNeg)) (up2 σ 0 5 ((σ 0 5) + 1)))).1)] rfl dX4_doStep_194 ?_
      exact J_iret (pc := 197) h hr (by subst ho; exact ⟨rfl, rfl⟩) dX4_doStep_197
    replace ho := (if_neg c4).symm.trans ho
    by_cases c5 : σ (10 + 3 * p + 0) a.toNatClampNeg = 3
    · replace ho := (if_pos c5).symm.trans ho
      refine J_tabIn (pc := 50) h (3) 179 c5 (by decide) (by decide) rfl (by decide) dX4_doStep_50 ?_
      refine J_aload_n (pc := 179) (n := 0) (i := 0) h 2 rfl rfl dX4_doStep_179 ?_
      refine J_iload (pc := 180) h 1 rfl dX4_doStep_180 ?_
      refine J_aload_n (pc := 182) (n := 0) (i := 0) h 2 rfl rfl dX4_doStep_182 ?_
      refine J_iload (pc := 183) h 0 rfl dX4_doStep_183 ?_
      refine J_cD (pc := 185) h hR (by omega) (c_X4_safeIn _ _ ad n (f_X4_leaveInTrace (100 + (σ (10 + 3 * p + 0) a.toNatClampNeg)) (up2 σ 0 5 ((σ 0 5) + 1))) (σ (10 + 3 * p + 1) a.toNatClampNeg) hN ) (by decide) m_204 m_206 ms_4 m_207 ⟨rfl, hd_X4_safeIn⟩ (by omega) rfl rfl (Nat.le_of_ble_eq_true rfl) [va_rf (rfa ad (f_X4_safeIn (σ (10 + 3 * p + 1) a.toNatClampNeg) (f_X4_leaveInTrace (100 + (σ (10 + 3 * p + 0) a.toNatClampNeg)) (up2 σ 0 5 ((σ 0 5) + 1))))), .int (σ (10 + 3 * p + 0) a.toNatClampNeg), .ref (ad 0)] rfl dX4_doStep_185 ?_
      refine J_aload_n (pc := 188) (n := 1) (i := 1) h 3 rfl rfl dX4_doStep_188 ?_
      refine J_Pr2 (pc := 189) h hc.1 (by omega) m_30 dX4_doStep_189 ?_
      refine J_iload_n (pc := 192) (n := 2) (i := 2) h 4 rfl rfl dX4_doStep_192 ?_
      refine J_Ia (pc := 193) h hc.1 (by decide) (by omega) hat ((f_X4_leaveInTrace (100 + (σ (10 + 3 * p + 0) a.toNatClampNeg)) (up2 σ 0 5 ((σ 0 5) + 1))) (10 + 3 * p + 2) a.toNatClampNeg) rfl dX4_doStep_193 ?_
      refine J_cD (pc := 194) h hR (by omega) (c_X4_doWithSafe _ _ ad n (f_X4_leaveInTrace (100 + (σ (10 + 3 * p + 0) a.toNatClampNeg)) (up2 σ 0 5 ((σ 0 5) + 1))) (σ (10 + 3 * p + 0) a.toNatClampNeg) (f_X4_safeIn (σ (10 + 3 * p + 1) a.toNatClampNeg) (f_X4_leaveInTrace (100 + (σ (10 + 3 * p + 0) a.toNatClampNeg)) (up2 σ 0 5 ((σ 0 5) + 1)))) ((f_X4_leaveInTrace (100 + (σ (10 + 3 * p + 0) a.toNatClampNeg)) (up2 σ 0 5 ((σ 0 5) + 1))) (10 + 3 * p + 2) a.toNatClampNeg) hN  (safeIn_ok (show Sm n σ0 σ (f_X4_leaveInTrace (100 + (σ (10 + 3 * p + 0) a.toNatClampNeg)) (up2 σ 0 5 ((σ 0 5) + 1))) from (((Sm.refl hc.di).up0 (by decide) _).trace _)).1.1 _) (show Sm n σ0 σ (f_X4_leaveInTrace (100 + (σ (10 + 3 * p + 0) a.toNatClampNeg)) (up2 σ 0 5 ((σ 0 5) + 1))) from (((Sm.refl hc.di).up0 (by decide) _).trace _)).1.1) (by decide) m_249 m_251 ms_11 m_252 ⟨rfl, hd_X4_doWithSafe⟩ (by omega) rfl rfl (Nat.le_of_ble_eq_true rfl) [.int ((f_X4_doWithSafe (σ (10 + 3 * p + 0) a.toNatClampNeg) (f_X4_safeIn (σ (10 + 3 * p + 1) a.toNatClampNeg) (f_X4_leaveInTrace (100 + (σ (10 + 3 * p + 0) a.toNatClampNeg)) (up2 σ 0 5 ((σ 0 5) + 1)))) ((f_X4_leaveInTrace (100 + (σ (10 + 3 * p + 0) a.toNatClampNeg)) (up2 σ 0 5 ((σ 0 5) + 1))) (10 + 3 * p + 2) a.toNatClampNeg) (f_X4_leaveInTrace (100 + (σ (10 + 3 * p + 0) a.toNatClampNeg)) (up2 σ 0 5 ((σ 0 5) + 1)))).1)] rfl dX4_doStep_194 ?_
      exact J_iret (pc := 197) h hr (by subst ho; exact ⟨rfl, rfl⟩) dX4_doStep_197
    replace ho := (if_neg c5).symm.trans ho
    by_cases c6 : σ (10 + 3 * p + 0) a.toNatClampNeg = 4
    · replace ho := (if_pos c6).symm.trans ho
      refine J_tabIn (pc := 50) h (4) 179 c6 (by decide) (by decide) rfl (by decide) dX4_doStep_50 ?_
      refine J_aload_n (pc := 179) (n := 0) (i := 0) h 2 rfl rfl dX4_doStep_179 ?_
      refine J_iload (pc := 180) h 1 rfl dX4_doStep_180 ?_
      refine J_aload_n (pc := 182) (n := 0) (i := 0) h 2 rfl rfl dX4_doStep_182 ?_
      refine J_iload (pc := 183) h 0 rfl dX4_doStep_183 ?_
      refine J_cD (pc := 185) h hR (by omega) (c_X4_safeIn _ _ ad n (f_X4_leaveInTrace (100 + (σ (10 + 3 * p + 0) a.toNatClampNeg)) (up2 σ 0 5 ((σ 0 5) + 1))) (σ (10 + 3 * p + 1) a.toNatClampNeg) hN ) (by decide) m_204 m_206 ms_4 m_207 ⟨rfl, hd_X4_safeIn⟩ (by omega) rfl rfl (Nat.le_of_ble_eq_true rfl) [va_rf (rfa ad (f_X4_safeIn (σ (10 + 3 * p + 1) a.toNatClampNeg) (f_X4_leaveInTrace (100 + (σ (10 + 3 * p + 0) a.toNatClampNeg)) (up2 σ 0 5 ((σ 0 5) + 1))))), .int (σ (10 + 3 * p + 0) a.toNatClampNeg), .ref (ad 0)] rfl dX4_doStep_185 ?_
      refine J_aload_n (pc := 188) (n := 1) (i := 1) h 3 rfl rfl dX4_doStep_188 ?_
      refine J_Pr2 (pc := 189) h hc.1 (by omega) m_30 dX4_doStep_189 ?_
      refine J_iload_n (pc := 192) (n := 2) (i := 2) h 4 rfl rfl dX4_doStep_192 ?_
      refine J_Ia (pc := 193) h hc.1 (by decide) (by omega) hat ((f_X4_leaveInTrace (100 + (σ (10 + 3 * p + 0) a.toNatClampNeg)) (up2 σ 0 5 ((σ 0 5) + 1))) (10 + 3 * p + 2) a.toNatClampNeg) rfl dX4_doStep_193 ?_
      refine J_cD (pc := 194) h hR (by omega) (c_X4_doWithSafe _ _ ad n (f_X4_leaveInTrace (100 + (σ (10 + 3 * p + 0) a.toNatClampNeg)) (up2 σ 0 5 ((σ 0 5) + 1))) (σ (10 + 3 * p + 0) a.toNatClampNeg) (f_X4_safeIn (σ (10 + 3 * p + 1) a.toNatClampNeg) (f_X4_leaveInTrace (100 + (σ (10 + 3 * p + 0) a.toNatClampNeg)) (up2 σ 0 5 ((σ 0 5) + 1)))) ((f_X4_leaveInTrace (100 + (σ (10 + 3 * p + 0) a.toNatClampNeg)) (up2 σ 0 5 ((σ 0 5) + 1))) (10 + 3 * p + 2) a.toNatClampNeg) hN  (safeIn_ok (show Sm n σ0 σ (f_X4_leaveInTrace (100 + (σ (10 + 3 * p + 0) a.toNatClampNeg)) (up2 σ 0 5 ((σ 0 5) + 1))) from (((Sm.refl hc.di).up0 (by decide) _).trace _)).1.1 _) (show Sm n σ0 σ (f_X4_leaveInTrace (100 + (σ (10 + 3 * p + 0) a.toNatClampNeg)) (up2 σ 0 5 ((σ 0 5) + 1))) from (((Sm.refl hc.di).up0 (by decide) _).trace _)).1.1) (by decide) m_249 m_251 ms_11 m_252 ⟨rfl, hd_X4_doWithSafe⟩ (by omega) rfl rfl (Nat.le_of_ble_eq_true rfl) [.int ((f_X4_doWithSafe (σ (10 + 3 * p + 0) a.toNatClampNeg) (f_X4_safeIn (σ (10 + 3 * p + 1) a.toNatClampNeg) (f_X4_leaveInTrace (100 + (σ (10 + 3 * p + 0) a.toNatClampNeg)) (up2 σ 0 5 ((σ 0 5) + 1)))) ((f_X4_leaveInTrace (100 + (σ (10 + 3 * p + 0) a.toNatClampNeg)) (up2 σ 0 5 ((σ 0 5) + 1))) (10 + 3 * p + 2) a.toNatClampNeg) (f_X4_leaveInTrace (100 + (σ (10 + 3 * p + 0) a.toNatClampNeg)) (up2 σ 0 5 ((σ 0 5) + 1)))).1)] rfl dX4_doStep_194 ?_
      exact J_iret (pc := 197) h hr (by subst ho; exact ⟨rfl, rfl⟩) dX4_doStep_197
    replace ho := (if_neg c6).symm.trans ho
    by_cases c7 : σ (10 + 3 * p + 0) a.toNatClampNeg = 5
    · replace ho := (if_pos c7).symm.trans ho
      refine J_tabIn (pc := 50) h (5) 164 c7 (by decide) (by decide) rfl (by decide) dX4_doStep_50 ?_
      refine J_aload_n (pc := 164) (n := 0) (i := 0) h 2 rfl rfl dX4_doStep_164 ?_
      refine J_iload (pc := 165) h 1 rfl dX4_doStep_165 ?_
      refine J_iload (pc := 167) h 0 rfl dX4_doStep_167 ?_
      refine J_aload_n (pc := 169) (n := 1) (i := 1) h 3 rfl rfl dX4_doStep_169 ?_
      refine J_Pr2 (pc := 170) h hc.1 (by omega) m_30 dX4_doStep_170 ?_
      refine J_iload_n (pc := 173) (n := 2) (i := 2) h 4 rfl rfl dX4_doStep_173 ?_
      refine J_Ia (pc := 174) h hc.1 (by decide) (by omega) hat ((f_X4_leaveInTrace (100 + (σ (10 + 3 * p + 0) a.toNatClampNeg)) (up2 σ 0 5 ((σ 0 5) + 1))) (10 + 3 * p + 2) a.toNatClampNeg) rfl dX4_doStep_174 ?_
      refine J_cD (pc := 175) h hR (by omega) (c_X4_doWithRooms _ _ ad n (f_X4_leaveInTrace (100 + (σ (10 + 3 * p + 0) a.toNatClampNeg)) (up2 σ 0 5 ((σ 0 5) + 1))) (σ (10 + 3 * p + 0) a.toNatClampNeg) (σ (10 + 3 * p + 1) a.toNatClampNeg) ((f_X4_leaveInTrace (100 + (σ (10 + 3 * p + 0) a.toNatClampNeg)) (up2 σ 0 5 ((σ 0 5) + 1))) (10 + 3 * p + 2) a.toNatClampNeg) hN  (show Sm n σ0 σ (f_X4_leaveInTrace (100 + (σ (10 + 3 * p + 0) a.toNatClampNeg)) (up2 σ 0 5 ((σ 0 5) + 1))) from (((Sm.refl hc.di).up0 (by decide) _).trace _)).1.1 (fun _ _ => step_room hv (by first | exact Or.inl (by assumption) | exact Or.inr (Or.inl (by assumption)) | exact Or.inr (Or.inr (by assumption))))) (by decide) m_234 m_236 ms_8 m_237 ⟨rfl, hd_X4_doWithRooms⟩ (by omega) rfl rfl (Nat.le_of_ble_eq_true rfl) [.int ((f_X4_doWithRooms (σ (10 + 3 * p + 0) a.toNatClampNeg) (σ (10 + 3 * p + 1) a.toNatClampNeg) ((f_X4_leaveInTrace (100 + (σ (10 + 3 * p + 0) a.toNatClampNeg)) (up2 σ 0 5 ((σ 0 5) + 1))) (10 + 3 * p + 2) a.toNatClampNeg) (f_X4_leaveInTrace (100 + (σ (10 + 3 * p + 0) a.toNatClampNeg)) (up2 σ 0 5 ((σ 0 5) + 1)))).1)] rfl dX4_doStep_175 ?_
      exact J_iret (pc := 178) h hr (by subst ho; exact ⟨rfl, rfl⟩) dX4_doStep_178
    replace ho := (if_neg c7).symm.trans ho
    by_cases c8 : σ (10 + 3 * p + 0) a.toNatClampNeg = 6
    · replace ho := (if_pos c8).symm.trans ho
      refine J_tabIn (pc := 50) h (6) 164 c8 (by decide) (by decide) rfl (by decide) dX4_doStep_50 ?_
      refine J_aload_n (pc := 164) (n := 0) (i := 0) h 2 rfl rfl dX4_doStep_164 ?_
      refine J_iload (pc := 165) h 1 rfl dX4_doStep_165 ?_
      refine J_iload (pc := 167) h 0 rfl dX4_doStep_167 ?_
      refine J_aload_n (pc := 169) (n := 1) (i := 1) h 3 rfl rfl dX4_doStep_169 ?_
      refine J_Pr2 (pc := 170) h hc.1 (by omega) m_30 dX4_doStep_170 ?_
      refine J_iload_n (pc := 173) (n := 2) (i := 2) h 4 rfl rfl dX4_doStep_173 ?_
      refine J_Ia (pc := 174) h hc.1 (by decide) (by omega) hat ((f_X4_leaveInTrace (100 + (σ (10 + 3 * p + 0) a.toNatClampNeg)) (up2 σ 0 5 ((σ 0 5) + 1))) (10 + 3 * p + 2) a.toNatClampNeg) rfl dX4_doStep_174 ?_
      refine J_cD (pc := 175) h hR (by omega) (c_X4_doWithRooms _ _ ad n (f_X4_leaveInTrace (100 + (σ (10 + 3 * p + 0) a.toNatClampNeg)) (up2 σ 0 5 ((σ 0 5) + 1))) (σ (10 + 3 * p + 0) a.toNatClampNeg) (σ (10 + 3 * p + 1) a.toNatClampNeg) ((f_X4_leaveInTrace (100 + (σ (10 + 3 * p + 0) a.toNatClampNeg)) (up2 σ 0 5 ((σ 0 5) + 1))) (10 + 3 * p + 2) a.toNatClampNeg) hN  (show Sm n σ0 σ (f_X4_leaveInTrace (100 + (σ (10 + 3 * p + 0) a.toNatClampNeg)) (up2 σ 0 5 ((σ 0 5) + 1))) from (((Sm.refl hc.di).up0 (by decide) _).trace _)).1.1 (fun _ _ => step_room hv (by first | exact Or.inl (by assumption) | exact Or.inr (Or.inl (by assumption)) | exact Or.inr (Or.inr (by assumption))))) (by decide) m_234 m_236 ms_8 m_237 ⟨rfl, hd_X4_doWithRooms⟩ (by omega) rfl rfl (Nat.le_of_ble_eq_true rfl) [.int ((f_X4_doWithRooms (σ (10 + 3 * p + 0) a.toNatClampNeg) (σ (10 + 3 * p + 1) a.toNatClampNeg) ((f_X4_leaveInTrace (100 + (σ (10 + 3 * p + 0) a.toNatClampNeg)) (up2 σ 0 5 ((σ 0 5) + 1))) (10 + 3 * p + 2) a.toNatClampNeg) (f_X4_leaveInTrace (100 + (σ (10 + 3 * p + 0) a.toNatClampNeg)) (up2 σ 0 5 ((σ 0 5) + 1)))).1)] rfl dX4_doStep_175 ?_
      exact J_iret (pc := 178) h hr (by subst ho; exact ⟨rfl, rfl⟩) dX4_doStep_178
    replace ho := (if_neg c8).symm.trans ho
    by_cases c9 : σ (10 + 3 * p + 0) a.toNatClampNeg = 7
    · replace ho := (if_pos c9).symm.trans ho
      refine J_tabIn (pc := 50) h (7) 179 c9 (by decide) (by decide) rfl (by decide) dX4_doStep_50 ?_
      refine J_aload_n (pc := 179) (n := 0) (i := 0) h 2 rfl rfl dX4_doStep_179 ?_
      refine J_iload (pc := 180) h 1 rfl dX4_doStep_180 ?_
      refine J_aload_n (pc := 182) (n := 0) (i := 0) h 2 rfl rfl dX4_doStep_182 ?_
      refine J_iload (pc := 183) h 0 rfl dX4_doStep_183 ?_
      refine J_cD (pc := 185) h hR (by omega) (c_X4_safeIn _ _ ad n (f_X4_leaveInTrace (100 + (σ (10 + 3 * p + 0) a.toNatClampNeg)) (up2 σ 0 5 ((σ 0 5) + 1))) (σ (10 + 3 * p + 1) a.toNatClampNeg) hN ) (by decide) m_204 m_206 ms_4 m_207 ⟨rfl, hd_X4_safeIn⟩ (by omega) rfl rfl (Nat.le_of_ble_eq_true rfl) [va_rf (rfa ad (f_X4_safeIn (σ (10 + 3 * p + 1) a.toNatClampNeg) (f_X4_leaveInTrace (100 + (σ (10 + 3 * p + 0) a.toNatClampNeg)) (up2 σ 0 5 ((σ 0 5) + 1))))), .int (σ (10 + 3 * p + 0) a.toNatClampNeg), .ref (ad 0)] rfl dX4_doStep_185 ?_
      refine J_aload_n (pc := 188) (n := 1) (i := 1) h 3 rfl rfl dX4_doStep_188 ?_
      refine J_Pr2 (pc := 189) h hc.1 (by omega) m_30 dX4_doStep_189 ?_
      refine J_iload_n (pc := 192) (n := 2) (i := 2) h 4 rfl rfl dX4_doStep_192 ?_
      refine J_Ia (pc := 193) h hc.1 (by decide) (by omega) hat ((f_X4_leaveInTrace (100 + (σ (10 + 3 * p + 0) a.toNatClampNeg)) (up2 σ 0 5 ((σ 0 5) + 1))) (10 + 3 * p + 2) a.toNatClampNeg) rfl dX4_doStep_193 ?_
      refine J_cD (pc := 194) h hR (by omega) (c_X4_doWithSafe _ _ ad n (f_X4_leaveInTrace (100 + (σ (10 + 3 * p + 0) a.toNatClampNeg)) (up2 σ 0 5 ((σ 0 5) + 1))) (σ (10 + 3 * p + 0) a.toNatClampNeg) (f_X4_safeIn (σ (10 + 3 * p + 1) a.toNatClampNeg) (f_X4_leaveInTrace (100 + (σ (10 + 3 * p + 0) a.toNatClampNeg)) (up2 σ 0 5 ((σ 0 5) + 1)))) ((f_X4_leaveInTrace (100 + (σ (10 + 3 * p + 0) a.toNatClampNeg)) (up2 σ 0 5 ((σ 0 5) + 1))) (10 + 3 * p + 2) a.toNatClampNeg) hN  (safeIn_ok (show Sm n σ0 σ (f_X4_leaveInTrace (100 + (σ (10 + 3 * p + 0) a.toNatClampNeg)) (up2 σ 0 5 ((σ 0 5) + 1))) from (((Sm.refl hc.di).up0 (by decide) _).trace _)).1.1 _) (show Sm n σ0 σ (f_X4_leaveInTrace (100 + (σ (10 + 3 * p + 0) a.toNatClampNeg)) (up2 σ 0 5 ((σ 0 5) + 1))) from (((Sm.refl hc.di).up0 (by decide) _).trace _)).1.1) (by decide) m_249 m_251 ms_11 m_252 ⟨rfl, hd_X4_doWithSafe⟩ (by omega) rfl rfl (Nat.le_of_ble_eq_true rfl) [.int ((f_X4_doWithSafe (σ (10 + 3 * p + 0) a.toNatClampNeg) (f_X4_safeIn (σ (10 + 3 * p + 1) a.toNatClampNeg) (f_X4_leaveInTrace (100 + (σ (10 + 3 * p + 0) a.toNatClampNeg)) (up2 σ 0 5 ((σ 0 5) + 1)))) ((f_X4_leaveInTrace (100 + (σ (10 + 3 * p + 0) a.toNatClampNeg)) (up2 σ 0 5 ((σ 0 5) + 1))) (10 + 3 * p + 2) a.toNatClampNeg) (f_X4_leaveInTrace (100 + (σ (10 + 3 * p + 0) a.toNatClampNeg)) (up2 σ 0 5 ((σ 0 5) + 1)))).1)] rfl dX4_doStep_194 ?_
      exact J_iret (pc := 197) h hr (by subst ho; exact ⟨rfl, rfl⟩) dX4_doStep_197
    replace ho := (if_neg c9).symm.trans ho
    by_cases c10 : σ (10 + 3 * p + 0) a.toNatClampNeg = 8
    · replace ho := (if_pos c10).symm.trans ho
      refine J_tabIn (pc := 50) h (8) 155 c10 (by decide) (by decide) rfl (by decide) dX4_doStep_50 ?_
      refine J_aload_n (pc := 155) (n := 0) (i := 0) h 2 rfl rfl dX4_doStep_155 ?_
      refine J_iload (pc := 156) h 1 rfl dX4_doStep_156 ?_
      refine J_iload (pc := 158) h 0 rfl dX4_doStep_158 ?_
      refine J_cD (pc := 160) h hR (by omega) (c_X4_doWithValue _ _ ad n (f_X4_leaveInTrace (100 + (σ (10 + 3 * p + 0) a.toNatClampNeg)) (up2 σ 0 5 ((σ 0 5) + 1))) (σ (10 + 3 * p + 0) a.toNatClampNeg) (σ (10 + 3 * p + 1) a.toNatClampNeg) hN ) (by decide) m_230 m_232 ms_7 m_233 ⟨rfl, hd_X4_doWithValue⟩ (by omega) rfl rfl (Nat.le_of_ble_eq_true rfl) [.int ((f_X4_doWithValue (σ (10 + 3 * p + 0) a.toNatClampNeg) (σ (10 + 3 * p + 1) a.toNatClampNeg) (f_X4_leaveInTrace (100 + (σ (10 + 3 * p + 0) a.toNatClampNeg)) (up2 σ 0 5 ((σ 0 5) + 1)))).1)] rfl dX4_doStep_160 ?_
      exact J_iret (pc := 163) h hr (by subst ho; exact ⟨rfl, rfl⟩) dX4_doStep_163
    replace ho := (if_neg c10).symm.trans ho
    by_cases c11 : σ (10 + 3 * p + 0) a.toNatClampNeg = 9
    · replace ho := (if_pos c11).symm.trans ho
      refine J_tabIn (pc := 50) h (9) 155 c11 (by decide) (by decide) rfl (by decide) dX4_doStep_50 ?_
      refine J_aload_n (pc := 155) (n := 0) (i := 0) h 2 rfl rfl dX4_doStep_155 ?_
      refine J_iload (pc := 156) h 1 rfl dX4_doStep_156 ?_
      refine J_iload (pc := 158) h 0 rfl dX4_doStep_158 ?_
      refine J_cD (pc := 160) h hR (by omega) (c_X4_doWithValue _ _ ad n (f_X4_leaveInTrace (100 + (σ (10 + 3 * p + 0) a.toNatClampNeg)) (up2 σ 0 5 ((σ 0 5) + 1))) (σ (10 + 3 * p + 0) a.toNatClampNeg) (σ (10 + 3 * p + 1) a.toNatClampNeg) hN ) (by decide) m_230 m_232 ms_7 m_233 ⟨rfl, hd_X4_doWithValue⟩ (by omega) rfl rfl (Nat.le_of_ble_eq_true rfl) [.int ((f_X4_doWithValue (σ (10 + 3 * p + 0) a.toNatClampNeg) (σ (10 + 3 * p + 1) a.toNatClampNeg) (f_X4_leaveInTrace (100 + (σ (10 + 3 * p + 0) a.toNatClampNeg)) (up2 σ 0 5 ((σ 0 5) + 1)))).1)] rfl dX4_doStep_160 ?_
      exact J_iret (pc := 163) h hr (by subst ho; exact ⟨rfl, rfl⟩) dX4_doStep_163
    replace ho := (if_neg c11).symm.trans ho
    by_cases c12 : σ (10 + 3 * p + 0) a.toNatClampNeg = 10
    · replace ho := (if_pos c12).symm.trans ho
      refine J_tabIn (pc := 50) h (10) 155 c12 (by decide) (by decide) rfl (by decide) dX4_doStep_50 ?_
      refine J_aload_n (pc := 155) (n := 0) (i := 0) h 2 rfl rfl dX4_doStep_155 ?_
      refine J_iload (pc := 156) h 1 rfl dX4_doStep_156 ?_
      refine J_iload (pc := 158) h 0 rfl dX4_doStep_158 ?_
      refine J_cD (pc := 160) h hR (by omega) (c_X4_doWithValue _ _ ad n (f_X4_leaveInTrace (100 + (σ (10 + 3 * p + 0) a.toNatClampNeg)) (up2 σ 0 5 ((σ 0 5) + 1))) (σ (10 + 3 * p + 0) a.toNatClampNeg) (σ (10 + 3 * p + 1) a.toNatClampNeg) hN ) (by decide) m_230 m_232 ms_7 m_233 ⟨rfl, hd_X4_doWithValue⟩ (by omega) rfl rfl (Nat.le_of_ble_eq_true rfl) [.int ((f_X4_doWithValue (σ (10 + 3 * p + 0) a.toNatClampNeg) (σ (10 + 3 * p + 1) a.toNatClampNeg) (f_X4_leaveInTrace (100 + (σ (10 + 3 * p + 0) a.toNatClampNeg)) (up2 σ 0 5 ((σ 0 5) + 1)))).1)] rfl dX4_doStep_160 ?_
      exact J_iret (pc := 163) h hr (by subst ho; exact ⟨rfl, rfl⟩) dX4_doStep_163
    replace ho := (if_neg c12).symm.trans ho
    by_cases c13 : σ (10 + 3 * p + 0) a.toNatClampNeg = 11
    · replace ho := (if_pos c13).symm.trans ho
      refine J_tabIn (pc := 50) h (11) 155 c13 (by decide) (by decide) rfl (by decide) dX4_doStep_50 ?_
      refine J_aload_n (pc := 155) (n := 0) (i := 0) h 2 rfl rfl dX4_doStep_155 ?_
      refine J_iload (pc := 156) h 1 rfl dX4_doStep_156 ?_
      refine J_iload (pc := 158) h 0 rfl dX4_doStep_158 ?_
      refine J_cD (pc := 160) h hR (by omega) (c_X4_doWithValue _ _ ad n (f_X4_leaveInTrace (100 + (σ (10 + 3 * p + 0) a.toNatClampNeg)) (up2 σ 0 5 ((σ 0 5) + 1))) (σ (10 + 3 * p + 0) a.toNatClampNeg) (σ (10 + 3 * p + 1) a.toNatClampNeg) hN ) (by decide) m_230 m_232 ms_7 m_233 ⟨rfl, hd_X4_doWithValue⟩ (by omega) rfl rfl (Nat.le_of_ble_eq_true rfl) [.int ((f_X4_doWithValue (σ (10 + 3 * p + 0) a.toNatClampNeg) (σ (10 + 3 * p + 1) a.toNatClampNeg) (f_X4_leaveInTrace (100 + (σ (10 + 3 * p + 0) a.toNatClampNeg)) (up2 σ 0 5 ((σ 0 5) + 1)))).1)] rfl dX4_doStep_160 ?_
      exact J_iret (pc := 163) h hr (by subst ho; exact ⟨rfl, rfl⟩) dX4_doStep_163
    replace ho := (if_neg c13).symm.trans ho
    by_cases c14 : σ (10 + 3 * p + 0) a.toNatClampNeg = 12
    · replace ho := (if_pos c14).symm.trans ho
      refine J_tabIn (pc := 50) h (12) 148 c14 (by decide) (by decide) rfl (by decide) dX4_doStep_50 ?_
      refine J_aload_n (pc := 148) (n := 0) (i := 0) h 2 rfl rfl dX4_doStep_148 ?_
      refine J_iload (pc := 149) h 0 rfl dX4_doStep_149 ?_
      refine J_cD (pc := 151) h hR (by omega) (c_X4_doPlan _ _ ad n rec σ0 d Lr hL hrec hrs hPI (f_X4_leaveInTrace (100 + (σ (10 + 3 * p + 0) a.toNatClampNeg)) (up2 σ 0 5 ((σ 0 5) + 1))) (σ (10 + 3 * p + 1) a.toNatClampNeg) hN (show Sm n σ0 σ (f_X4_leaveInTrace (100 + (σ (10 + 3 * p + 0) a.toNatClampNeg)) (up2 σ 0 5 ((σ 0 5) + 1))) from (((Sm.refl hc.di).up0 (by decide) _).trace _)).1 wk ((show Sm n σ0 σ (f_X4_leaveInTrace (100 + (σ (10 + 3 * p + 0) a.toNatClampNeg)) (up2 σ 0 5 ((σ 0 5) + 1))) from (((Sm.refl hc.di).up0 (by decide) _).trace _)).2.trans hc.w7) hc.w4 hc.hd) (by decide) m_178 m_180 ms_0 m_181 ⟨rfl, hd_X4_doPlan⟩ (by omega) rfl rfl (Nat.le_of_ble_eq_true rfl) [.int ((F_X4_doPlan rec (σ (10 + 3 * p + 1) a.toNatClampNeg) (f_X4_leaveInTrace (100 + (σ (10 + 3 * p + 0) a.toNatClampNeg)) (up2 σ 0 5 ((σ 0 5) + 1)))).1)] rfl dX4_doStep_151 ?_
      exact J_iret (pc := 154) h hr (by subst ho; exact ⟨rfl, rfl⟩) dX4_doStep_154
    replace ho := (if_neg c14).symm.trans ho
    by_cases c15 : σ (10 + 3 * p + 0) a.toNatClampNeg = 13
    · replace ho := (if_pos c15).symm.trans ho
      refine J_tabIn (pc := 50) h (13) 164 c15 (by decide) (by decide) rfl (by decide) dX4_doStep_50 ?_
      refine J_aload_n (pc := 164) (n := 0) (i := 0) h 2 rfl rfl dX4_doStep_164 ?_
      refine J_iload (pc := 165) h 1 rfl dX4_doStep_165 ?_
      refine J_iload (pc := 167) h 0 rfl dX4_doStep_167 ?_
      refine J_aload_n (pc := 169) (n := 1) (i := 1) h 3 rfl rfl dX4_doStep_169 ?_
      refine J_Pr2 (pc := 170) h hc.1 (by omega) m_30 dX4_doStep_170 ?_
      refine J_iload_n (pc := 173) (n := 2) (i := 2) h 4 rfl rfl dX4_doStep_173 ?_
      refine J_Ia (pc := 174) h hc.1 (by decide) (by omega) hat ((f_X4_leaveInTrace (100 + (σ (10 + 3 * p + 0) a.toNatClampNeg)) (up2 σ 0 5 ((σ 0 5) + 1))) (10 + 3 * p + 2) a.toNatClampNeg) rfl dX4_doStep_174 ?_
      refine J_cD (pc := 175) h hR (by omega) (c_X4_doWithRooms _ _ ad n (f_X4_leaveInTrace (100 + (σ (10 + 3 * p + 0) a.toNatClampNeg)) (up2 σ 0 5 ((σ 0 5) + 1))) (σ (10 + 3 * p + 0) a.toNatClampNeg) (σ (10 + 3 * p + 1) a.toNatClampNeg) ((f_X4_leaveInTrace (100 + (σ (10 + 3 * p + 0) a.toNatClampNeg)) (up2 σ 0 5 ((σ 0 5) + 1))) (10 + 3 * p + 2) a.toNatClampNeg) hN  (show Sm n σ0 σ (f_X4_leaveInTrace (100 + (σ (10 + 3 * p + 0) a.toNatClampNeg)) (up2 σ 0 5 ((σ 0 5) + 1))) from (((Sm.refl hc.di).up0 (by decide) _).trace _)).1.1 (fun _ _ => step_room hv (by first | exact Or.inl (by assumption) | exact Or.inr (Or.inl (by assumption)) | exact Or.inr (Or.inr (by assumption))))) (by decide) m_234 m_236 ms_8 m_237 ⟨rfl, hd_X4_doWithRooms⟩ (by omega) rfl rfl (Nat.le_of_ble_eq_true rfl) [.int ((f_X4_doWithRooms (σ (10 + 3 * p + 0) a.toNatClampNeg) (σ (10 + 3 * p + 1) a.toNatClampNeg) ((f_X4_leaveInTrace (100 + (σ (10 + 3 * p + 0) a.toNatClampNeg)) (up2 σ 0 5 ((σ 0 5) + 1))) (10 + 3 * p + 2) a.toNatClampNeg) (f_X4_leaveInTrace (100 + (σ (10 + 3 * p + 0) a.toNatClampNeg)) (up2 σ 0 5 ((σ 0 5) + 1)))).1)] rfl dX4_doStep_175 ?_
      exact J_iret (pc := 178) h hr (by subst ho; exact ⟨rfl, rfl⟩) dX4_doStep_178
    replace ho := (if_neg c15).symm.trans ho
    refine J_tabOut (pc := 50) h 179 (by have zc2 := ne_toI c2 (n := 0) rfl; have zc3 := ne_toI c3 (n := 1) rfl; have zc4 := ne_toI c4 (n := 2) rfl; have zc5 := ne_toI c5 (n := 3) rfl; have zc6 := ne_toI c6 (n := 4) rfl; have zc7 := ne_toI c7 (n := 5) rfl; have zc8 := ne_toI c8 (n := 6) rfl; have zc9 := ne_toI c9 (n := 7) rfl; have zc10 := ne_toI c10 (n := 8) rfl; have zc11 := ne_toI c11 (n := 9) rfl; have zc12 := ne_toI c12 (n := 10) rfl; have zc13 := ne_toI c13 (n := 11) rfl; have zc14 := ne_toI c14 (n := 12) rfl; have zc15 := ne_toI c15 (n := 13) rfl; omega) (by decide) dX4_doStep_50 ?_
    refine J_aload_n (pc := 179) (n := 0) (i := 0) h 2 rfl rfl dX4_doStep_179 ?_
    refine J_iload (pc := 180) h 1 rfl dX4_doStep_180 ?_
    refine J_aload_n (pc := 182) (n := 0) (i := 0) h 2 rfl rfl dX4_doStep_182 ?_
    refine J_iload (pc := 183) h 0 rfl dX4_doStep_183 ?_
    refine J_cD (pc := 185) h hR (by omega) (c_X4_safeIn _ _ ad n (f_X4_leaveInTrace (100 + (σ (10 + 3 * p + 0) a.toNatClampNeg)) (up2 σ 0 5 ((σ 0 5) + 1))) (σ (10 + 3 * p + 1) a.toNatClampNeg) hN ) (by decide) m_204 m_206 ms_4 m_207 ⟨rfl, hd_X4_safeIn⟩ (by omega) rfl rfl (Nat.le_of_ble_eq_true rfl) [va_rf (rfa ad (f_X4_safeIn (σ (10 + 3 * p + 1) a.toNatClampNeg) (f_X4_leaveInTrace (100 + (σ (10 + 3 * p + 0) a.toNatClampNeg)) (up2 σ 0 5 ((σ 0 5) + 1))))), .int (σ (10 + 3 * p + 0) a.toNatClampNeg), .ref (ad 0)] rfl dX4_doStep_185 ?_
    refine J_aload_n (pc := 188) (n := 1) (i := 1) h 3 rfl rfl dX4_doStep_188 ?_
    refine J_Pr2 (pc := 189) h hc.1 (by omega) m_30 dX4_doStep_189 ?_
    refine J_iload_n (pc := 192) (n := 2) (i := 2) h 4 rfl rfl dX4_doStep_192 ?_
    refine J_Ia (pc := 193) h hc.1 (by decide) (by omega) hat ((f_X4_leaveInTrace (100 + (σ (10 + 3 * p + 0) a.toNatClampNeg)) (up2 σ 0 5 ((σ 0 5) + 1))) (10 + 3 * p + 2) a.toNatClampNeg) rfl dX4_doStep_193 ?_
    refine J_cD (pc := 194) h hR (by omega) (c_X4_doWithSafe _ _ ad n (f_X4_leaveInTrace (100 + (σ (10 + 3 * p + 0) a.toNatClampNeg)) (up2 σ 0 5 ((σ 0 5) + 1))) (σ (10 + 3 * p + 0) a.toNatClampNeg) (f_X4_safeIn (σ (10 + 3 * p + 1) a.toNatClampNeg) (f_X4_leaveInTrace (100 + (σ (10 + 3 * p + 0) a.toNatClampNeg)) (up2 σ 0 5 ((σ 0 5) + 1)))) ((f_X4_leaveInTrace (100 + (σ (10 + 3 * p + 0) a.toNatClampNeg)) (up2 σ 0 5 ((σ 0 5) + 1))) (10 + 3 * p + 2) a.toNatClampNeg) hN  (safeIn_ok (show Sm n σ0 σ (f_X4_leaveInTrace (100 + (σ (10 + 3 * p + 0) a.toNatClampNeg)) (up2 σ 0 5 ((σ 0 5) + 1))) from (((Sm.refl hc.di).up0 (by decide) _).trace _)).1.1 _) (show Sm n σ0 σ (f_X4_leaveInTrace (100 + (σ (10 + 3 * p + 0) a.toNatClampNeg)) (up2 σ 0 5 ((σ 0 5) + 1))) from (((Sm.refl hc.di).up0 (by decide) _).trace _)).1.1) (by decide) m_249 m_251 ms_11 m_252 ⟨rfl, hd_X4_doWithSafe⟩ (by omega) rfl rfl (Nat.le_of_ble_eq_true rfl) [.int ((f_X4_doWithSafe (σ (10 + 3 * p + 0) a.toNatClampNeg) (f_X4_safeIn (σ (10 + 3 * p + 1) a.toNatClampNeg) (f_X4_leaveInTrace (100 + (σ (10 + 3 * p + 0) a.toNatClampNeg)) (up2 σ 0 5 ((σ 0 5) + 1)))) ((f_X4_leaveInTrace (100 + (σ (10 + 3 * p + 0) a.toNatClampNeg)) (up2 σ 0 5 ((σ 0 5) + 1))) (10 + 3 * p + 2) a.toNatClampNeg) (f_X4_leaveInTrace (100 + (σ (10 + 3 * p + 0) a.toNatClampNeg)) (up2 σ 0 5 ((σ 0 5) + 1)))).1)] rfl dX4_doStep_194 ?_
    exact J_iret (pc := 197) h hr (by subst ho; exact ⟨rfl, rfl⟩) dX4_doStep_197
  · replace ho := (if_neg c1).symm.trans ho
    refine J_bipush (pc := 10) h (40) rfl dX4_doStep_10 ?_
    exact J_iret (pc := 12) h hr (by subst ho; exact ⟨rfl, rfl⟩) dX4_doStep_12
end
section
theorem Sm_doInside {n : Nat} {σ0 σ : Sg} {d wk p : Nat} {a b w : Int32} {rec : RecT} (hrs : RS n σ0 d rec) (hc : CR n σ0 d wk p a b σ) : Sm n σ0 σ (F_X4_doInside rec w p a b σ).2 := by
  have s0 := Sm.refl hc.di
  have s1 := (s0.enter (j := 28 + w.toNatClampNeg) (Nat.le_add_right _ _)).trace 1
  have s2 := s1.trans (hrs _ _ _ _ _ (hc.of s1))
  exact Sm.ite s0 ((s2.leave (Nat.le_add_right _ _)).trace 2)
theorem Sm_doTry {n : Nat} {σ0 σ : Sg} {d wk p : Nat} {a b hd : Int32} {rec : RecT} (hrs : RS n σ0 d rec) (hc : CR n σ0 d wk p a b σ) : Sm n σ0 σ (F_X4_doTry rec hd p a b σ).2 := by
  have s2 := hrs _ _ _ _ _ hc
  exact Sm.ite s2 (Sm.ite s2 (Sm.ite s2 (Sm.ite (s2.up0 (by decide) _) (Sm.ite (s2.up0 (by decide) _) s2))))
theorem Sm_doPlan {n : Nat} {σ0 σ : Sg} {d wk : Nat} {pl : Int32} {rec : RecT} (hrs : RS n σ0 d rec) (hPI : PI σ0) (hD : DI n σ0 σ) (hw7 : σ 0 7 = nI wk) (hw4 : wk ≤ 4) (hd : (4 - wk) * 13 ≤ d) : Sm n σ0 σ (F_X4_doPlan rec pl σ).2 := by
  have s0 := Sm.refl hD
  unfold F_X4_doPlan
  by_cases c1 : (4 : Int32) ≤ σ 0 7
  · rw [if_pos c1]; exact s0
  · rw [if_neg c1]
    by_cases c2 : f_X4_isPlan pl = 0
    · rw [if_pos c2]; exact s0
    · rw [if_neg c2]
      have hcr := CR_plan hPI hD hw7 hw4 c1 (isPlan_lt c2) hd (f_J9_max_7cf53 (σ 0 8) ((σ 0 7) + 1))
      have s2 := hrs _ _ _ _ _ hcr
      generalize rec pl.toNatClampNeg 0 (σ (4 + pl.toNatClampNeg) 3) (up2 (up2 σ 0 7 ((σ 0 7) + 1)) 0 8 (f_J9_max_7cf53 (σ 0 8) ((σ 0 7) + 1))) = o at s2
      have key : Sm n σ0 σ (up2 o.2 0 7 ((o.2 0 7) - 1)) := by
        refine ⟨⟨fun r hr => ?_, ?_, fun k h1 h2 => ?_⟩, ?_⟩
        · rw [up2_off _ _ (by decide)]; exact s2.1.1 r hr
        · rw [up2_row _ _ _ (by decide)]; exact s2.1.2.1
        · rw [← s2.1.2.2 k h1 h2]; funext j; rw [up2_off _ _ (by omega)]
        · rw [up2_self, s2.2, hcr.w7, hw7, nI_pred]
      exact Sm.ite key key
theorem Sm_doStep {n : Nat} {σ0 σ : Sg} {d wk p : Nat} {a b : Int32} {rec : RecT} (hrs : RS n σ0 d rec) (hPI : PI σ0) (hc : CR n σ0 d wk p (a + 1) b σ) : Sm n σ0 σ (F_X4_doStep rec p a b σ).2 := by
  have s0 := Sm.refl hc.di
  have s1 := (s0.up0 (i := 5) (by decide) ((σ 0 5) + 1)).trace (100 + (σ (10 + 3 * p + 0) a.toNatClampNeg))
  have t1 := hc.of s1
  have hi := fun w => s1.trans (Sm_doInside (w := w) hrs t1)
  have ht := fun hd => s1.trans (Sm_doTry (hd := hd) hrs t1)
  have hp := fun pl => s1.trans (Sm_doPlan (pl := pl) hrs hPI s1.1 t1.w7 t1.w4 t1.hd)
  have hs := fun kd w b => s1.withSafe kd w b
  have hr := fun kd a b => s1.withRooms kd a b
  have hv := fun kd a => s1.withValue kd a
  exact Sm.ite (Sm.ite (hi _) (Sm.ite (ht _) (Sm.ite (hs _ _ _) (Sm.ite (hs _ _ _) (Sm.ite (hs _ _ _) (Sm.ite (hr _ _ _) (Sm.ite (hr _ _ _) (Sm.ite (hs _ _ _) (Sm.ite (hv _ _) (Sm.ite (hv _ _) (Sm.ite (hv _ _) (Sm.ite (hv _ _) (Sm.ite (hp _) (Sm.ite (hr _ _ _) (hs _ _ _))))))))))))))) s0
theorem CR.lt {i b : Int32} (c : ¬ b ≤ i) : i.toInt < b.toInt := by
  rw [i_le] at c
  omega
theorem CR.vin {n : Nat} {σ0 : Sg} {d w p : Nat} {i b : Int32} {σ : Sg} (h : CR n σ0 d w p i b σ) (hPI : PI σ0) (c : ¬ b ≤ i) : vp_in i 12 := by
  have := CR.lt c
  have := (hPI p h.1).1
  exact vp_in_iff.mpr ⟨h.2.1, by have := h.2.2.1; omega⟩
theorem CR.val {n : Nat} {σ0 : Sg} {d w p : Nat} {i b : Int32} {σ : Sg} (h : CR n σ0 d w p i b σ) (hPI : PI σ0) (c : ¬ b ≤ i) : ¬ f_X4_isStep (σ (10 + 3 * p + 0) i.toNatClampNeg) (σ (10 + 3 * p + 1) i.toNatClampNeg) (σ (10 + 3 * p + 2) i.toNatClampNeg) = 0 := by
  have hp := h.1
  have e := fun q (hq : q < 3) => h.di.2.2 (10 + 3 * p + q) (by omega) (by omega)
  rw [e 0 (by decide), e 1 (by decide), e 2 (by decide)]
  refine (hPI p hp).2 _ ?_
  rw [nat_toInt h.2.1]
  have := CR.lt c
  have := h.2.2.1
  omega
theorem CR.succ {n : Nat} {σ0 : Sg} {d w p : Nat} {i b : Int32} {σ : Sg} (h : CR n σ0 d w p i b σ) (hPI : PI σ0) (c : ¬ b ≤ i) : CR n σ0 d w p (i + 1) b σ := by
  have h1 := CR.lt c
  have h2 := (hPI p h.1).1
  have h3 := h.2.2.1
  have h4 := h.2.1
  have e := toInt_succ (i := i) h.2.1 (by omega)
  refine ⟨h.1, by rw [e]; omega, h.2.2.1, h.di, h.w7, h.w4, ?_⟩
  have := h.2.2.2.2.2.2
  rw [e]
  omega
theorem CR.next {n : Nat} {σ0 : Sg} {d w p : Nat} {i b : Int32} {σ : Sg} (h : CR n σ0 (d + 1) w p i b σ) (hPI : PI σ0) (c : ¬ b ≤ i) : CR n σ0 d w p (i + 1) (f_X0_behind p i b σ) σ := by
  have h1 := CR.lt c
  have h2 := (hPI p h.1).1
  have h3 := h.2.2.1
  have h4 := h.2.1
  have e := toInt_succ (i := i) h.2.1 (by omega)
  have hb := behind_le (p := p) (σ := σ) h.2.1 h1 (by omega)
  refine ⟨h.1, by rw [e]; omega, by omega, h.di, h.w7, h.w4, ?_⟩
  have := h.2.2.2.2.2.2
  rw [e]
  omega
def lf_X4_doSteps (rec : RecT) : Nat → Nat → Int32 → Int32 → Int32 → Sg → Int32 × Sg
  | 0, _, _, _, _, σ => (0, σ)
  | m + 1, p, i, nx, b, σ => (if b ≤ i then (0, σ) else (if i = nx then (if (F_X4_doStep rec p i (f_X0_behind p i b σ) σ).1 = 0 then (lf_X4_doSteps rec m p (i + 1) (f_X0_behind p i b σ) b ((F_X4_doStep rec p i (f_X0_behind p i b σ) σ).2)) else ((F_X4_doStep rec p i (f_X0_behind p i b σ) σ).1, (F_X4_doStep rec p i (f_X0_behind p i b σ) σ).2)) else (lf_X4_doSteps rec m p (i + 1) nx b σ)))
set_option maxHeartbeats 4000000 in
theorem lp_X4_doSteps {x : Cx} {ad : Nat → Nat} {n : Nat} {rec : RecT} {σ0 : Sg} {d Lr : Nat} (hL : 10 ≤ Lr) (hrec : RC (xL x) (xG x) ad n σ0 d Lr rec) (hrs : RS n σ0 d rec) (hPI : PI σ0) {p wk : Nat} {a0 b : Int32} (hN : 28 ≤ n) (h : Ok x cX4_doSteps "SafeDesk" (some .int)) (hR : RmOk x (Lr + 3) 0 0) (e4 : xN x = 7) {out : Int32 × Sg} (hr : Rt x 0 0 (Det (some (.int out.1)) (wC (xG x) ad n out.2))) : ∀ (m : Nat) (i nx : Int32) (σ : Sg), CR n σ0 (d + 1) wk p i b σ → (b.toInt - i.toInt).toNat < m → lf_X4_doSteps rec m p i nx b σ = out → J x 0 0 (wC (xG x) ad n σ) 6 [(5, .int i), (4, .int nx), (0, .ref (ad 0)), (1, .ref (ad (4 + p))), (2, .int a0), (3, .int b)] [] := by
  intro m
  induction m with
  | zero => intro i nx σ hc hm ho; omega
  | succ m ih =>
    intro i nx σ hc hm ho
    unfold lf_X4_doSteps at ho
    refine J_iload (pc := 6) h 0 rfl dX4_doSteps_6 ?_
    refine J_iload_n (pc := 8) (n := 3) (i := 3) h 5 rfl rfl dX4_doSteps_8 ?_
    refine J_icmp_ge (pc := 9) h 53 (by decide) dX4_doSteps_9 (fun c1 => ?_) (fun hb => ?_)
    · replace ho := (if_pos c1).symm.trans ho
      refine J_iconst (pc := 53) h (0) rfl dX4_doSteps_53 ?_
      exact J_iret (pc := 54) h hr (by subst ho; exact ⟨rfl, rfl⟩) dX4_doSteps_54
    · replace ho := (if_neg hb).symm.trans ho
      refine J_iload (pc := 12) h 0 rfl dX4_doSteps_12 ?_
      refine J_iload (pc := 14) h 1 rfl dX4_doSteps_14 ?_
      refine J_icmp_ne (pc := 16) h 47 (by decide) dX4_doSteps_16 (fun c2 => ?_) (fun c2 => ?_)
      · replace ho := (if_neg c2).symm.trans ho
        refine J_iinc (pc := 47) h 0 (i + 1) [(5, .int (i + 1)), (4, .int nx), (0, .ref (ad 0)), (1, .ref (ad (4 + p))), (2, .int a0), (3, .int b)] rfl rfl (by rw [e4]; decide) rfl dX4_doSteps_47 ?_
        refine J_goto (pc := 50) h 6 (by decide) dX4_doSteps_50 ?_
        exact ih (i + 1) nx σ (hc.succ hPI hb) (by have := CR.lt hb; have := toInt_succ (i := i) hc.2.1 (by have := (hPI p hc.1).1; have := hc.2.2.1; omega); omega) ho
      · replace ho := (if_pos c2).symm.trans ho
        refine J_aload_n (pc := 19) (n := 1) (i := 1) h 3 rfl rfl dX4_doSteps_19 ?_
        refine J_iload (pc := 20) h 0 rfl dX4_doSteps_20 ?_
        refine J_iload_n (pc := 22) (n := 3) (i := 3) h 5 rfl rfl dX4_doSteps_22 ?_
        refine J_cP (pc := 23) h hR hc.1 (by omega) (c_X0_behind _ _ ad n σ p i b hc.1 hN (hc.vin hPI hb)) (by decide) m_189 m_190 m_191 m_192 ⟨rfl, hd_X0_behind⟩ (by omega) rfl rfl (Nat.le_of_ble_eq_true rfl) [.int (f_X0_behind p i b σ)] rfl dX4_doSteps_23 ?_
        refine J_istore (pc := 26) h [(4, .int (f_X0_behind p i b σ)), (5, .int i), (0, .ref (ad 0)), (1, .ref (ad (4 + p))), (2, .int a0), (3, .int b)] (by rw [e4]; decide) rfl dX4_doSteps_26 ?_
        refine J_aload_n (pc := 28) (n := 0) (i := 0) h 2 rfl rfl dX4_doSteps_28 ?_
        refine J_aload_n (pc := 29) (n := 1) (i := 1) h 3 rfl rfl dX4_doSteps_29 ?_
        refine J_iload (pc := 30) h 1 rfl dX4_doSteps_30 ?_
        refine J_iload (pc := 32) h 0 rfl dX4_doSteps_32 ?_
        refine J_cD (pc := 34) h hR (by omega) (c_X4_doStep _ _ ad n rec σ0 d Lr hL hrec hrs hPI σ p i (f_X0_behind p i b σ) hN wk (hc.next hPI hb) (hc.vin hPI hb) (hc.val hPI hb)) (by decide) m_196 m_198 ms_2 m_199 ⟨rfl, hd_X4_doStep⟩ (by omega) rfl rfl (Nat.le_of_ble_eq_true rfl) [.int ((F_X4_doStep rec p i (f_X0_behind p i b σ) σ).1)] rfl dX4_doSteps_34 ?_
        refine J_istore (pc := 37) h [(6, .int ((F_X4_doStep rec p i (f_X0_behind p i b σ) σ).1)), (4, .int (f_X0_behind p i b σ)), (5, .int i), (0, .ref (ad 0)), (1, .ref (ad (4 + p))), (2, .int a0), (3, .int b)] (by rw [e4]; decide) rfl dX4_doSteps_37 ?_
        refine J_iload (pc := 39) h 0 rfl dX4_doSteps_39 ?_
        refine J_if_eq (pc := 41) h 47 (by decide) dX4_doSteps_41 (fun c3 => ?_) (fun c3 => ?_)
        · replace ho := (if_pos c3).symm.trans ho
          refine J_iinc (pc := 47) h 2 (i + 1) [(5, .int (i + 1)), (6, .int ((F_X4_doStep rec p i (f_X0_behind p i b σ) σ).1)), (4, .int (f_X0_behind p i b σ)), (0, .ref (ad 0)), (1, .ref (ad (4 + p))), (2, .int a0), (3, .int b)] rfl rfl (by rw [e4]; decide) rfl dX4_doSteps_47 ?_
          refine J_goto (pc := 50) h 6 (by decide) dX4_doSteps_50 ?_
          refine J_sub [(5, .int (i + 1)), (4, .int (f_X0_behind p i b σ)), (0, .ref (ad 0)), (1, .ref (ad (4 + p))), (2, .int a0), (3, .int b)] [0, 2, 3, 4, 5, 6] rfl ?_
          exact ih (i + 1) (f_X0_behind p i b σ) ((F_X4_doStep rec p i (f_X0_behind p i b σ) σ).2) ((hc.succ hPI hb).of (Sm_doStep hrs hPI (hc.next hPI hb))) (by have := CR.lt hb; have := toInt_succ (i := i) hc.2.1 (by have := (hPI p hc.1).1; have := hc.2.2.1; omega); omega) ho
        · replace ho := (if_neg c3).symm.trans ho
          refine J_iload (pc := 44) h 0 rfl dX4_doSteps_44 ?_
          exact J_iret (pc := 46) h hr (by subst ho; exact ⟨rfl, rfl⟩) dX4_doSteps_46
theorem Sm_lf {n : Nat} {σ0 : Sg} {d wk p : Nat} {b : Int32} {rec : RecT} (hrs : RS n σ0 d rec) (hPI : PI σ0) : ∀ (m : Nat) (i nx : Int32) (σ : Sg), CR n σ0 (d + 1) wk p i b σ → Sm n σ0 σ (lf_X4_doSteps rec m p i nx b σ).2 := by
  intro m
  induction m with
  | zero => intro i nx σ hc; exact Sm.refl hc.di
  | succ m ih =>
    intro i nx σ hc
    unfold lf_X4_doSteps
    by_cases hb : b ≤ i
    · rw [if_pos hb]; exact Sm.refl hc.di
    · rw [if_neg hb]
      have s := Sm_doStep (a := i) (b := f_X0_behind p i b σ) hrs hPI (hc.next hPI hb)
      refine Sm.ite ?_ (ih _ _ _ (hc.succ hPI hb))
      exact Sm.ite (s.trans (ih _ _ _ ((hc.succ hPI hb).of s))) s
/-- doSteps, for d levels -/
def gS : Nat → RecT
  | 0 => fun _ _ _ σ => (0, σ)
  | d + 1 => fun p a b σ => lf_X4_doSteps (gS d) 13 p a a b σ
theorem gS_RS {n : Nat} {σ0 : Sg} (hPI : PI σ0) : ∀ d, RS n σ0 d (gS d) := by
  intro d
  induction d with
  | zero => intro w p a b σ hc; exact absurd hc.2.2.2.2.2.2 (Nat.not_lt_zero _)
  | succ d ih => intro w p a b σ hc; exact Sm_lf ih hPI 13 a a σ hc
theorem gS_RC (l : Launch) (g : Gy) (ad : Nat → Nat) {n : Nat} {σ0 : Sg} (hN : 28 ≤ n) (hPI : PI σ0) : ∀ d, RC l g ad n σ0 d (10 + 3 * d) (gS d) := by
  intro d
  induction d with
  | zero => intro w p a b σ hc; exact absurd hc.2.2.2.2.2.2 (Nat.not_lt_zero _)
  | succ d ih =>
    intro w p a b σ hc
    refine Con.of (by decide) (Nat.le_of_ble_eq_true rfl) ?_
    intro x h e1 e2 e3 e4 e5 hr
    subst e1 e2
    have h : Ok x cX4_doSteps "SafeDesk" (some .int) := h
    have hR : RmOk x (10 + 3 * d + 3) 0 0 := RmOk.of (L := 10 + 3 * d + 3) (e3.trans (by rw [show 10 + 3 * (d + 1) = 10 + 3 * d + 3 by omega])) (Nat.le_refl _) (Nat.le_refl _)
    obtain ⟨out, ho⟩ : ∃ o, gS (d + 1) p a b σ = o := ⟨_, rfl⟩
    rw [ho] at hr
    show J x 0 0 _ 0 [(0, .ref (ad 0)), (1, .ref (ad (4 + p))), (2, .int a), (3, .int b)] []
    refine J_iload_n (pc := 0) (n := 2) (i := 2) h 2 rfl rfl dX4_doSteps_0 ?_
    refine J_istore (pc := 1) h [(4, .int a), (0, .ref (ad 0)), (1, .ref (ad (4 + p))), (2, .int a), (3, .int b)] (by rw [e4]; decide) rfl dX4_doSteps_1 ?_
    refine J_iload_n (pc := 3) (n := 2) (i := 2) h 3 rfl rfl dX4_doSteps_3 ?_
    refine J_istore (pc := 4) h [(5, .int a), (4, .int a), (0, .ref (ad 0)), (1, .ref (ad (4 + p))), (2, .int a), (3, .int b)] (by rw [e4]; decide) rfl dX4_doSteps_4 ?_
    exact lp_X4_doSteps (by omega) ih (gS_RS hPI d) hPI hN h hR e4 hr 13 a a σ hc (by have := (hPI p hc.1).1; have := hc.2.2.1; have := hc.2.1; omega) ho
end
section
theorem DI_run {n : Nat} {σ : Sg} (hI : RI n σ) (v : Int32) : DI n σ (up2 (up2 (up2 (up2 σ 0 4 v) 0 5 0) 0 3 0) 0 8 0) := by
  refine ⟨fun r hr => ?_, ?_, fun k h1 h2 => ?_⟩
  · rw [up2_off _ _ (by decide), up2_off _ _ (by decide), up2_off _ _ (by decide), up2_off _ _ (by decide)]; exact hI r hr
  · rw [up2_row _ _ _ (by decide), up2_self]; exact ⟨by decide, by decide⟩
  · funext j
    rw [up2_off _ _ (by omega), up2_off _ _ (by omega), up2_off _ _ (by omega), up2_off _ _ (by omega)]
def f_X4_run (pl : Int32) (v : Int32) (σ : Sg) : Int32 × Sg := (if f_X4_isPlan pl = 0 then ((-1), σ) else (if (F_X4_doPlan (gS 52) pl (up2 (up2 (up2 (up2 σ 0 4 v) 0 5 0) 0 3 0) 0 8 0)).1 = 0 then (1, up2 ((F_X4_doPlan (gS 52) pl (up2 (up2 (up2 (up2 σ 0 4 v) 0 5 0) 0 3 0) 0 8 0)).2) 0 6 ((F_X4_doPlan (gS 52) pl (up2 (up2 (up2 (up2 σ 0 4 v) 0 5 0) 0 3 0) 0 8 0)).1)) else ((-10) - ((F_X4_doPlan (gS 52) pl (up2 (up2 (up2 (up2 σ 0 4 v) 0 5 0) 0 3 0) 0 8 0)).1), up2 ((F_X4_doPlan (gS 52) pl (up2 (up2 (up2 (up2 σ 0 4 v) 0 5 0) 0 3 0) 0 8 0)).2) 0 6 ((F_X4_doPlan (gS 52) pl (up2 (up2 (up2 (up2 σ 0 4 v) 0 5 0) 0 3 0) 0 8 0)).1))))
theorem hd_X4_run : yX4_run.cls ≠ "java/lang/invoke/MethodHandle" ∧ yX4_run.cls ≠ "java/lang/invoke/VarHandle" ∧ (parseMethodDescriptor yX4_run.desc).map (fun d => d.parameters.length) = some 2 := by decide +kernel
set_option maxHeartbeats 4000000 in
set_option maxRecDepth 20000 in
theorem c_X4_run (l : Launch) (g : Gy) (ad : Nat → Nat) (n : Nat) (σ : Sg) (pl : Int32) (v : Int32) (hN : 28 ≤ n) (hI : RI n σ) (hPI : PI σ) (hw : σ 0 7 = nI 0) : Con l g yX4_run cX4_run 3 (some .int) (rmL 168) [.ref (ad 0), .int pl, .int v] (wC g ad n σ) (Det (some (.int (f_X4_run pl v σ).1)) (wC g ad n ((f_X4_run pl v σ).2))) := by
  refine Con.of (by decide) (Nat.le_of_ble_eq_true rfl) ?_
  intro x h e1 e2 e3 e4 e5 hr
  subst e1 e2
  have h : Ok x cX4_run "SafeDesk" (some .int) := h
  have hR : RmOk x 168 0 0 := RmOk.of e3 (Nat.le_refl _) (Nat.le_refl _)
  obtain ⟨out, ho⟩ : ∃ o, f_X4_run pl v σ = o := ⟨_, rfl⟩
  rw [ho] at hr
  unfold f_X4_run at ho
  show J x 0 0 _ 0 [(0, .ref (ad 0)), (1, .int pl), (2, .int v)] []
  refine J_iload_n (pc := 0) (n := 1) (i := 1) h 1 rfl rfl dX4_run_0 ?_
  refine J_cS (pc := 1) h hR (by decide) (c_X4_isPlan _ _ _ pl ) (by decide) m_151 m_152 m_1 m_153 hd_X4_isPlan rfl rfl (Nat.le_of_ble_eq_true rfl) [.int (f_X4_isPlan pl)] rfl dX4_run_1 ?_
  refine J_if_ne (pc := 4) h 9 (by decide) dX4_run_4 (fun c1 => ?_) (fun c1 => ?_)
  · replace ho := (if_neg c1).symm.trans ho
    refine J_aload_n (pc := 9) (n := 0) (i := 0) h 0 rfl rfl dX4_run_9 ?_
    refine J_iload_n (pc := 10) (n := 2) (i := 2) h 2 rfl rfl dX4_run_10 ?_
    refine J_Dp4 (pc := 11) h (by omega) m_47 dX4_run_11 ?_
    refine J_aload_n (pc := 14) (n := 0) (i := 0) h 0 rfl rfl dX4_run_14 ?_
    refine J_iconst (pc := 15) h (0) rfl dX4_run_15 ?_
    refine J_Dp5 (pc := 16) h (by omega) m_48 dX4_run_16 ?_
    refine J_aload_n (pc := 19) (n := 0) (i := 0) h 0 rfl rfl dX4_run_19 ?_
    refine J_iconst (pc := 20) h (0) rfl dX4_run_20 ?_
    refine J_Dp3 (pc := 21) h (by omega) m_46 dX4_run_21 ?_
    refine J_aload_n (pc := 24) (n := 0) (i := 0) h 0 rfl rfl dX4_run_24 ?_
    refine J_iconst (pc := 25) h (0) rfl dX4_run_25 ?_
    refine J_Dp8 (pc := 26) h (by omega) m_51 dX4_run_26 ?_
    refine J_aload_n (pc := 29) (n := 0) (i := 0) h 0 rfl rfl dX4_run_29 ?_
    refine J_aload_n (pc := 30) (n := 0) (i := 0) h 0 rfl rfl dX4_run_30 ?_
    refine J_iload_n (pc := 31) (n := 1) (i := 1) h 1 rfl rfl dX4_run_31 ?_
    refine J_cD (pc := 32) h hR (by decide) (c_X4_doPlan _ _ ad n (gS 52) σ 52 166 (by decide) (gS_RC _ _ ad hN hPI 52) (gS_RS hPI 52) hPI (up2 (up2 (up2 (up2 σ 0 4 v) 0 5 0) 0 3 0) 0 8 0) pl hN (DI_run hI v) 0 (by rw [up2_row _ _ _ (by decide), up2_row _ _ _ (by decide), up2_row _ _ _ (by decide), up2_row _ _ _ (by decide)]; exact hw) (by decide) (by decide)) (by decide) m_178 m_180 ms_0 m_181 ⟨rfl, hd_X4_doPlan⟩ (by omega) rfl rfl (Nat.le_of_ble_eq_true rfl) [.int ((F_X4_doPlan (gS 52) pl (up2 (up2 (up2 (up2 σ 0 4 v) 0 5 0) 0 3 0) 0 8 0)).1), .ref (ad 0)] rfl dX4_run_32 ?_
    refine J_Dp6 (pc := 35) h (by omega) m_49 dX4_run_35 ?_
    refine J_aload_n (pc := 38) (n := 0) (i := 0) h 0 rfl rfl dX4_run_38 ?_
    refine J_Dg6 (pc := 39) h (by omega) m_49 ((F_X4_doPlan (gS 52) pl (up2 (up2 (up2 (up2 σ 0 4 v) 0 5 0) 0 3 0) 0 8 0)).1) (up2_self _ _ _ _) dX4_run_39 ?_
    refine J_if_ne (pc := 42) h 49 (by decide) dX4_run_42 (fun c2 => ?_) (fun c2 => ?_)
    · replace ho := (if_neg c2).symm.trans ho
      refine J_bipush (pc := 49) h (-10) rfl dX4_run_49 ?_
      refine J_aload_n (pc := 51) (n := 0) (i := 0) h 0 rfl rfl dX4_run_51 ?_
      refine J_Dg6 (pc := 52) h (by omega) m_49 ((F_X4_doPlan (gS 52) pl (up2 (up2 (up2 (up2 σ 0 4 v) 0 5 0) 0 3 0) 0 8 0)).1) (up2_self _ _ _ _) dX4_run_52 ?_
      refine J_isub (pc := 55) h dX4_run_55 ?_
      exact J_iret (pc := 56) h hr (by subst ho; exact ⟨rfl, rfl⟩) dX4_run_56
    · replace ho := (if_pos c2).symm.trans ho
      refine J_iconst (pc := 45) h (1) rfl dX4_run_45 ?_
      refine J_goto (pc := 46) h 56 (by decide) dX4_run_46 ?_
      exact J_iret (pc := 56) h hr (by subst ho; exact ⟨rfl, rfl⟩) dX4_run_56
  · replace ho := (if_pos c1).symm.trans ho
    refine J_iconst (pc := 7) h (-1) rfl dX4_run_7 ?_
    exact J_iret (pc := 8) h hr (by subst ho; exact ⟨rfl, rfl⟩) dX4_run_8
end
section
theorem in_no {a b c : Int32} (h : ¬ f_X5_in a b c = 0) : ¬ a < b ∧ ¬ c < a := by
  unfold f_X5_in at h
  refine ⟨fun q => h (if_pos q), fun q => h ?_⟩
  by_cases c1 : a < b
  · exact if_pos c1
  · rw [if_neg c1, if_pos q]
theorem vp_le {i b : Int32} {N : Nat} (hb : b.toInt + 1 = N) (h0 : ¬ i < 0) (h1 : ¬ b < i) : vp_in i N := by
  rw [i_lt, ti0] at h0
  rw [i_lt] at h1
  exact vp_in_iff.mpr ⟨by omega, by omega⟩
theorem in_room {a : Int32} (h : ¬ f_X5_in a 0 7 = 0) : vp_in a 8 := vp_le (b := 7) rfl (in_no h).1 (in_no h).2
theorem in_plan {a : Int32} (h : ¬ f_X5_in a 0 5 = 0) : vp_in a 6 := vp_le (b := 5) rfl (in_no h).1 (in_no h).2
theorem tr_in2 {a b : Int32} (h : ¬ f_X5_in a 0 (b - 1) = 0) (h2 : b ≤ 120 ∧ ¬ b < 0) : vp_in a 120 := by
  obtain ⟨h3, h4⟩ := in_no h
  obtain ⟨h5, h6⟩ := h2
  obtain ⟨j, hj, rfl⟩ := nI_of h6
  rw [i_le, nI_toInt hj, show (120 : Int32).toInt = 120 from rfl] at h5
  have : j ≤ 120 := by omega
  rcases Nat.eq_zero_or_pos j with rfl | hp
  · rw [i_lt, ti0] at h3
    rw [i_lt, show (nI 0 - 1).toInt = -1 from rfl] at h4
    omega
  · rw [i_lt, show nI j - 1 = nI (j - 1) from by have := nI_pred (j - 1); rwa [Nat.sub_add_cancel hp] at this, nI_toInt (by omega)] at h4
    rw [i_lt, ti0] at h3
    exact vp_in_iff.mpr ⟨by omega, by omega⟩
def f_X5_enter (s : Int32) (σ : Sg) : Sg := (if (σ 5 s.toNatClampNeg) + 1 ≤ σ 6 s.toNatClampNeg then (up2 (up2 (up2 σ 5 s.toNatClampNeg ((σ 5 s.toNatClampNeg) + 1)) 4 s.toNatClampNeg ((σ 4 s.toNatClampNeg) + 1)) 6 s.toNatClampNeg (σ 6 s.toNatClampNeg)) else (up2 (up2 (up2 σ 5 s.toNatClampNeg ((σ 5 s.toNatClampNeg) + 1)) 4 s.toNatClampNeg ((σ 4 s.toNatClampNeg) + 1)) 6 s.toNatClampNeg ((σ 5 s.toNatClampNeg) + 1)))
theorem hd_X5_enter : yX5_enter.cls ≠ "java/lang/invoke/MethodHandle" ∧ yX5_enter.cls ≠ "java/lang/invoke/VarHandle" ∧ (parseMethodDescriptor yX5_enter.desc).map (fun d => d.parameters.length) = some 1 := by decide +kernel
set_option maxHeartbeats 4000000 in
set_option maxRecDepth 20000 in
theorem c_X5_enter (l : Launch) (g : Gy) (ad : Nat → Nat) (σ : Sg) (s : Int32) (hs : vp_in s 4200) : Con l g yX5_enter cX5_enter 2 none (rmL 0) [.ref (ad 0), .int s] (wM g ad σ) (Det none (wM g ad (f_X5_enter s σ))) := by
  refine Con.of (by decide) (Nat.le_of_ble_eq_true rfl) ?_
  intro x h e1 e2 e3 e4 e5 hr
  subst e1 e2
  have h : Ok x cX5_enter "SafeDeskModel" none := h
  have hR : RmOk x 0 0 0 := RmOk.of e3 (Nat.le_refl _) (Nat.le_refl _)
  obtain ⟨out, ho⟩ : ∃ o, f_X5_enter s σ = o := ⟨_, rfl⟩
  rw [ho] at hr
  unfold f_X5_enter at ho
  show J x 0 0 _ 0 [(0, .ref (ad 0)), (1, .int s)] []
  refine J_aload_n (pc := 0) (n := 0) (i := 0) h 0 rfl rfl dX5_enter_0 ?_
  refine J_Mr5 (pc := 1) h m_337 dX5_enter_1 ?_
  refine J_iload_n (pc := 4) (n := 1) (i := 1) h 1 rfl rfl dX5_enter_4 ?_
  refine J_dup2 (pc := 5) h rfl rfl dX5_enter_5 ?_
  refine J_Ma (pc := 6) h 5 4200 ⟨by decide, by decide⟩ rfl hs (σ 5 s.toNatClampNeg) rfl dX5_enter_6 ?_
  refine J_iconst (pc := 7) h (1) rfl dX5_enter_7 ?_
  refine J_iadd (pc := 8) h dX5_enter_8 ?_
  refine J_Ms (pc := 9) h 5 4200 ⟨by decide, by decide⟩ rfl hs dX5_enter_9 ?_
  refine J_aload_n (pc := 10) (n := 0) (i := 0) h 0 rfl rfl dX5_enter_10 ?_
  refine J_Mr4 (pc := 11) h m_336 dX5_enter_11 ?_
  refine J_iload_n (pc := 14) (n := 1) (i := 1) h 1 rfl rfl dX5_enter_14 ?_
  refine J_dup2 (pc := 15) h rfl rfl dX5_enter_15 ?_
  refine J_Ma (pc := 16) h 4 4200 ⟨by decide, by decide⟩ rfl hs (σ 4 s.toNatClampNeg) (up2_off _ _ (by decide)) dX5_enter_16 ?_
  refine J_iconst (pc := 17) h (1) rfl dX5_enter_17 ?_
  refine J_iadd (pc := 18) h dX5_enter_18 ?_
  refine J_Ms (pc := 19) h 4 4200 ⟨by decide, by decide⟩ rfl hs dX5_enter_19 ?_
  refine J_aload_n (pc := 20) (n := 0) (i := 0) h 0 rfl rfl dX5_enter_20 ?_
  refine J_Mr6 (pc := 21) h m_338 dX5_enter_21 ?_
  refine J_iload_n (pc := 24) (n := 1) (i := 1) h 1 rfl rfl dX5_enter_24 ?_
  refine J_aload_n (pc := 25) (n := 0) (i := 0) h 0 rfl rfl dX5_enter_25 ?_
  refine J_Mr5 (pc := 26) h m_337 dX5_enter_26 ?_
  refine J_iload_n (pc := 29) (n := 1) (i := 1) h 1 rfl rfl dX5_enter_29 ?_
  refine J_Ma (pc := 30) h 5 4200 ⟨by decide, by decide⟩ rfl hs ((σ 5 s.toNatClampNeg) + 1) ((up2_off _ _ (by decide)).trans (up2_self _ _ _ _)) dX5_enter_30 ?_
  refine J_aload_n (pc := 31) (n := 0) (i := 0) h 0 rfl rfl dX5_enter_31 ?_
  refine J_Mr6 (pc := 32) h m_338 dX5_enter_32 ?_
  refine J_iload_n (pc := 35) (n := 1) (i := 1) h 1 rfl rfl dX5_enter_35 ?_
  refine J_Ma (pc := 36) h 6 4200 ⟨by decide, by decide⟩ rfl hs (σ 6 s.toNatClampNeg) ((up2_off _ _ (by decide)).trans (up2_off _ _ (by decide))) dX5_enter_36 ?_
  refine J_icmp_le (pc := 37) h 49 (by decide) dX5_enter_37 (fun c1 => ?_) (fun c1 => ?_)
  · replace ho := (if_pos c1).symm.trans ho
    refine J_aload_n (pc := 49) (n := 0) (i := 0) h 0 rfl rfl dX5_enter_49 ?_
    refine J_Mr6 (pc := 50) h m_338 dX5_enter_50 ?_
    refine J_iload_n (pc := 53) (n := 1) (i := 1) h 1 rfl rfl dX5_enter_53 ?_
    refine J_Ma (pc := 54) h 6 4200 ⟨by decide, by decide⟩ rfl hs (σ 6 s.toNatClampNeg) ((up2_off _ _ (by decide)).trans (up2_off _ _ (by decide))) dX5_enter_54 ?_
    refine J_Ms (pc := 55) h 6 4200 ⟨by decide, by decide⟩ rfl hs dX5_enter_55 ?_
    exact J_vret (pc := 56) h hr (by subst ho; exact ⟨rfl, rfl⟩) dX5_enter_56
  · replace ho := (if_neg c1).symm.trans ho
    refine J_aload_n (pc := 40) (n := 0) (i := 0) h 0 rfl rfl dX5_enter_40 ?_
    refine J_Mr5 (pc := 41) h m_337 dX5_enter_41 ?_
    refine J_iload_n (pc := 44) (n := 1) (i := 1) h 1 rfl rfl dX5_enter_44 ?_
    refine J_Ma (pc := 45) h 5 4200 ⟨by decide, by decide⟩ rfl hs ((σ 5 s.toNatClampNeg) + 1) ((up2_off _ _ (by decide)).trans (up2_self _ _ _ _)) dX5_enter_45 ?_
    refine J_goto (pc := 46) h 55 (by decide) dX5_enter_46 ?_
    refine J_Ms (pc := 55) h 6 4200 ⟨by decide, by decide⟩ rfl hs dX5_enter_55 ?_
    exact J_vret (pc := 56) h hr (by subst ho; exact ⟨rfl, rfl⟩) dX5_enter_56
def f_X5_putPlain (s : Int32) (v : Int32) (σ : Sg) : Int32 × Sg := (if lg_cmp ((((f_X5_enter s σ) 2 s.toNatClampNeg).toInt64) + v.toInt64) 0 < 0 then (0, up2 (up2 (f_X5_enter s σ) 2 s.toNatClampNeg ((f_X5_enter s σ) 2 s.toNatClampNeg)) 5 s.toNatClampNeg (((f_X5_enter s σ) 5 s.toNatClampNeg) - 1)) else (if 0 < lg_cmp ((((f_X5_enter s σ) 2 s.toNatClampNeg).toInt64) + v.toInt64) 1000000 then (0, up2 (up2 (f_X5_enter s σ) 2 s.toNatClampNeg ((f_X5_enter s σ) 2 s.toNatClampNeg)) 5 s.toNatClampNeg (((f_X5_enter s σ) 5 s.toNatClampNeg) - 1)) else (1, up2 (up2 (f_X5_enter s σ) 2 s.toNatClampNeg (((((f_X5_enter s σ) 2 s.toNatClampNeg).toInt64) + v.toInt64).toInt32)) 5 s.toNatClampNeg (((f_X5_enter s σ) 5 s.toNatClampNeg) - 1))))
theorem bn_X5_putPlain (s : Int32) (v : Int32) (σ : Sg) : Bn (f_X5_putPlain s v σ).1 := by
  unfold f_X5_putPlain
  repeat' (first | exact Bn.z | exact Bn.o | refine Bn.ite1 ?_ ?_)
theorem zb_X5_putPlain (s : Int32) (v : Int32) (σ : Sg) : narrow .boolean (.int (f_X5_putPlain s v σ).1) = .int (f_X5_putPlain s v σ).1 := zb01 (bn_X5_putPlain s v σ)
theorem hd_X5_putPlain : yX5_putPlain.cls ≠ "java/lang/invoke/MethodHandle" ∧ yX5_putPlain.cls ≠ "java/lang/invoke/VarHandle" ∧ (parseMethodDescriptor yX5_putPlain.desc).map (fun d => d.parameters.length) = some 2 := by decide +kernel
set_option maxHeartbeats 4000000 in
set_option maxRecDepth 20000 in
theorem c_X5_putPlain (l : Launch) (g : Gy) (ad : Nat → Nat) (σ : Sg) (s : Int32) (v : Int32) (hs : vp_in s 4200) : Con l g yX5_putPlain cX5_putPlain 6 (some .boolean) (rmL 1) [.ref (ad 0), .int s, .int v] (wM g ad σ) (Det (some (.int (f_X5_putPlain s v σ).1)) (wM g ad ((f_X5_putPlain s v σ).2))) := by
  refine Con.of (by decide) (Nat.le_of_ble_eq_true rfl) ?_
  intro x h e1 e2 e3 e4 e5 hr
  subst e1 e2
  have h : Ok x cX5_putPlain "SafeDeskModel" (some .boolean) := h
  have hR : RmOk x 1 0 0 := RmOk.of e3 (Nat.le_refl _) (Nat.le_refl _)
  obtain ⟨out, ho⟩ : ∃ o, f_X5_putPlain s v σ = o := ⟨_, rfl⟩
  rw [ho] at hr
  unfold f_X5_putPlain at ho
  show J x 0 0 _ 0 [(0, .ref (ad 0)), (1, .int s), (2, .int v)] []
  refine J_aload_n (pc := 0) (n := 0) (i := 0) h 0 rfl rfl dX5_putPlain_0 ?_
  refine J_iload_n (pc := 1) (n := 1) (i := 1) h 1 rfl rfl dX5_putPlain_1 ?_
  refine J_cM (pc := 2) h hR (by decide) (c_X5_enter _ _ _ σ s hs) (by decide) m_475 m_477 ms_22 m_478 ⟨rfl, hd_X5_enter⟩ rfl rfl (Nat.le_of_ble_eq_true rfl) [] rfl dX5_putPlain_2 ?_
  refine J_aload_n (pc := 5) (n := 0) (i := 0) h 0 rfl rfl dX5_putPlain_5 ?_
  refine J_Mr2 (pc := 6) h m_334 dX5_putPlain_6 ?_
  refine J_iload_n (pc := 9) (n := 1) (i := 1) h 1 rfl rfl dX5_putPlain_9 ?_
  refine J_Ma (pc := 10) h 2 4200 ⟨by decide, by decide⟩ rfl hs ((f_X5_enter s σ) 2 s.toNatClampNeg) rfl dX5_putPlain_10 ?_
  refine J_i2l (pc := 11) h dX5_putPlain_11 ?_
  refine J_iload_n (pc := 12) (n := 2) (i := 2) h 2 rfl rfl dX5_putPlain_12 ?_
  refine J_i2l (pc := 13) h dX5_putPlain_13 ?_
  refine J_ladd (pc := 14) h dX5_putPlain_14 ?_
  refine J_lstore_n (pc := 15) (n := 3) (i := 3) h [(3, .long ((((f_X5_enter s σ) 2 s.toNatClampNeg).toInt64) + v.toInt64)), (0, .ref (ad 0)), (1, .int s), (2, .int v)] rfl (by rw [e4]; decide) rfl dX5_putPlain_15 ?_
  refine J_lload_n (pc := 16) (n := 3) (i := 3) h 0 rfl rfl dX5_putPlain_16 ?_
  refine J_lconst (pc := 17) h (0) rfl dX5_putPlain_17 ?_
  refine J_lcmp (pc := 18) h dX5_putPlain_18 ?_
  refine J_if_lt (pc := 19) h 34 (by decide) dX5_putPlain_19 (fun c1 => ?_) (fun c1 => ?_)
  · replace ho := (if_pos c1).symm.trans ho
    refine J_iconst (pc := 34) h (0) rfl dX5_putPlain_34 ?_
    refine J_istore (pc := 35) h [(5, .int 0), (3, .long ((((f_X5_enter s σ) 2 s.toNatClampNeg).toInt64) + v.toInt64)), (0, .ref (ad 0)), (1, .int s), (2, .int v)] (by rw [e4]; decide) rfl dX5_putPlain_35 ?_
    refine J_aload_n (pc := 37) (n := 0) (i := 0) h 2 rfl rfl dX5_putPlain_37 ?_
    refine J_Mr2 (pc := 38) h m_334 dX5_putPlain_38 ?_
    refine J_iload_n (pc := 41) (n := 1) (i := 1) h 3 rfl rfl dX5_putPlain_41 ?_
    refine J_iload (pc := 42) h 0 rfl dX5_putPlain_42 ?_
    refine J_if_eq (pc := 44) h 52 (by decide) dX5_putPlain_44 (fun c2 => ?_) (fun c2 => ?_)
    · skip
      refine J_aload_n (pc := 52) (n := 0) (i := 0) h 2 rfl rfl dX5_putPlain_52 ?_
      refine J_Mr2 (pc := 53) h m_334 dX5_putPlain_53 ?_
      refine J_iload_n (pc := 56) (n := 1) (i := 1) h 3 rfl rfl dX5_putPlain_56 ?_
      refine J_Ma (pc := 57) h 2 4200 ⟨by decide, by decide⟩ rfl hs ((f_X5_enter s σ) 2 s.toNatClampNeg) rfl dX5_putPlain_57 ?_
      refine J_Ms (pc := 58) h 2 4200 ⟨by decide, by decide⟩ rfl hs dX5_putPlain_58 ?_
      refine J_aload_n (pc := 59) (n := 0) (i := 0) h 2 rfl rfl dX5_putPlain_59 ?_
      refine J_Mr5 (pc := 60) h m_337 dX5_putPlain_60 ?_
      refine J_iload_n (pc := 63) (n := 1) (i := 1) h 3 rfl rfl dX5_putPlain_63 ?_
      refine J_dup2 (pc := 64) h rfl rfl dX5_putPlain_64 ?_
      refine J_Ma (pc := 65) h 5 4200 ⟨by decide, by decide⟩ rfl hs ((f_X5_enter s σ) 5 s.toNatClampNeg) (up2_off _ _ (by decide)) dX5_putPlain_65 ?_
      refine J_iconst (pc := 66) h (1) rfl dX5_putPlain_66 ?_
      refine J_isub (pc := 67) h dX5_putPlain_67 ?_
      refine J_Ms (pc := 68) h 5 4200 ⟨by decide, by decide⟩ rfl hs dX5_putPlain_68 ?_
      refine J_iload (pc := 69) h 0 rfl dX5_putPlain_69 ?_
      exact J_zret (pc := 71) h rfl hr (by subst ho; exact ⟨rfl, rfl⟩) dX5_putPlain_71
    · exact absurd rfl c2
  · replace ho := (if_neg c1).symm.trans ho
    refine J_lload_n (pc := 22) (n := 3) (i := 3) h 0 rfl rfl dX5_putPlain_22 ?_
    refine J_ldc2 (pc := 23) h m_491 dX5_putPlain_23 ?_
    refine J_lcmp (pc := 26) h dX5_putPlain_26 ?_
    refine J_if_gt (pc := 27) h 34 (by decide) dX5_putPlain_27 (fun c3 => ?_) (fun c3 => ?_)
    · replace ho := (if_pos c3).symm.trans ho
      refine J_iconst (pc := 34) h (0) rfl dX5_putPlain_34 ?_
      refine J_istore (pc := 35) h [(5, .int 0), (3, .long ((((f_X5_enter s σ) 2 s.toNatClampNeg).toInt64) + v.toInt64)), (0, .ref (ad 0)), (1, .int s), (2, .int v)] (by rw [e4]; decide) rfl dX5_putPlain_35 ?_
      refine J_aload_n (pc := 37) (n := 0) (i := 0) h 2 rfl rfl dX5_putPlain_37 ?_
      refine J_Mr2 (pc := 38) h m_334 dX5_putPlain_38 ?_
      refine J_iload_n (pc := 41) (n := 1) (i := 1) h 3 rfl rfl dX5_putPlain_41 ?_
      refine J_iload (pc := 42) h 0 rfl dX5_putPlain_42 ?_
      refine J_if_eq (pc := 44) h 52 (by decide) dX5_putPlain_44 (fun c4 => ?_) (fun c4 => ?_)
      · skip
        refine J_aload_n (pc := 52) (n := 0) (i := 0) h 2 rfl rfl dX5_putPlain_52 ?_
        refine J_Mr2 (pc := 53) h m_334 dX5_putPlain_53 ?_
        refine J_iload_n (pc := 56) (n := 1) (i := 1) h 3 rfl rfl dX5_putPlain_56 ?_
        refine J_Ma (pc := 57) h 2 4200 ⟨by decide, by decide⟩ rfl hs ((f_X5_enter s σ) 2 s.toNatClampNeg) rfl dX5_putPlain_57 ?_
        refine J_Ms (pc := 58) h 2 4200 ⟨by decide, by decide⟩ rfl hs dX5_putPlain_58 ?_
        refine J_aload_n (pc := 59) (n := 0) (i := 0) h 2 rfl rfl dX5_putPlain_59 ?_
        refine J_Mr5 (pc := 60) h m_337 dX5_putPlain_60 ?_
        refine J_iload_n (pc := 63) (n := 1) (i := 1) h 3 rfl rfl dX5_putPlain_63 ?_
        refine J_dup2 (pc := 64) h rfl rfl dX5_putPlain_64 ?_
        refine J_Ma (pc := 65) h 5 4200 ⟨by decide, by decide⟩ rfl hs ((f_X5_enter s σ) 5 s.toNatClampNeg) (up2_off _ _ (by decide)) dX5_putPlain_65 ?_
        refine J_iconst (pc := 66) h (1) rfl dX5_putPlain_66 ?_
        refine J_isub (pc := 67) h dX5_putPlain_67 ?_
        refine J_Ms (pc := 68) h 5 4200 ⟨by decide, by decide⟩ rfl hs dX5_putPlain_68 ?_
        refine J_iload (pc := 69) h 0 rfl dX5_putPlain_69 ?_
        exact J_zret (pc := 71) h rfl hr (by subst ho; exact ⟨rfl, rfl⟩) dX5_putPlain_71
      · exact absurd rfl c4
    · replace ho := (if_neg c3).symm.trans ho
      refine J_iconst (pc := 30) h (1) rfl dX5_putPlain_30 ?_
      refine J_goto (pc := 31) h 35 (by decide) dX5_putPlain_31 ?_
      refine J_istore (pc := 35) h [(5, .int 1), (3, .long ((((f_X5_enter s σ) 2 s.toNatClampNeg).toInt64) + v.toInt64)), (0, .ref (ad 0)), (1, .int s), (2, .int v)] (by rw [e4]; decide) rfl dX5_putPlain_35 ?_
      refine J_aload_n (pc := 37) (n := 0) (i := 0) h 2 rfl rfl dX5_putPlain_37 ?_
      refine J_Mr2 (pc := 38) h m_334 dX5_putPlain_38 ?_
      refine J_iload_n (pc := 41) (n := 1) (i := 1) h 3 rfl rfl dX5_putPlain_41 ?_
      refine J_iload (pc := 42) h 0 rfl dX5_putPlain_42 ?_
      refine J_if_eq (pc := 44) h 52 (by decide) dX5_putPlain_44 (fun c5 => ?_) (fun c5 => ?_)
      · exact absurd c5 (by decide)
      · skip
        refine J_lload_n (pc := 47) (n := 3) (i := 3) h 1 rfl rfl dX5_putPlain_47 ?_
        refine J_l2i (pc := 48) h dX5_putPlain_48 ?_
        refine J_goto (pc := 49) h 58 (by decide) dX5_putPlain_49 ?_
        refine J_Ms (pc := 58) h 2 4200 ⟨by decide, by decide⟩ rfl hs dX5_putPlain_58 ?_
        refine J_aload_n (pc := 59) (n := 0) (i := 0) h 2 rfl rfl dX5_putPlain_59 ?_
        refine J_Mr5 (pc := 60) h m_337 dX5_putPlain_60 ?_
        refine J_iload_n (pc := 63) (n := 1) (i := 1) h 3 rfl rfl dX5_putPlain_63 ?_
        refine J_dup2 (pc := 64) h rfl rfl dX5_putPlain_64 ?_
        refine J_Ma (pc := 65) h 5 4200 ⟨by decide, by decide⟩ rfl hs ((f_X5_enter s σ) 5 s.toNatClampNeg) (up2_off _ _ (by decide)) dX5_putPlain_65 ?_
        refine J_iconst (pc := 66) h (1) rfl dX5_putPlain_66 ?_
        refine J_isub (pc := 67) h dX5_putPlain_67 ?_
        refine J_Ms (pc := 68) h 5 4200 ⟨by decide, by decide⟩ rfl hs dX5_putPlain_68 ?_
        refine J_iload (pc := 69) h 0 rfl dX5_putPlain_69 ?_
        exact J_zret (pc := 71) h rfl hr (by subst ho; exact ⟨rfl, rfl⟩) dX5_putPlain_71
def f_X5_putTimed (s : Int32) (v : Int32) (σ : Sg) : Int32 × Sg := ((f_X5_putPlain s v (up2 (f_X5_enter s σ) 3 s.toNatClampNeg (((f_X5_enter s σ) 3 s.toNatClampNeg) + 1))).1, up2 ((f_X5_putPlain s v (up2 (f_X5_enter s σ) 3 s.toNatClampNeg (((f_X5_enter s σ) 3 s.toNatClampNeg) + 1))).2) 5 s.toNatClampNeg ((((f_X5_putPlain s v (up2 (f_X5_enter s σ) 3 s.toNatClampNeg (((f_X5_enter s σ) 3 s.toNatClampNeg) + 1))).2) 5 s.toNatClampNeg) - 1))
theorem bn_X5_putTimed (s : Int32) (v : Int32) (σ : Sg) : Bn (f_X5_putTimed s v σ).1 := by
  unfold f_X5_putTimed
  repeat' (first | exact Bn.z | exact Bn.o | exact bn_X5_putPlain _ _ _ | refine Bn.ite1 ?_ ?_)
theorem zb_X5_putTimed (s : Int32) (v : Int32) (σ : Sg) : narrow .boolean (.int (f_X5_putTimed s v σ).1) = .int (f_X5_putTimed s v σ).1 := zb01 (bn_X5_putTimed s v σ)
theorem hd_X5_putTimed : yX5_putTimed.cls ≠ "java/lang/invoke/MethodHandle" ∧ yX5_putTimed.cls ≠ "java/lang/invoke/VarHandle" ∧ (parseMethodDescriptor yX5_putTimed.desc).map (fun d => d.parameters.length) = some 2 := by decide +kernel
set_option maxHeartbeats 4000000 in
set_option maxRecDepth 20000 in
theorem c_X5_putTimed (l : Launch) (g : Gy) (ad : Nat → Nat) (σ : Sg) (s : Int32) (v : Int32) (hs : vp_in s 4200) : Con l g yX5_putTimed cX5_putTimed 4 (some .boolean) (rmL 2) [.ref (ad 0), .int s, .int v] (wM g ad σ) (Det (some (.int (f_X5_putTimed s v σ).1)) (wM g ad ((f_X5_putTimed s v σ).2))) := by
  refine Con.of (by decide) (Nat.le_of_ble_eq_true rfl) ?_
  intro x h e1 e2 e3 e4 e5 hr
  subst e1 e2
  have h : Ok x cX5_putTimed "SafeDeskModel" (some .boolean) := h
  have hR : RmOk x 2 0 0 := RmOk.of e3 (Nat.le_refl _) (Nat.le_refl _)
  obtain ⟨out, ho⟩ : ∃ o, f_X5_putTimed s v σ = o := ⟨_, rfl⟩
  rw [ho] at hr
  unfold f_X5_putTimed at ho
  show J x 0 0 _ 0 [(0, .ref (ad 0)), (1, .int s), (2, .int v)] []
  refine J_aload_n (pc := 0) (n := 0) (i := 0) h 0 rfl rfl dX5_putTimed_0 ?_
  refine J_iload_n (pc := 1) (n := 1) (i := 1) h 1 rfl rfl dX5_putTimed_1 ?_
  refine J_cM (pc := 2) h hR (by decide) (c_X5_enter _ _ _ σ s hs) (by decide) m_475 m_477 ms_22 m_478 ⟨rfl, hd_X5_enter⟩ rfl rfl (Nat.le_of_ble_eq_true rfl) [] rfl dX5_putTimed_2 ?_
  refine J_aload_n (pc := 5) (n := 0) (i := 0) h 0 rfl rfl dX5_putTimed_5 ?_
  refine J_Mr3 (pc := 6) h m_335 dX5_putTimed_6 ?_
  refine J_iload_n (pc := 9) (n := 1) (i := 1) h 1 rfl rfl dX5_putTimed_9 ?_
  refine J_dup2 (pc := 10) h rfl rfl dX5_putTimed_10 ?_
  refine J_Ma (pc := 11) h 3 4200 ⟨by decide, by decide⟩ rfl hs ((f_X5_enter s σ) 3 s.toNatClampNeg) rfl dX5_putTimed_11 ?_
  refine J_iconst (pc := 12) h (1) rfl dX5_putTimed_12 ?_
  refine J_iadd (pc := 13) h dX5_putTimed_13 ?_
  refine J_Ms (pc := 14) h 3 4200 ⟨by decide, by decide⟩ rfl hs dX5_putTimed_14 ?_
  refine J_aload_n (pc := 15) (n := 0) (i := 0) h 0 rfl rfl dX5_putTimed_15 ?_
  refine J_iload_n (pc := 16) (n := 1) (i := 1) h 1 rfl rfl dX5_putTimed_16 ?_
  refine J_iload_n (pc := 17) (n := 2) (i := 2) h 2 rfl rfl dX5_putTimed_17 ?_
  refine J_cM (pc := 18) h hR (by decide) (c_X5_putPlain _ _ _ (up2 (f_X5_enter s σ) 3 s.toNatClampNeg (((f_X5_enter s σ) 3 s.toNatClampNeg) + 1)) s v hs) (by decide) m_487 m_489 ms_25 m_490 ⟨rfl, hd_X5_putPlain⟩ rfl rfl (Nat.le_of_ble_eq_true rfl) [.int ((f_X5_putPlain s v (up2 (f_X5_enter s σ) 3 s.toNatClampNeg (((f_X5_enter s σ) 3 s.toNatClampNeg) + 1))).1)] rfl dX5_putTimed_18 ?_
  refine J_istore_n (pc := 21) (n := 3) (i := 3) h [(3, .int ((f_X5_putPlain s v (up2 (f_X5_enter s σ) 3 s.toNatClampNeg (((f_X5_enter s σ) 3 s.toNatClampNeg) + 1))).1)), (0, .ref (ad 0)), (1, .int s), (2, .int v)] rfl (by rw [e4]; decide) rfl dX5_putTimed_21 ?_
  refine J_aload_n (pc := 22) (n := 0) (i := 0) h 1 rfl rfl dX5_putTimed_22 ?_
  refine J_Mr5 (pc := 23) h m_337 dX5_putTimed_23 ?_
  refine J_iload_n (pc := 26) (n := 1) (i := 1) h 2 rfl rfl dX5_putTimed_26 ?_
  refine J_dup2 (pc := 27) h rfl rfl dX5_putTimed_27 ?_
  refine J_Ma (pc := 28) h 5 4200 ⟨by decide, by decide⟩ rfl hs (((f_X5_putPlain s v (up2 (f_X5_enter s σ) 3 s.toNatClampNeg (((f_X5_enter s σ) 3 s.toNatClampNeg) + 1))).2) 5 s.toNatClampNeg) rfl dX5_putTimed_28 ?_
  refine J_iconst (pc := 29) h (1) rfl dX5_putTimed_29 ?_
  refine J_isub (pc := 30) h dX5_putTimed_30 ?_
  refine J_Ms (pc := 31) h 5 4200 ⟨by decide, by decide⟩ rfl hs dX5_putTimed_31 ?_
  refine J_iload_n (pc := 32) (n := 3) (i := 3) h 0 rfl rfl dX5_putTimed_32 ?_
  exact J_zret (pc := 33) h (zb_X5_putPlain _ _ _) hr (by subst ho; exact ⟨rfl, rfl⟩) dX5_putTimed_33
def f_X5_put (s : Int32) (v : Int32) (σ : Sg) : Int32 × Sg := (if σ 1 s.toNatClampNeg = 0 then ((f_X5_putPlain s v σ).1, (f_X5_putPlain s v σ).2) else (if σ 1 s.toNatClampNeg = 1 then ((f_X5_putTimed s v σ).1, (f_X5_putTimed s v σ).2) else (if (f_X5_putTimed s v (f_X5_enter s σ)).1 = 0 then (0, up2 ((f_X5_putTimed s v (f_X5_enter s σ)).2) 5 s.toNatClampNeg ((((f_X5_putTimed s v (f_X5_enter s σ)).2) 5 s.toNatClampNeg) - 1)) else (if (f_X5_putTimed s v ((f_X5_putTimed s v (f_X5_enter s σ)).2)).1 = 0 then (0, up2 ((f_X5_putTimed s v ((f_X5_putTimed s v (f_X5_enter s σ)).2)).2) 5 s.toNatClampNeg ((((f_X5_putTimed s v ((f_X5_putTimed s v (f_X5_enter s σ)).2)).2) 5 s.toNatClampNeg) - 1)) else (1, up2 ((f_X5_putTimed s v ((f_X5_putTimed s v (f_X5_enter s σ)).2)).2) 5 s.toNatClampNeg ((((f_X5_putTimed s v ((f_X5_putTimed s v (f_X5_enter s σ)).2)).2) 5 s.toNatClampNeg) - 1))))))
theorem bn_X5_put (s v : Int32) (σ : Sg) : Bn (f_X5_put s v σ).1 := Bn.ite1 (bn_X5_putPlain _ _ _) (Bn.ite1 (bn_X5_putTimed _ _ _) (Bn.ite1 Bn.z (Bn.ite1 Bn.z Bn.o)))
theorem zb_X5_put (s v : Int32) (σ : Sg) : narrow .boolean (.int (f_X5_put s v σ).1) = .int (f_X5_put s v σ).1 := zb01 (bn_X5_put s v σ)
theorem hd_X5_put : yX5_put.cls ≠ "java/lang/invoke/MethodHandle" ∧ yX5_put.cls ≠ "java/lang/invoke/VarHandle" ∧ (parseMethodDescriptor yX5_put.desc).map (fun d => d.parameters.length) = some 2 := by decide +kernel
set_option maxHeartbeats 4000000 in
set_option maxRecDepth 20000 in
theorem c_X5_put (l : Launch) (g : Gy) (ad : Nat → Nat) (σ : Sg) (s : Int32) (v : Int32) (hs : vp_in s 4200) : Con l g yX5_put cX5_put 4 (some .boolean) (rmL 3) [.ref (ad 0), .int s, .int v] (wM g ad σ) (Det (some (.int (f_X5_put s v σ).1)) (wM g ad ((f_X5_put s v σ).2))) := by
  refine Con.of (by decide) (Nat.le_of_ble_eq_true rfl) ?_
  intro x h e1 e2 e3 e4 e5 hr
  subst e1 e2
  have h : Ok x cX5_put "SafeDeskModel" (some .boolean) := h
  have hR : RmOk x 3 0 0 := RmOk.of e3 (Nat.le_refl _) (Nat.le_refl _)
  obtain ⟨out, ho⟩ : ∃ o, f_X5_put s v σ = o := ⟨_, rfl⟩
  rw [ho] at hr
  unfold f_X5_put at ho
  show J x 0 0 _ 0 [(0, .ref (ad 0)), (1, .int s), (2, .int v)] []
  refine J_aload_n (pc := 0) (n := 0) (i := 0) h 0 rfl rfl dX5_put_0 ?_
  refine J_Mr1 (pc := 1) h m_333 dX5_put_1 ?_
  refine J_iload_n (pc := 4) (n := 1) (i := 1) h 1 rfl rfl dX5_put_4 ?_
  refine J_Ma (pc := 5) h 1 4200 ⟨by decide, by decide⟩ rfl hs (σ 1 s.toNatClampNeg) rfl dX5_put_5 ?_
  refine J_if_ne (pc := 6) h 16 (by decide) dX5_put_6 (fun c1 => ?_) (fun c1 => ?_)
  · replace ho := (if_neg c1).symm.trans ho
    refine J_aload_n (pc := 16) (n := 0) (i := 0) h 0 rfl rfl dX5_put_16 ?_
    refine J_Mr1 (pc := 17) h m_333 dX5_put_17 ?_
    refine J_iload_n (pc := 20) (n := 1) (i := 1) h 1 rfl rfl dX5_put_20 ?_
    refine J_Ma (pc := 21) h 1 4200 ⟨by decide, by decide⟩ rfl hs (σ 1 s.toNatClampNeg) rfl dX5_put_21 ?_
    refine J_iconst (pc := 22) h (1) rfl dX5_put_22 ?_
    refine J_icmp_ne (pc := 23) h 33 (by decide) dX5_put_23 (fun c2 => ?_) (fun c2 => ?_)
    · replace ho := (if_neg c2).symm.trans ho
      refine J_aload_n (pc := 33) (n := 0) (i := 0) h 0 rfl rfl dX5_put_33 ?_
      refine J_iload_n (pc := 34) (n := 1) (i := 1) h 1 rfl rfl dX5_put_34 ?_
      refine J_cM (pc := 35) h hR (by decide) (c_X5_enter _ _ _ σ s hs) (by decide) m_475 m_477 ms_22 m_478 ⟨rfl, hd_X5_enter⟩ rfl rfl (Nat.le_of_ble_eq_true rfl) [] rfl dX5_put_35 ?_
      refine J_aload_n (pc := 38) (n := 0) (i := 0) h 0 rfl rfl dX5_put_38 ?_
      refine J_iload_n (pc := 39) (n := 1) (i := 1) h 1 rfl rfl dX5_put_39 ?_
      refine J_iload_n (pc := 40) (n := 2) (i := 2) h 2 rfl rfl dX5_put_40 ?_
      refine J_cM (pc := 41) h hR (by decide) (c_X5_putTimed _ _ _ (f_X5_enter s σ) s v hs) (by decide) m_492 m_494 ms_26 m_495 ⟨rfl, hd_X5_putTimed⟩ rfl rfl (Nat.le_of_ble_eq_true rfl) [.int ((f_X5_putTimed s v (f_X5_enter s σ)).1)] rfl dX5_put_41 ?_
      refine J_if_eq (pc := 44) h 60 (by decide) dX5_put_44 (fun c3 => ?_) (fun c3 => ?_)
      · replace ho := (if_pos c3).symm.trans ho
        refine J_iconst (pc := 60) h (0) rfl dX5_put_60 ?_
        refine J_istore_n (pc := 61) (n := 3) (i := 3) h [(3, .int 0), (0, .ref (ad 0)), (1, .int s), (2, .int v)] rfl (by rw [e4]; decide) rfl dX5_put_61 ?_
        refine J_aload_n (pc := 62) (n := 0) (i := 0) h 1 rfl rfl dX5_put_62 ?_
        refine J_Mr5 (pc := 63) h m_337 dX5_put_63 ?_
        refine J_iload_n (pc := 66) (n := 1) (i := 1) h 2 rfl rfl dX5_put_66 ?_
        refine J_dup2 (pc := 67) h rfl rfl dX5_put_67 ?_
        refine J_Ma (pc := 68) h 5 4200 ⟨by decide, by decide⟩ rfl hs (((f_X5_putTimed s v (f_X5_enter s σ)).2) 5 s.toNatClampNeg) rfl dX5_put_68 ?_
        refine J_iconst (pc := 69) h (1) rfl dX5_put_69 ?_
        refine J_isub (pc := 70) h dX5_put_70 ?_
        refine J_Ms (pc := 71) h 5 4200 ⟨by decide, by decide⟩ rfl hs dX5_put_71 ?_
        refine J_iload_n (pc := 72) (n := 3) (i := 3) h 0 rfl rfl dX5_put_72 ?_
        exact J_zret (pc := 73) h rfl hr (by subst ho; exact ⟨rfl, rfl⟩) dX5_put_73
      · replace ho := (if_neg c3).symm.trans ho
        refine J_aload_n (pc := 47) (n := 0) (i := 0) h 0 rfl rfl dX5_put_47 ?_
        refine J_iload_n (pc := 48) (n := 1) (i := 1) h 1 rfl rfl dX5_put_48 ?_
        refine J_iload_n (pc := 49) (n := 2) (i := 2) h 2 rfl rfl dX5_put_49 ?_
        refine J_cM (pc := 50) h hR (by decide) (c_X5_putTimed _ _ _ ((f_X5_putTimed s v (f_X5_enter s σ)).2) s v hs) (by decide) m_492 m_494 ms_26 m_495 ⟨rfl, hd_X5_putTimed⟩ rfl rfl (Nat.le_of_ble_eq_true rfl) [.int ((f_X5_putTimed s v ((f_X5_putTimed s v (f_X5_enter s σ)).2)).1)] rfl dX5_put_50 ?_
        refine J_if_eq (pc := 53) h 60 (by decide) dX5_put_53 (fun c4 => ?_) (fun c4 => ?_)
        · replace ho := (if_pos c4).symm.trans ho
          refine J_iconst (pc := 60) h (0) rfl dX5_put_60 ?_
          refine J_istore_n (pc := 61) (n := 3) (i := 3) h [(3, .int 0), (0, .ref (ad 0)), (1, .int s), (2, .int v)] rfl (by rw [e4]; decide) rfl dX5_put_61 ?_
          refine J_aload_n (pc := 62) (n := 0) (i := 0) h 1 rfl rfl dX5_put_62 ?_
          refine J_Mr5 (pc := 63) h m_337 dX5_put_63 ?_
          refine J_iload_n (pc := 66) (n := 1) (i := 1) h 2 rfl rfl dX5_put_66 ?_
          refine J_dup2 (pc := 67) h rfl rfl dX5_put_67 ?_
          refine J_Ma (pc := 68) h 5 4200 ⟨by decide, by decide⟩ rfl hs (((f_X5_putTimed s v ((f_X5_putTimed s v (f_X5_enter s σ)).2)).2) 5 s.toNatClampNeg) rfl dX5_put_68 ?_
          refine J_iconst (pc := 69) h (1) rfl dX5_put_69 ?_
          refine J_isub (pc := 70) h dX5_put_70 ?_
          refine J_Ms (pc := 71) h 5 4200 ⟨by decide, by decide⟩ rfl hs dX5_put_71 ?_
          refine J_iload_n (pc := 72) (n := 3) (i := 3) h 0 rfl rfl dX5_put_72 ?_
          exact J_zret (pc := 73) h rfl hr (by subst ho; exact ⟨rfl, rfl⟩) dX5_put_73
        · replace ho := (if_neg c4).symm.trans ho
          refine J_iconst (pc := 56) h (1) rfl dX5_put_56 ?_
          refine J_goto (pc := 57) h 61 (by decide) dX5_put_57 ?_
          refine J_istore_n (pc := 61) (n := 3) (i := 3) h [(3, .int 1), (0, .ref (ad 0)), (1, .int s), (2, .int v)] rfl (by rw [e4]; decide) rfl dX5_put_61 ?_
          refine J_aload_n (pc := 62) (n := 0) (i := 0) h 1 rfl rfl dX5_put_62 ?_
          refine J_Mr5 (pc := 63) h m_337 dX5_put_63 ?_
          refine J_iload_n (pc := 66) (n := 1) (i := 1) h 2 rfl rfl dX5_put_66 ?_
          refine J_dup2 (pc := 67) h rfl rfl dX5_put_67 ?_
          refine J_Ma (pc := 68) h 5 4200 ⟨by decide, by decide⟩ rfl hs (((f_X5_putTimed s v ((f_X5_putTimed s v (f_X5_enter s σ)).2)).2) 5 s.toNatClampNeg) rfl dX5_put_68 ?_
          refine J_iconst (pc := 69) h (1) rfl dX5_put_69 ?_
          refine J_isub (pc := 70) h dX5_put_70 ?_
          refine J_Ms (pc := 71) h 5 4200 ⟨by decide, by decide⟩ rfl hs dX5_put_71 ?_
          refine J_iload_n (pc := 72) (n := 3) (i := 3) h 0 rfl rfl dX5_put_72 ?_
          exact J_zret (pc := 73) h rfl hr (by subst ho; exact ⟨rfl, rfl⟩) dX5_put_73
    · replace ho := (if_pos c2).symm.trans ho
      refine J_aload_n (pc := 26) (n := 0) (i := 0) h 0 rfl rfl dX5_put_26 ?_
      refine J_iload_n (pc := 27) (n := 1) (i := 1) h 1 rfl rfl dX5_put_27 ?_
      refine J_iload_n (pc := 28) (n := 2) (i := 2) h 2 rfl rfl dX5_put_28 ?_
      refine J_cM (pc := 29) h hR (by decide) (c_X5_putTimed _ _ _ σ s v hs) (by decide) m_492 m_494 ms_26 m_495 ⟨rfl, hd_X5_putTimed⟩ rfl rfl (Nat.le_of_ble_eq_true rfl) [.int ((f_X5_putTimed s v σ).1)] rfl dX5_put_29 ?_
      exact J_zret (pc := 32) h (zb_X5_putTimed _ _ _) hr (by subst ho; exact ⟨rfl, rfl⟩) dX5_put_32
  · replace ho := (if_pos c1).symm.trans ho
    refine J_aload_n (pc := 9) (n := 0) (i := 0) h 0 rfl rfl dX5_put_9 ?_
    refine J_iload_n (pc := 10) (n := 1) (i := 1) h 1 rfl rfl dX5_put_10 ?_
    refine J_iload_n (pc := 11) (n := 2) (i := 2) h 2 rfl rfl dX5_put_11 ?_
    refine J_cM (pc := 12) h hR (by decide) (c_X5_putPlain _ _ _ σ s v hs) (by decide) m_487 m_489 ms_25 m_490 ⟨rfl, hd_X5_putPlain⟩ rfl rfl (Nat.le_of_ble_eq_true rfl) [.int ((f_X5_putPlain s v σ).1)] rfl dX5_put_12 ?_
    exact J_zret (pc := 15) h (zb_X5_putPlain _ _ _) hr (by subst ho; exact ⟨rfl, rfl⟩) dX5_put_15
def f_X5_give (s : Int32) (w : Int32) (v : Int32) (σ : Sg) : Int32 × Sg := (if (f_X5_put s (-v) (f_X5_enter s σ)).1 = 0 then (30, up2 ((f_X5_put s (-v) (f_X5_enter s σ)).2) 5 s.toNatClampNeg ((((f_X5_put s (-v) (f_X5_enter s σ)).2) 5 s.toNatClampNeg) - 1)) else (if w = (-1) then (1, up2 ((f_X5_put s v ((f_X5_put s (-v) (f_X5_enter s σ)).2)).2) 5 s.toNatClampNeg ((((f_X5_put s v ((f_X5_put s (-v) (f_X5_enter s σ)).2)).2) 5 s.toNatClampNeg) - 1)) else (if (f_X5_put w v ((f_X5_put s (-v) (f_X5_enter s σ)).2)).1 = 0 then (30, up2 ((f_X5_put s v ((f_X5_put w v ((f_X5_put s (-v) (f_X5_enter s σ)).2)).2)).2) 5 s.toNatClampNeg ((((f_X5_put s v ((f_X5_put w v ((f_X5_put s (-v) (f_X5_enter s σ)).2)).2)).2) 5 s.toNatClampNeg) - 1)) else (0, up2 ((f_X5_put w v ((f_X5_put s (-v) (f_X5_enter s σ)).2)).2) 5 s.toNatClampNeg ((((f_X5_put w v ((f_X5_put s (-v) (f_X5_enter s σ)).2)).2) 5 s.toNatClampNeg) - 1)))))
theorem hd_X5_give : yX5_give.cls ≠ "java/lang/invoke/MethodHandle" ∧ yX5_give.cls ≠ "java/lang/invoke/VarHandle" ∧ (parseMethodDescriptor yX5_give.desc).map (fun d => d.parameters.length) = some 3 := by decide +kernel
set_option maxHeartbeats 4000000 in
set_option maxRecDepth 20000 in
theorem c_X5_give (l : Launch) (g : Gy) (ad : Nat → Nat) (σ : Sg) (s : Int32) (w : Int32) (v : Int32) (hs : vp_in s 4200) (hw : w = -1 ∨ vp_in w 4200) : Con l g yX5_give cX5_give 6 (some .int) (rmL 4) [.ref (ad 0), .int s, .int w, .int v] (wM g ad σ) (Det (some (.int (f_X5_give s w v σ).1)) (wM g ad ((f_X5_give s w v σ).2))) := by
  refine Con.of (by decide) (Nat.le_of_ble_eq_true rfl) ?_
  intro x h e1 e2 e3 e4 e5 hr
  subst e1 e2
  have h : Ok x cX5_give "SafeDeskModel" (some .int) := h
  have hR : RmOk x 4 0 0 := RmOk.of e3 (Nat.le_refl _) (Nat.le_refl _)
  obtain ⟨out, ho⟩ : ∃ o, f_X5_give s w v σ = o := ⟨_, rfl⟩
  rw [ho] at hr
  unfold f_X5_give at ho
  show J x 0 0 _ 0 [(0, .ref (ad 0)), (1, .int s), (2, .int w), (3, .int v)] []
  refine J_aload_n (pc := 0) (n := 0) (i := 0) h 0 rfl rfl dX5_give_0 ?_
  refine J_iload_n (pc := 1) (n := 1) (i := 1) h 1 rfl rfl dX5_give_1 ?_
  refine J_cM (pc := 2) h hR (by decide) (c_X5_enter _ _ _ σ s hs) (by decide) m_475 m_477 ms_22 m_478 ⟨rfl, hd_X5_enter⟩ rfl rfl (Nat.le_of_ble_eq_true rfl) [] rfl dX5_give_2 ?_
  refine J_aload_n (pc := 5) (n := 0) (i := 0) h 0 rfl rfl dX5_give_5 ?_
  refine J_iload_n (pc := 6) (n := 1) (i := 1) h 1 rfl rfl dX5_give_6 ?_
  refine J_iload_n (pc := 7) (n := 3) (i := 3) h 3 rfl rfl dX5_give_7 ?_
  refine J_ineg (pc := 8) h dX5_give_8 ?_
  refine J_cM (pc := 9) h hR (by decide) (c_X5_put _ _ _ (f_X5_enter s σ) s (-v) hs) (by decide) m_483 m_485 ms_24 m_486 ⟨rfl, hd_X5_put⟩ rfl rfl (Nat.le_of_ble_eq_true rfl) [.int ((f_X5_put s (-v) (f_X5_enter s σ)).1)] rfl dX5_give_9 ?_
  refine J_if_eq (pc := 12) h 19 (by decide) dX5_give_12 (fun c1 => ?_) (fun c1 => ?_)
  · replace ho := (if_pos c1).symm.trans ho
    refine J_bipush (pc := 19) h (30) rfl dX5_give_19 ?_
    refine J_istore (pc := 21) h [(4, .int 30), (0, .ref (ad 0)), (1, .int s), (2, .int w), (3, .int v)] (by rw [e4]; decide) rfl dX5_give_21 ?_
    refine J_iload (pc := 23) h 0 rfl dX5_give_23 ?_
    refine J_if_ne (pc := 25) h 67 (by decide) dX5_give_25 (fun c2 => ?_) (fun c2 => ?_)
    · skip
      refine J_aload_n (pc := 67) (n := 0) (i := 0) h 1 rfl rfl dX5_give_67 ?_
      refine J_Mr5 (pc := 68) h m_337 dX5_give_68 ?_
      refine J_iload_n (pc := 71) (n := 1) (i := 1) h 2 rfl rfl dX5_give_71 ?_
      refine J_dup2 (pc := 72) h rfl rfl dX5_give_72 ?_
      refine J_Ma (pc := 73) h 5 4200 ⟨by decide, by decide⟩ rfl hs (((f_X5_put s (-v) (f_X5_enter s σ)).2) 5 s.toNatClampNeg) rfl dX5_give_73 ?_
      refine J_iconst (pc := 74) h (1) rfl dX5_give_74 ?_
      refine J_isub (pc := 75) h dX5_give_75 ?_
      refine J_Ms (pc := 76) h 5 4200 ⟨by decide, by decide⟩ rfl hs dX5_give_76 ?_
      refine J_iload (pc := 77) h 0 rfl dX5_give_77 ?_
      exact J_iret (pc := 79) h hr (by subst ho; exact ⟨rfl, rfl⟩) dX5_give_79
    · exact absurd c2 (by decide)
  · replace ho := (if_neg c1).symm.trans ho
    refine J_iconst (pc := 15) h (0) rfl dX5_give_15 ?_
    refine J_goto (pc := 16) h 21 (by decide) dX5_give_16 ?_
    refine J_istore (pc := 21) h [(4, .int 0), (0, .ref (ad 0)), (1, .int s), (2, .int w), (3, .int v)] (by rw [e4]; decide) rfl dX5_give_21 ?_
    refine J_iload (pc := 23) h 0 rfl dX5_give_23 ?_
    refine J_if_ne (pc := 25) h 67 (by decide) dX5_give_25 (fun c3 => ?_) (fun c3 => ?_)
    · exact absurd rfl c3
    · skip
      refine J_iload_n (pc := 28) (n := 2) (i := 2) h 3 rfl rfl dX5_give_28 ?_
      refine J_iconst (pc := 29) h (-1) rfl dX5_give_29 ?_
      refine J_icmp_ne (pc := 30) h 37 (by decide) dX5_give_30 (fun c4 => ?_) (fun c4 => ?_)
      · replace ho := (if_neg c4).symm.trans ho
        refine J_aload_n (pc := 37) (n := 0) (i := 0) h 1 rfl rfl dX5_give_37 ?_
        refine J_iload_n (pc := 38) (n := 2) (i := 2) h 3 rfl rfl dX5_give_38 ?_
        refine J_iload_n (pc := 39) (n := 3) (i := 3) h 4 rfl rfl dX5_give_39 ?_
        refine J_cM (pc := 40) h hR (by decide) (c_X5_put _ _ _ ((f_X5_put s (-v) (f_X5_enter s σ)).2) w v (hw.resolve_left (by assumption))) (by decide) m_483 m_485 ms_24 m_486 ⟨rfl, hd_X5_put⟩ rfl rfl (Nat.le_of_ble_eq_true rfl) [.int ((f_X5_put w v ((f_X5_put s (-v) (f_X5_enter s σ)).2)).1)] rfl dX5_give_40 ?_
        refine J_if_eq (pc := 43) h 50 (by decide) dX5_give_43 (fun c5 => ?_) (fun c5 => ?_)
        · replace ho := (if_pos c5).symm.trans ho
          refine J_bipush (pc := 50) h (30) rfl dX5_give_50 ?_
          refine J_istore (pc := 52) h [(4, .int 30), (0, .ref (ad 0)), (1, .int s), (2, .int w), (3, .int v)] (by rw [e4]; decide) rfl dX5_give_52 ?_
          refine J_iload (pc := 54) h 0 rfl dX5_give_54 ?_
          refine J_if_eq (pc := 56) h 67 (by decide) dX5_give_56 (fun c6 => ?_) (fun c6 => ?_)
          · exact absurd c6 (by decide)
          · skip
            refine J_aload_n (pc := 59) (n := 0) (i := 0) h 1 rfl rfl dX5_give_59 ?_
            refine J_iload_n (pc := 60) (n := 1) (i := 1) h 2 rfl rfl dX5_give_60 ?_
            refine J_iload_n (pc := 61) (n := 3) (i := 3) h 4 rfl rfl dX5_give_61 ?_
            refine J_cM (pc := 62) h hR (by decide) (c_X5_put _ _ _ ((f_X5_put w v ((f_X5_put s (-v) (f_X5_enter s σ)).2)).2) s v hs) (by decide) m_483 m_485 ms_24 m_486 ⟨rfl, hd_X5_put⟩ rfl rfl (Nat.le_of_ble_eq_true rfl) [.int ((f_X5_put s v ((f_X5_put w v ((f_X5_put s (-v) (f_X5_enter s σ)).2)).2)).1)] rfl dX5_give_62 ?_
            refine J_istore (pc := 65) h [(5, .int ((f_X5_put s v ((f_X5_put w v ((f_X5_put s (-v) (f_X5_enter s σ)).2)).2)).1)), (4, .int 30), (0, .ref (ad 0)), (1, .int s), (2, .int w), (3, .int v)] (by rw [e4]; decide) rfl dX5_give_65 ?_
            refine J_aload_n (pc := 67) (n := 0) (i := 0) h 2 rfl rfl dX5_give_67 ?_
            refine J_Mr5 (pc := 68) h m_337 dX5_give_68 ?_
            refine J_iload_n (pc := 71) (n := 1) (i := 1) h 3 rfl rfl dX5_give_71 ?_
            refine J_dup2 (pc := 72) h rfl rfl dX5_give_72 ?_
            refine J_Ma (pc := 73) h 5 4200 ⟨by decide, by decide⟩ rfl hs (((f_X5_put s v ((f_X5_put w v ((f_X5_put s (-v) (f_X5_enter s σ)).2)).2)).2) 5 s.toNatClampNeg) rfl dX5_give_73 ?_
            refine J_iconst (pc := 74) h (1) rfl dX5_give_74 ?_
            refine J_isub (pc := 75) h dX5_give_75 ?_
            refine J_Ms (pc := 76) h 5 4200 ⟨by decide, by decide⟩ rfl hs dX5_give_76 ?_
            refine J_iload (pc := 77) h 1 rfl dX5_give_77 ?_
            exact J_iret (pc := 79) h hr (by subst ho; exact ⟨rfl, rfl⟩) dX5_give_79
        · replace ho := (if_neg c5).symm.trans ho
          refine J_iconst (pc := 46) h (0) rfl dX5_give_46 ?_
          refine J_goto (pc := 47) h 52 (by decide) dX5_give_47 ?_
          refine J_istore (pc := 52) h [(4, .int 0), (0, .ref (ad 0)), (1, .int s), (2, .int w), (3, .int v)] (by rw [e4]; decide) rfl dX5_give_52 ?_
          refine J_iload (pc := 54) h 0 rfl dX5_give_54 ?_
          refine J_if_eq (pc := 56) h 67 (by decide) dX5_give_56 (fun c7 => ?_) (fun c7 => ?_)
          · skip
            refine J_aload_n (pc := 67) (n := 0) (i := 0) h 1 rfl rfl dX5_give_67 ?_
            refine J_Mr5 (pc := 68) h m_337 dX5_give_68 ?_
            refine J_iload_n (pc := 71) (n := 1) (i := 1) h 2 rfl rfl dX5_give_71 ?_
            refine J_dup2 (pc := 72) h rfl rfl dX5_give_72 ?_
            refine J_Ma (pc := 73) h 5 4200 ⟨by decide, by decide⟩ rfl hs (((f_X5_put w v ((f_X5_put s (-v) (f_X5_enter s σ)).2)).2) 5 s.toNatClampNeg) rfl dX5_give_73 ?_
            refine J_iconst (pc := 74) h (1) rfl dX5_give_74 ?_
            refine J_isub (pc := 75) h dX5_give_75 ?_
            refine J_Ms (pc := 76) h 5 4200 ⟨by decide, by decide⟩ rfl hs dX5_give_76 ?_
            refine J_iload (pc := 77) h 0 rfl dX5_give_77 ?_
            exact J_iret (pc := 79) h hr (by subst ho; exact ⟨rfl, rfl⟩) dX5_give_79
          · exact absurd c3 c7
      · replace ho := (if_pos c4).symm.trans ho
        refine J_iconst (pc := 33) h (1) rfl dX5_give_33 ?_
        refine J_goto (pc := 34) h 52 (by decide) dX5_give_34 ?_
        refine J_istore (pc := 52) h [(4, .int 1), (0, .ref (ad 0)), (1, .int s), (2, .int w), (3, .int v)] (by rw [e4]; decide) rfl dX5_give_52 ?_
        refine J_iload (pc := 54) h 0 rfl dX5_give_54 ?_
        refine J_if_eq (pc := 56) h 67 (by decide) dX5_give_56 (fun c8 => ?_) (fun c8 => ?_)
        · exact absurd c8 (by decide)
        · skip
          refine J_aload_n (pc := 59) (n := 0) (i := 0) h 1 rfl rfl dX5_give_59 ?_
          refine J_iload_n (pc := 60) (n := 1) (i := 1) h 2 rfl rfl dX5_give_60 ?_
          refine J_iload_n (pc := 61) (n := 3) (i := 3) h 4 rfl rfl dX5_give_61 ?_
          refine J_cM (pc := 62) h hR (by decide) (c_X5_put _ _ _ ((f_X5_put s (-v) (f_X5_enter s σ)).2) s v hs) (by decide) m_483 m_485 ms_24 m_486 ⟨rfl, hd_X5_put⟩ rfl rfl (Nat.le_of_ble_eq_true rfl) [.int ((f_X5_put s v ((f_X5_put s (-v) (f_X5_enter s σ)).2)).1)] rfl dX5_give_62 ?_
          refine J_istore (pc := 65) h [(5, .int ((f_X5_put s v ((f_X5_put s (-v) (f_X5_enter s σ)).2)).1)), (4, .int 1), (0, .ref (ad 0)), (1, .int s), (2, .int w), (3, .int v)] (by rw [e4]; decide) rfl dX5_give_65 ?_
          refine J_aload_n (pc := 67) (n := 0) (i := 0) h 2 rfl rfl dX5_give_67 ?_
          refine J_Mr5 (pc := 68) h m_337 dX5_give_68 ?_
          refine J_iload_n (pc := 71) (n := 1) (i := 1) h 3 rfl rfl dX5_give_71 ?_
          refine J_dup2 (pc := 72) h rfl rfl dX5_give_72 ?_
          refine J_Ma (pc := 73) h 5 4200 ⟨by decide, by decide⟩ rfl hs (((f_X5_put s v ((f_X5_put s (-v) (f_X5_enter s σ)).2)).2) 5 s.toNatClampNeg) rfl dX5_give_73 ?_
          refine J_iconst (pc := 74) h (1) rfl dX5_give_74 ?_
          refine J_isub (pc := 75) h dX5_give_75 ?_
          refine J_Ms (pc := 76) h 5 4200 ⟨by decide, by decide⟩ rfl hs dX5_give_76 ?_
          refine J_iload (pc := 77) h 1 rfl dX5_give_77 ?_
          exact J_iret (pc := 79) h hr (by subst ho; exact ⟨rfl, rfl⟩) dX5_give_79
def f_X5_clear (pl : Int32) (σ : Sg) : Int32 × Sg := (if f_X5_in pl 0 5 = 0 then ((-1), σ) else (σ 8 pl.toNatClampNeg, up2 σ 8 pl.toNatClampNeg 0))
theorem hd_X5_clear : yX5_clear.cls ≠ "java/lang/invoke/MethodHandle" ∧ yX5_clear.cls ≠ "java/lang/invoke/VarHandle" ∧ (parseMethodDescriptor yX5_clear.desc).map (fun d => d.parameters.length) = some 1 := by decide +kernel
set_option maxHeartbeats 4000000 in
set_option maxRecDepth 20000 in
theorem c_X5_clear (l : Launch) (g : Gy) (ad : Nat → Nat) (σ : Sg) (pl : Int32)  : Con l g yX5_clear cX5_clear 3 (some .int) (rmL 1) [.ref (ad 0), .int pl] (wM g ad σ) (Det (some (.int (f_X5_clear pl σ).1)) (wM g ad ((f_X5_clear pl σ).2))) := by
  refine Con.of (by decide) (Nat.le_of_ble_eq_true rfl) ?_
  intro x h e1 e2 e3 e4 e5 hr
  subst e1 e2
  have h : Ok x cX5_clear "SafeDeskModel" (some .int) := h
  have hR : RmOk x 1 0 0 := RmOk.of e3 (Nat.le_refl _) (Nat.le_refl _)
  obtain ⟨out, ho⟩ : ∃ o, f_X5_clear pl σ = o := ⟨_, rfl⟩
  rw [ho] at hr
  unfold f_X5_clear at ho
  show J x 0 0 _ 0 [(0, .ref (ad 0)), (1, .int pl)] []
  refine J_iload_n (pc := 0) (n := 1) (i := 1) h 1 rfl rfl dX5_clear_0 ?_
  refine J_iconst (pc := 1) h (0) rfl dX5_clear_1 ?_
  refine J_iconst (pc := 2) h (5) rfl dX5_clear_2 ?_
  refine J_cS (pc := 3) h hR (by decide) (c_X5_in _ _ _ pl 0 5 ) (by decide) m_415 m_416 m_3 m_417 hd_X5_in rfl rfl (Nat.le_of_ble_eq_true rfl) [.int (f_X5_in pl 0 5)] rfl dX5_clear_3 ?_
  refine J_if_ne (pc := 6) h 11 (by decide) dX5_clear_6 (fun c1 => ?_) (fun c1 => ?_)
  · replace ho := (if_neg c1).symm.trans ho
    refine J_aload_n (pc := 11) (n := 0) (i := 0) h 0 rfl rfl dX5_clear_11 ?_
    refine J_Mr8 (pc := 12) h m_340 dX5_clear_12 ?_
    refine J_iload_n (pc := 15) (n := 1) (i := 1) h 1 rfl rfl dX5_clear_15 ?_
    refine J_Ma (pc := 16) h 8 6 ⟨by decide, by decide⟩ rfl (in_plan (by assumption)) (σ 8 pl.toNatClampNeg) rfl dX5_clear_16 ?_
    refine J_istore_n (pc := 17) (n := 2) (i := 2) h [(2, .int (σ 8 pl.toNatClampNeg)), (0, .ref (ad 0)), (1, .int pl)] rfl (by rw [e4]; decide) rfl dX5_clear_17 ?_
    refine J_aload_n (pc := 18) (n := 0) (i := 0) h 1 rfl rfl dX5_clear_18 ?_
    refine J_Mr8 (pc := 19) h m_340 dX5_clear_19 ?_
    refine J_iload_n (pc := 22) (n := 1) (i := 1) h 2 rfl rfl dX5_clear_22 ?_
    refine J_iconst (pc := 23) h (0) rfl dX5_clear_23 ?_
    refine J_Ms (pc := 24) h 8 6 ⟨by decide, by decide⟩ rfl (in_plan (by assumption)) dX5_clear_24 ?_
    refine J_iload_n (pc := 25) (n := 2) (i := 2) h 0 rfl rfl dX5_clear_25 ?_
    exact J_iret (pc := 26) h hr (by subst ho; exact ⟨rfl, rfl⟩) dX5_clear_26
  · replace ho := (if_pos c1).symm.trans ho
    refine J_iconst (pc := 9) h (-1) rfl dX5_clear_9 ?_
    exact J_iret (pc := 10) h hr (by subst ho; exact ⟨rfl, rfl⟩) dX5_clear_10
def f_X5_leave (a : Int32) (σ : Sg) : Sg := (if 120 ≤ σ 0 18 then σ else (up2 (up2 σ 12 ((σ 0 18).toNatClampNeg) a) 0 18 ((σ 0 18) + 1)))
theorem hd_X5_leave : yX5_leave.cls ≠ "java/lang/invoke/MethodHandle" ∧ yX5_leave.cls ≠ "java/lang/invoke/VarHandle" ∧ (parseMethodDescriptor yX5_leave.desc).map (fun d => d.parameters.length) = some 1 := by decide +kernel
set_option maxHeartbeats 4000000 in
set_option maxRecDepth 20000 in
theorem c_X5_leave (l : Launch) (g : Gy) (ad : Nat → Nat) (σ : Sg) (a : Int32) (ht : ¬ σ 0 18 < 0) : Con l g yX5_leave cX5_leave 2 none (rmL 0) [.ref (ad 0), .int a] (wM g ad σ) (Det none (wM g ad (f_X5_leave a σ))) := by
  refine Con.of (by decide) (Nat.le_of_ble_eq_true rfl) ?_
  intro x h e1 e2 e3 e4 e5 hr
  subst e1 e2
  have h : Ok x cX5_leave "SafeDeskModel" none := h
  have hR : RmOk x 0 0 0 := RmOk.of e3 (Nat.le_refl _) (Nat.le_refl _)
  obtain ⟨out, ho⟩ : ∃ o, f_X5_leave a σ = o := ⟨_, rfl⟩
  rw [ho] at hr
  unfold f_X5_leave at ho
  show J x 0 0 _ 0 [(0, .ref (ad 0)), (1, .int a)] []
  refine J_aload_n (pc := 0) (n := 0) (i := 0) h 0 rfl rfl dX5_leave_0 ?_
  refine J_Mg18 (pc := 1) h m_350 (σ 0 18) rfl dX5_leave_1 ?_
  refine J_bipush (pc := 4) h (120) rfl dX5_leave_4 ?_
  refine J_icmp_ge (pc := 6) h 29 (by decide) dX5_leave_6 (fun c1 => ?_) (fun c1 => ?_)
  · replace ho := (if_pos c1).symm.trans ho
    exact J_vret (pc := 29) h hr (by subst ho; exact ⟨rfl, rfl⟩) dX5_leave_29
  · replace ho := (if_neg c1).symm.trans ho
    refine J_aload_n (pc := 9) (n := 0) (i := 0) h 0 rfl rfl dX5_leave_9 ?_
    refine J_Mr19 (pc := 10) h m_351 dX5_leave_10 ?_
    refine J_aload_n (pc := 13) (n := 0) (i := 0) h 0 rfl rfl dX5_leave_13 ?_
    refine J_Mg18 (pc := 14) h m_350 (σ 0 18) rfl dX5_leave_14 ?_
    refine J_iload_n (pc := 17) (n := 1) (i := 1) h 1 rfl rfl dX5_leave_17 ?_
    refine J_Ms (pc := 18) h 12 120 ⟨by decide, by decide⟩ rfl (vp_of (b := 120) rfl ht (by assumption)) dX5_leave_18 ?_
    refine J_aload_n (pc := 19) (n := 0) (i := 0) h 0 rfl rfl dX5_leave_19 ?_
    refine J_dup (pc := 20) h rfl dX5_leave_20 ?_
    refine J_Mg18 (pc := 21) h m_350 (σ 0 18) (up2_off _ _ (by decide)) dX5_leave_21 ?_
    refine J_iconst (pc := 24) h (1) rfl dX5_leave_24 ?_
    refine J_iadd (pc := 25) h dX5_leave_25 ?_
    refine J_Mp18 (pc := 26) h m_350 dX5_leave_26 ?_
    exact J_vret (pc := 29) h hr (by subst ho; exact ⟨rfl, rfl⟩) dX5_leave_29
def f_X5_push (wt : Int32) (pl : Int32) (a : Int32) (b : Int32) (oo : Int32) (σ : Sg) : Sg := (up2 (up2 (up2 (up2 (up2 (up2 σ 13 ((σ 0 20).toNatClampNeg) wt) 14 ((σ 0 20).toNatClampNeg) pl) 15 ((σ 0 20).toNatClampNeg) a) 16 ((σ 0 20).toNatClampNeg) b) 17 ((σ 0 20).toNatClampNeg) oo) 0 20 ((σ 0 20) + 1))
theorem hd_X5_push : yX5_push.cls ≠ "java/lang/invoke/MethodHandle" ∧ yX5_push.cls ≠ "java/lang/invoke/VarHandle" ∧ (parseMethodDescriptor yX5_push.desc).map (fun d => d.parameters.length) = some 5 := by decide +kernel
set_option maxHeartbeats 4000000 in
set_option maxRecDepth 20000 in
theorem c_X5_push (l : Launch) (g : Gy) (ad : Nat → Nat) (σ : Sg) (wt : Int32) (pl : Int32) (a : Int32) (b : Int32) (oo : Int32) (hb : vp_in (σ 0 20) 80) : Con l g yX5_push cX5_push 6 none (rmL 0) [.ref (ad 0), .int wt, .int pl, .int a, .int b, .int oo] (wM g ad σ) (Det none (wM g ad (f_X5_push wt pl a b oo σ))) := by
  refine Con.of (by decide) (Nat.le_of_ble_eq_true rfl) ?_
  intro x h e1 e2 e3 e4 e5 hr
  subst e1 e2
  have h : Ok x cX5_push "SafeDeskModel" none := h
  have hR : RmOk x 0 0 0 := RmOk.of e3 (Nat.le_refl _) (Nat.le_refl _)
  obtain ⟨out, ho⟩ : ∃ o, f_X5_push wt pl a b oo σ = o := ⟨_, rfl⟩
  rw [ho] at hr
  unfold f_X5_push at ho
  show J x 0 0 _ 0 [(0, .ref (ad 0)), (1, .int wt), (2, .int pl), (3, .int a), (4, .int b), (5, .int oo)] []
  refine J_aload_n (pc := 0) (n := 0) (i := 0) h 0 rfl rfl dX5_push_0 ?_
  refine J_Mr21 (pc := 1) h m_353 dX5_push_1 ?_
  refine J_aload_n (pc := 4) (n := 0) (i := 0) h 0 rfl rfl dX5_push_4 ?_
  refine J_Mg20 (pc := 5) h m_352 (σ 0 20) rfl dX5_push_5 ?_
  refine J_iload_n (pc := 8) (n := 1) (i := 1) h 1 rfl rfl dX5_push_8 ?_
  refine J_Ms (pc := 9) h 13 80 ⟨by decide, by decide⟩ rfl hb dX5_push_9 ?_
  refine J_aload_n (pc := 10) (n := 0) (i := 0) h 0 rfl rfl dX5_push_10 ?_
  refine J_Mr22 (pc := 11) h m_354 dX5_push_11 ?_
  refine J_aload_n (pc := 14) (n := 0) (i := 0) h 0 rfl rfl dX5_push_14 ?_
  refine J_Mg20 (pc := 15) h m_352 (σ 0 20) (up2_off _ _ (by decide)) dX5_push_15 ?_
  refine J_iload_n (pc := 18) (n := 2) (i := 2) h 2 rfl rfl dX5_push_18 ?_
  refine J_Ms (pc := 19) h 14 80 ⟨by decide, by decide⟩ rfl hb dX5_push_19 ?_
  refine J_aload_n (pc := 20) (n := 0) (i := 0) h 0 rfl rfl dX5_push_20 ?_
  refine J_Mr23 (pc := 21) h m_355 dX5_push_21 ?_
  refine J_aload_n (pc := 24) (n := 0) (i := 0) h 0 rfl rfl dX5_push_24 ?_
  refine J_Mg20 (pc := 25) h m_352 (σ 0 20) ((up2_off _ _ (by decide)).trans (up2_off _ _ (by decide))) dX5_push_25 ?_
  refine J_iload_n (pc := 28) (n := 3) (i := 3) h 3 rfl rfl dX5_push_28 ?_
  refine J_Ms (pc := 29) h 15 80 ⟨by decide, by decide⟩ rfl hb dX5_push_29 ?_
  refine J_aload_n (pc := 30) (n := 0) (i := 0) h 0 rfl rfl dX5_push_30 ?_
  refine J_Mr24 (pc := 31) h m_356 dX5_push_31 ?_
  refine J_aload_n (pc := 34) (n := 0) (i := 0) h 0 rfl rfl dX5_push_34 ?_
  refine J_Mg20 (pc := 35) h m_352 (σ 0 20) ((up2_off _ _ (by decide)).trans ((up2_off _ _ (by decide)).trans (up2_off _ _ (by decide)))) dX5_push_35 ?_
  refine J_iload (pc := 38) h 4 rfl dX5_push_38 ?_
  refine J_Ms (pc := 40) h 16 80 ⟨by decide, by decide⟩ rfl hb dX5_push_40 ?_
  refine J_aload_n (pc := 41) (n := 0) (i := 0) h 0 rfl rfl dX5_push_41 ?_
  refine J_Mr25 (pc := 42) h m_357 dX5_push_42 ?_
  refine J_aload_n (pc := 45) (n := 0) (i := 0) h 0 rfl rfl dX5_push_45 ?_
  refine J_Mg20 (pc := 46) h m_352 (σ 0 20) ((up2_off _ _ (by decide)).trans ((up2_off _ _ (by decide)).trans ((up2_off _ _ (by decide)).trans (up2_off _ _ (by decide))))) dX5_push_46 ?_
  refine J_iload (pc := 49) h 5 rfl dX5_push_49 ?_
  refine J_Ms (pc := 51) h 17 80 ⟨by decide, by decide⟩ rfl hb dX5_push_51 ?_
  refine J_aload_n (pc := 52) (n := 0) (i := 0) h 0 rfl rfl dX5_push_52 ?_
  refine J_dup (pc := 53) h rfl dX5_push_53 ?_
  refine J_Mg20 (pc := 54) h m_352 (σ 0 20) ((up2_off _ _ (by decide)).trans ((up2_off _ _ (by decide)).trans ((up2_off _ _ (by decide)).trans ((up2_off _ _ (by decide)).trans (up2_off _ _ (by decide)))))) dX5_push_54 ?_
  refine J_iconst (pc := 57) h (1) rfl dX5_push_57 ?_
  refine J_iadd (pc := 58) h dX5_push_58 ?_
  refine J_Mp20 (pc := 59) h m_352 dX5_push_59 ?_
  exact J_vret (pc := 62) h hr (by subst ho; exact ⟨rfl, rfl⟩) dX5_push_62
def f_X5_beginPlan (pl : Int32) (σ : Sg) : Sg := (if (σ 0 16) + 1 ≤ σ 0 17 then (f_X5_push 0 pl 0 (σ 8 pl.toNatClampNeg) (-1) (up2 (up2 σ 0 16 ((σ 0 16) + 1)) 0 17 (σ 0 17))) else (f_X5_push 0 pl 0 (σ 8 pl.toNatClampNeg) (-1) (up2 (up2 σ 0 16 ((σ 0 16) + 1)) 0 17 ((σ 0 16) + 1))))
theorem hd_X5_beginPlan : yX5_beginPlan.cls ≠ "java/lang/invoke/MethodHandle" ∧ yX5_beginPlan.cls ≠ "java/lang/invoke/VarHandle" ∧ (parseMethodDescriptor yX5_beginPlan.desc).map (fun d => d.parameters.length) = some 1 := by decide +kernel
set_option maxHeartbeats 4000000 in
set_option maxRecDepth 20000 in
theorem c_X5_beginPlan (l : Launch) (g : Gy) (ad : Nat → Nat) (σ : Sg) (pl : Int32) (hp : vp_in pl 6) (hb : vp_in (σ 0 20) 80) : Con l g yX5_beginPlan cX5_beginPlan 2 none (rmL 1) [.ref (ad 0), .int pl] (wM g ad σ) (Det none (wM g ad (f_X5_beginPlan pl σ))) := by
  refine Con.of (by decide) (Nat.le_of_ble_eq_true rfl) ?_
  intro x h e1 e2 e3 e4 e5 hr
  subst e1 e2
  have h : Ok x cX5_beginPlan "SafeDeskModel" none := h
  have hR : RmOk x 1 0 0 := RmOk.of e3 (Nat.le_refl _) (Nat.le_refl _)
  obtain ⟨out, ho⟩ : ∃ o, f_X5_beginPlan pl σ = o := ⟨_, rfl⟩
  rw [ho] at hr
  unfold f_X5_beginPlan at ho
  show J x 0 0 _ 0 [(0, .ref (ad 0)), (1, .int pl)] []
  refine J_aload_n (pc := 0) (n := 0) (i := 0) h 0 rfl rfl dX5_beginPlan_0 ?_
  refine J_dup (pc := 1) h rfl dX5_beginPlan_1 ?_
  refine J_Mg16 (pc := 2) h m_348 (σ 0 16) rfl dX5_beginPlan_2 ?_
  refine J_iconst (pc := 5) h (1) rfl dX5_beginPlan_5 ?_
  refine J_iadd (pc := 6) h dX5_beginPlan_6 ?_
  refine J_Mp16 (pc := 7) h m_348 dX5_beginPlan_7 ?_
  refine J_aload_n (pc := 10) (n := 0) (i := 0) h 0 rfl rfl dX5_beginPlan_10 ?_
  refine J_aload_n (pc := 11) (n := 0) (i := 0) h 0 rfl rfl dX5_beginPlan_11 ?_
  refine J_Mg16 (pc := 12) h m_348 ((σ 0 16) + 1) (up2_self _ _ _ _) dX5_beginPlan_12 ?_
  refine J_aload_n (pc := 15) (n := 0) (i := 0) h 0 rfl rfl dX5_beginPlan_15 ?_
  refine J_Mg17 (pc := 16) h m_349 (σ 0 17) (up2_row _ _ _ (by decide)) dX5_beginPlan_16 ?_
  refine J_icmp_le (pc := 19) h 29 (by decide) dX5_beginPlan_19 (fun c1 => ?_) (fun c1 => ?_)
  · replace ho := (if_pos c1).symm.trans ho
    refine J_aload_n (pc := 29) (n := 0) (i := 0) h 0 rfl rfl dX5_beginPlan_29 ?_
    refine J_Mg17 (pc := 30) h m_349 (σ 0 17) (up2_row _ _ _ (by decide)) dX5_beginPlan_30 ?_
    refine J_Mp17 (pc := 33) h m_349 dX5_beginPlan_33 ?_
    refine J_aload_n (pc := 36) (n := 0) (i := 0) h 0 rfl rfl dX5_beginPlan_36 ?_
    refine J_iconst (pc := 37) h (0) rfl dX5_beginPlan_37 ?_
    refine J_iload_n (pc := 38) (n := 1) (i := 1) h 1 rfl rfl dX5_beginPlan_38 ?_
    refine J_iconst (pc := 39) h (0) rfl dX5_beginPlan_39 ?_
    refine J_aload_n (pc := 40) (n := 0) (i := 0) h 0 rfl rfl dX5_beginPlan_40 ?_
    refine J_Mr8 (pc := 41) h m_340 dX5_beginPlan_41 ?_
    refine J_iload_n (pc := 44) (n := 1) (i := 1) h 1 rfl rfl dX5_beginPlan_44 ?_
    refine J_Ma (pc := 45) h 8 6 ⟨by decide, by decide⟩ rfl hp (σ 8 pl.toNatClampNeg) ((up2_off _ _ (by decide)).trans (up2_off _ _ (by decide))) dX5_beginPlan_45 ?_
    refine J_iconst (pc := 46) h (-1) rfl dX5_beginPlan_46 ?_
    refine J_cM (pc := 47) h hR (by decide) (c_X5_push _ _ _ (up2 (up2 σ 0 16 ((σ 0 16) + 1)) 0 17 (σ 0 17)) 0 pl 0 (σ 8 pl.toNatClampNeg) (-1) (by rw [up2_row _ _ _ (by decide), up2_row _ _ _ (by decide)]; exact hb)) (by decide) m_443 m_445 ms_14 m_446 ⟨rfl, hd_X5_push⟩ rfl rfl (Nat.le_of_ble_eq_true rfl) [] rfl dX5_beginPlan_47 ?_
    exact J_vret (pc := 50) h hr (by subst ho; exact ⟨rfl, rfl⟩) dX5_beginPlan_50
  · replace ho := (if_neg c1).symm.trans ho
    refine J_aload_n (pc := 22) (n := 0) (i := 0) h 0 rfl rfl dX5_beginPlan_22 ?_
    refine J_Mg16 (pc := 23) h m_348 ((σ 0 16) + 1) (up2_self _ _ _ _) dX5_beginPlan_23 ?_
    refine J_goto (pc := 26) h 33 (by decide) dX5_beginPlan_26 ?_
    refine J_Mp17 (pc := 33) h m_349 dX5_beginPlan_33 ?_
    refine J_aload_n (pc := 36) (n := 0) (i := 0) h 0 rfl rfl dX5_beginPlan_36 ?_
    refine J_iconst (pc := 37) h (0) rfl dX5_beginPlan_37 ?_
    refine J_iload_n (pc := 38) (n := 1) (i := 1) h 1 rfl rfl dX5_beginPlan_38 ?_
    refine J_iconst (pc := 39) h (0) rfl dX5_beginPlan_39 ?_
    refine J_aload_n (pc := 40) (n := 0) (i := 0) h 0 rfl rfl dX5_beginPlan_40 ?_
    refine J_Mr8 (pc := 41) h m_340 dX5_beginPlan_41 ?_
    refine J_iload_n (pc := 44) (n := 1) (i := 1) h 1 rfl rfl dX5_beginPlan_44 ?_
    refine J_Ma (pc := 45) h 8 6 ⟨by decide, by decide⟩ rfl hp (σ 8 pl.toNatClampNeg) ((up2_off _ _ (by decide)).trans (up2_off _ _ (by decide))) dX5_beginPlan_45 ?_
    refine J_iconst (pc := 46) h (-1) rfl dX5_beginPlan_46 ?_
    refine J_cM (pc := 47) h hR (by decide) (c_X5_push _ _ _ (up2 (up2 σ 0 16 ((σ 0 16) + 1)) 0 17 ((σ 0 16) + 1)) 0 pl 0 (σ 8 pl.toNatClampNeg) (-1) (by rw [up2_row _ _ _ (by decide), up2_row _ _ _ (by decide)]; exact hb)) (by decide) m_443 m_445 ms_14 m_446 ⟨rfl, hd_X5_push⟩ rfl rfl (Nat.le_of_ble_eq_true rfl) [] rfl dX5_beginPlan_47 ?_
    exact J_vret (pc := 50) h hr (by subst ho; exact ⟨rfl, rfl⟩) dX5_beginPlan_50
def f_X5_pop  (σ : Sg) : Sg := (if σ 13 (((σ 0 20) - 1).toNatClampNeg) = 1 then (f_X5_leave 2 (up2 (up2 σ 0 20 ((σ 0 20) - 1)) 5 ((σ 17 (((σ 0 20) - 1).toNatClampNeg)).toNatClampNeg) ((σ 5 ((σ 17 (((σ 0 20) - 1).toNatClampNeg)).toNatClampNeg)) - 1))) else (if σ 13 (((σ 0 20) - 1).toNatClampNeg) = 0 then (up2 (up2 σ 0 20 ((σ 0 20) - 1)) 0 16 ((σ 0 16) - 1)) else (up2 σ 0 20 ((σ 0 20) - 1))))
theorem hd_X5_pop : yX5_pop.cls ≠ "java/lang/invoke/MethodHandle" ∧ yX5_pop.cls ≠ "java/lang/invoke/VarHandle" ∧ (parseMethodDescriptor yX5_pop.desc).map (fun d => d.parameters.length) = some 0 := by decide +kernel
set_option maxHeartbeats 4000000 in
set_option maxRecDepth 20000 in
theorem c_X5_pop (l : Launch) (g : Gy) (ad : Nat → Nat) (σ : Sg)  (hb : vp_in ((σ 0 20) - 1) 80) (ha : σ 13 ((σ 0 20) - 1).toNatClampNeg = 1 → vp_in (σ 17 ((σ 0 20) - 1).toNatClampNeg) 4200) (ht : ¬ σ 0 18 < 0) : Con l g yX5_pop cX5_pop 1 none (rmL 1) [.ref (ad 0)] (wM g ad σ) (Det none (wM g ad (f_X5_pop  σ))) := by
  refine Con.of (by decide) (Nat.le_of_ble_eq_true rfl) ?_
  intro x h e1 e2 e3 e4 e5 hr
  subst e1 e2
  have h : Ok x cX5_pop "SafeDeskModel" none := h
  have hR : RmOk x 1 0 0 := RmOk.of e3 (Nat.le_refl _) (Nat.le_refl _)
  obtain ⟨out, ho⟩ : ∃ o, f_X5_pop  σ = o := ⟨_, rfl⟩
  rw [ho] at hr
  unfold f_X5_pop at ho
  show J x 0 0 _ 0 [(0, .ref (ad 0))] []
  refine J_aload_n (pc := 0) (n := 0) (i := 0) h 0 rfl rfl dX5_pop_0 ?_
  refine J_dup (pc := 1) h rfl dX5_pop_1 ?_
  refine J_Mg20 (pc := 2) h m_352 (σ 0 20) rfl dX5_pop_2 ?_
  refine J_iconst (pc := 5) h (1) rfl dX5_pop_5 ?_
  refine J_isub (pc := 6) h dX5_pop_6 ?_
  refine J_Mp20 (pc := 7) h m_352 dX5_pop_7 ?_
  refine J_aload_n (pc := 10) (n := 0) (i := 0) h 0 rfl rfl dX5_pop_10 ?_
  refine J_Mr21 (pc := 11) h m_353 dX5_pop_11 ?_
  refine J_aload_n (pc := 14) (n := 0) (i := 0) h 0 rfl rfl dX5_pop_14 ?_
  refine J_Mg20 (pc := 15) h m_352 ((σ 0 20) - 1) (up2_self _ _ _ _) dX5_pop_15 ?_
  refine J_Ma (pc := 18) h 13 80 ⟨by decide, by decide⟩ rfl hb (σ 13 (((σ 0 20) - 1).toNatClampNeg)) (up2_off _ _ (by decide)) dX5_pop_18 ?_
  refine J_iconst (pc := 19) h (1) rfl dX5_pop_19 ?_
  refine J_icmp_ne (pc := 20) h 49 (by decide) dX5_pop_20 (fun c1 => ?_) (fun c1 => ?_)
  · replace ho := (if_neg c1).symm.trans ho
    refine J_aload_n (pc := 49) (n := 0) (i := 0) h 0 rfl rfl dX5_pop_49 ?_
    refine J_Mr21 (pc := 50) h m_353 dX5_pop_50 ?_
    refine J_aload_n (pc := 53) (n := 0) (i := 0) h 0 rfl rfl dX5_pop_53 ?_
    refine J_Mg20 (pc := 54) h m_352 ((σ 0 20) - 1) (up2_self _ _ _ _) dX5_pop_54 ?_
    refine J_Ma (pc := 57) h 13 80 ⟨by decide, by decide⟩ rfl hb (σ 13 (((σ 0 20) - 1).toNatClampNeg)) (up2_off _ _ (by decide)) dX5_pop_57 ?_
    refine J_if_ne (pc := 58) h 71 (by decide) dX5_pop_58 (fun c2 => ?_) (fun c2 => ?_)
    · replace ho := (if_neg c2).symm.trans ho
      exact J_vret (pc := 71) h hr (by subst ho; exact ⟨rfl, rfl⟩) dX5_pop_71
    · replace ho := (if_pos c2).symm.trans ho
      refine J_aload_n (pc := 61) (n := 0) (i := 0) h 0 rfl rfl dX5_pop_61 ?_
      refine J_dup (pc := 62) h rfl dX5_pop_62 ?_
      refine J_Mg16 (pc := 63) h m_348 (σ 0 16) (up2_row _ _ _ (by decide)) dX5_pop_63 ?_
      refine J_iconst (pc := 66) h (1) rfl dX5_pop_66 ?_
      refine J_isub (pc := 67) h dX5_pop_67 ?_
      refine J_Mp16 (pc := 68) h m_348 dX5_pop_68 ?_
      exact J_vret (pc := 71) h hr (by subst ho; exact ⟨rfl, rfl⟩) dX5_pop_71
  · replace ho := (if_pos c1).symm.trans ho
    refine J_aload_n (pc := 23) (n := 0) (i := 0) h 0 rfl rfl dX5_pop_23 ?_
    refine J_Mr5 (pc := 24) h m_337 dX5_pop_24 ?_
    refine J_aload_n (pc := 27) (n := 0) (i := 0) h 0 rfl rfl dX5_pop_27 ?_
    refine J_Mr25 (pc := 28) h m_357 dX5_pop_28 ?_
    refine J_aload_n (pc := 31) (n := 0) (i := 0) h 0 rfl rfl dX5_pop_31 ?_
    refine J_Mg20 (pc := 32) h m_352 ((σ 0 20) - 1) (up2_self _ _ _ _) dX5_pop_32 ?_
    refine J_Ma (pc := 35) h 17 80 ⟨by decide, by decide⟩ rfl hb (σ 17 (((σ 0 20) - 1).toNatClampNeg)) (up2_off _ _ (by decide)) dX5_pop_35 ?_
    refine J_dup2 (pc := 36) h rfl rfl dX5_pop_36 ?_
    refine J_Ma (pc := 37) h 5 4200 ⟨by decide, by decide⟩ rfl (ha (by assumption)) (σ 5 ((σ 17 (((σ 0 20) - 1).toNatClampNeg)).toNatClampNeg)) (up2_off _ _ (by decide)) dX5_pop_37 ?_
    refine J_iconst (pc := 38) h (1) rfl dX5_pop_38 ?_
    refine J_isub (pc := 39) h dX5_pop_39 ?_
    refine J_Ms (pc := 40) h 5 4200 ⟨by decide, by decide⟩ rfl (ha (by assumption)) dX5_pop_40 ?_
    refine J_aload_n (pc := 41) (n := 0) (i := 0) h 0 rfl rfl dX5_pop_41 ?_
    refine J_iconst (pc := 42) h (2) rfl dX5_pop_42 ?_
    refine J_cM (pc := 43) h hR (by decide) (c_X5_leave _ _ _ (up2 (up2 σ 0 20 ((σ 0 20) - 1)) 5 ((σ 17 (((σ 0 20) - 1).toNatClampNeg)).toNatClampNeg) ((σ 5 ((σ 17 (((σ 0 20) - 1).toNatClampNeg)).toNatClampNeg)) - 1)) 2 (by rw [up2_off _ _ (by decide), up2_row _ _ _ (by decide)]; exact ht)) (by decide) m_451 m_453 ms_16 m_454 ⟨rfl, hd_X5_leave⟩ rfl rfl (Nat.le_of_ble_eq_true rfl) [] rfl dX5_pop_43 ?_
    refine J_goto (pc := 46) h 71 (by decide) dX5_pop_46 ?_
    exact J_vret (pc := 71) h hr (by subst ho; exact ⟨rfl, rfl⟩) dX5_pop_71
def f_X5_within (wt : Int32) (v : Int32) (oo : Int32) (σ : Sg) : Sg := (if σ 16 (((σ 0 20) - 1).toNatClampNeg) ≤ (σ 15 (((σ 0 20) - 1).toNatClampNeg)) + v then (f_X5_push wt (σ 14 (((σ 0 20) - 1).toNatClampNeg)) (σ 15 (((σ 0 20) - 1).toNatClampNeg)) (σ 16 (((σ 0 20) - 1).toNatClampNeg)) oo (up2 σ 15 (((σ 0 20) - 1).toNatClampNeg) (σ 16 (((σ 0 20) - 1).toNatClampNeg)))) else (f_X5_push wt (σ 14 (((σ 0 20) - 1).toNatClampNeg)) (σ 15 (((σ 0 20) - 1).toNatClampNeg)) ((σ 15 (((σ 0 20) - 1).toNatClampNeg)) + v) oo (up2 σ 15 (((σ 0 20) - 1).toNatClampNeg) ((σ 15 (((σ 0 20) - 1).toNatClampNeg)) + v))))
theorem hd_X5_within : yX5_within.cls ≠ "java/lang/invoke/MethodHandle" ∧ yX5_within.cls ≠ "java/lang/invoke/VarHandle" ∧ (parseMethodDescriptor yX5_within.desc).map (fun d => d.parameters.length) = some 3 := by decide +kernel
set_option maxHeartbeats 4000000 in
set_option maxRecDepth 20000 in
theorem c_X5_within (l : Launch) (g : Gy) (ad : Nat → Nat) (σ : Sg) (wt : Int32) (v : Int32) (oo : Int32) (hb : vp_in ((σ 0 20) - 1) 80) (hb2 : vp_in (σ 0 20) 80) : Con l g yX5_within cX5_within 7 none (rmL 1) [.ref (ad 0), .int wt, .int v, .int oo] (wM g ad σ) (Det none (wM g ad (f_X5_within wt v oo σ))) := by
  refine Con.of (by decide) (Nat.le_of_ble_eq_true rfl) ?_
  intro x h e1 e2 e3 e4 e5 hr
  subst e1 e2
  have h : Ok x cX5_within "SafeDeskModel" none := h
  have hR : RmOk x 1 0 0 := RmOk.of e3 (Nat.le_refl _) (Nat.le_refl _)
  obtain ⟨out, ho⟩ : ∃ o, f_X5_within wt v oo σ = o := ⟨_, rfl⟩
  rw [ho] at hr
  unfold f_X5_within at ho
  show J x 0 0 _ 0 [(0, .ref (ad 0)), (1, .int wt), (2, .int v), (3, .int oo)] []
  refine J_aload_n (pc := 0) (n := 0) (i := 0) h 0 rfl rfl dX5_within_0 ?_
  refine J_Mg20 (pc := 1) h m_352 (σ 0 20) rfl dX5_within_1 ?_
  refine J_iconst (pc := 4) h (1) rfl dX5_within_4 ?_
  refine J_isub (pc := 5) h dX5_within_5 ?_
  refine J_istore (pc := 6) h [(4, .int ((σ 0 20) - 1)), (0, .ref (ad 0)), (1, .int wt), (2, .int v), (3, .int oo)] (by rw [e4]; decide) rfl dX5_within_6 ?_
  refine J_aload_n (pc := 8) (n := 0) (i := 0) h 1 rfl rfl dX5_within_8 ?_
  refine J_Mr23 (pc := 9) h m_355 dX5_within_9 ?_
  refine J_iload (pc := 12) h 0 rfl dX5_within_12 ?_
  refine J_Ma (pc := 14) h 15 80 ⟨by decide, by decide⟩ rfl hb (σ 15 (((σ 0 20) - 1).toNatClampNeg)) rfl dX5_within_14 ?_
  refine J_istore (pc := 15) h [(5, .int (σ 15 (((σ 0 20) - 1).toNatClampNeg))), (4, .int ((σ 0 20) - 1)), (0, .ref (ad 0)), (1, .int wt), (2, .int v), (3, .int oo)] (by rw [e4]; decide) rfl dX5_within_15 ?_
  refine J_iload (pc := 17) h 0 rfl dX5_within_17 ?_
  refine J_iload_n (pc := 19) (n := 2) (i := 2) h 4 rfl rfl dX5_within_19 ?_
  refine J_iadd (pc := 20) h dX5_within_20 ?_
  refine J_aload_n (pc := 21) (n := 0) (i := 0) h 2 rfl rfl dX5_within_21 ?_
  refine J_Mr24 (pc := 22) h m_356 dX5_within_22 ?_
  refine J_iload (pc := 25) h 1 rfl dX5_within_25 ?_
  refine J_Ma (pc := 27) h 16 80 ⟨by decide, by decide⟩ rfl hb (σ 16 (((σ 0 20) - 1).toNatClampNeg)) rfl dX5_within_27 ?_
  refine J_icmp_ge (pc := 28) h 38 (by decide) dX5_within_28 (fun c1 => ?_) (fun c1 => ?_)
  · replace ho := (if_pos c1).symm.trans ho
    refine J_aload_n (pc := 38) (n := 0) (i := 0) h 2 rfl rfl dX5_within_38 ?_
    refine J_Mr24 (pc := 39) h m_356 dX5_within_39 ?_
    refine J_iload (pc := 42) h 1 rfl dX5_within_42 ?_
    refine J_Ma (pc := 44) h 16 80 ⟨by decide, by decide⟩ rfl hb (σ 16 (((σ 0 20) - 1).toNatClampNeg)) rfl dX5_within_44 ?_
    refine J_istore (pc := 45) h [(6, .int (σ 16 (((σ 0 20) - 1).toNatClampNeg))), (5, .int (σ 15 (((σ 0 20) - 1).toNatClampNeg))), (4, .int ((σ 0 20) - 1)), (0, .ref (ad 0)), (1, .int wt), (2, .int v), (3, .int oo)] (by rw [e4]; decide) rfl dX5_within_45 ?_
    refine J_aload_n (pc := 47) (n := 0) (i := 0) h 3 rfl rfl dX5_within_47 ?_
    refine J_Mr23 (pc := 48) h m_355 dX5_within_48 ?_
    refine J_iload (pc := 51) h 2 rfl dX5_within_51 ?_
    refine J_iload (pc := 53) h 0 rfl dX5_within_53 ?_
    refine J_Ms (pc := 55) h 15 80 ⟨by decide, by decide⟩ rfl hb dX5_within_55 ?_
    refine J_aload_n (pc := 56) (n := 0) (i := 0) h 3 rfl rfl dX5_within_56 ?_
    refine J_iload_n (pc := 57) (n := 1) (i := 1) h 4 rfl rfl dX5_within_57 ?_
    refine J_aload_n (pc := 58) (n := 0) (i := 0) h 3 rfl rfl dX5_within_58 ?_
    refine J_Mr22 (pc := 59) h m_354 dX5_within_59 ?_
    refine J_iload (pc := 62) h 2 rfl dX5_within_62 ?_
    refine J_Ma (pc := 64) h 14 80 ⟨by decide, by decide⟩ rfl hb (σ 14 (((σ 0 20) - 1).toNatClampNeg)) (up2_off _ _ (by decide)) dX5_within_64 ?_
    refine J_iload (pc := 65) h 1 rfl dX5_within_65 ?_
    refine J_iload (pc := 67) h 0 rfl dX5_within_67 ?_
    refine J_iload_n (pc := 69) (n := 3) (i := 3) h 6 rfl rfl dX5_within_69 ?_
    refine J_cM (pc := 70) h hR (by decide) (c_X5_push _ _ _ (up2 σ 15 (((σ 0 20) - 1).toNatClampNeg) (σ 16 (((σ 0 20) - 1).toNatClampNeg))) wt (σ 14 (((σ 0 20) - 1).toNatClampNeg)) (σ 15 (((σ 0 20) - 1).toNatClampNeg)) (σ 16 (((σ 0 20) - 1).toNatClampNeg)) oo (by rw [up2_off _ _ (by decide)]; exact hb2)) (by decide) m_443 m_445 ms_14 m_446 ⟨rfl, hd_X5_push⟩ rfl rfl (Nat.le_of_ble_eq_true rfl) [] rfl dX5_within_70 ?_
    exact J_vret (pc := 73) h hr (by subst ho; exact ⟨rfl, rfl⟩) dX5_within_73
  · replace ho := (if_neg c1).symm.trans ho
    refine J_iload (pc := 31) h 0 rfl dX5_within_31 ?_
    refine J_iload_n (pc := 33) (n := 2) (i := 2) h 4 rfl rfl dX5_within_33 ?_
    refine J_iadd (pc := 34) h dX5_within_34 ?_
    refine J_goto (pc := 35) h 45 (by decide) dX5_within_35 ?_
    refine J_istore (pc := 45) h [(6, .int ((σ 15 (((σ 0 20) - 1).toNatClampNeg)) + v)), (5, .int (σ 15 (((σ 0 20) - 1).toNatClampNeg))), (4, .int ((σ 0 20) - 1)), (0, .ref (ad 0)), (1, .int wt), (2, .int v), (3, .int oo)] (by rw [e4]; decide) rfl dX5_within_45 ?_
    refine J_aload_n (pc := 47) (n := 0) (i := 0) h 3 rfl rfl dX5_within_47 ?_
    refine J_Mr23 (pc := 48) h m_355 dX5_within_48 ?_
    refine J_iload (pc := 51) h 2 rfl dX5_within_51 ?_
    refine J_iload (pc := 53) h 0 rfl dX5_within_53 ?_
    refine J_Ms (pc := 55) h 15 80 ⟨by decide, by decide⟩ rfl hb dX5_within_55 ?_
    refine J_aload_n (pc := 56) (n := 0) (i := 0) h 3 rfl rfl dX5_within_56 ?_
    refine J_iload_n (pc := 57) (n := 1) (i := 1) h 4 rfl rfl dX5_within_57 ?_
    refine J_aload_n (pc := 58) (n := 0) (i := 0) h 3 rfl rfl dX5_within_58 ?_
    refine J_Mr22 (pc := 59) h m_354 dX5_within_59 ?_
    refine J_iload (pc := 62) h 2 rfl dX5_within_62 ?_
    refine J_Ma (pc := 64) h 14 80 ⟨by decide, by decide⟩ rfl hb (σ 14 (((σ 0 20) - 1).toNatClampNeg)) (up2_off _ _ (by decide)) dX5_within_64 ?_
    refine J_iload (pc := 65) h 1 rfl dX5_within_65 ?_
    refine J_iload (pc := 67) h 0 rfl dX5_within_67 ?_
    refine J_iload_n (pc := 69) (n := 3) (i := 3) h 6 rfl rfl dX5_within_69 ?_
    refine J_cM (pc := 70) h hR (by decide) (c_X5_push _ _ _ (up2 σ 15 (((σ 0 20) - 1).toNatClampNeg) ((σ 15 (((σ 0 20) - 1).toNatClampNeg)) + v)) wt (σ 14 (((σ 0 20) - 1).toNatClampNeg)) (σ 15 (((σ 0 20) - 1).toNatClampNeg)) ((σ 15 (((σ 0 20) - 1).toNatClampNeg)) + v) oo (by rw [up2_off _ _ (by decide)]; exact hb2)) (by decide) m_443 m_445 ms_14 m_446 ⟨rfl, hd_X5_push⟩ rfl rfl (Nat.le_of_ble_eq_true rfl) [] rfl dX5_within_70 ?_
    exact J_vret (pc := 73) h hr (by subst ho; exact ⟨rfl, rfl⟩) dX5_within_73
def f_X5_value  (σ : Sg) : Int32 := (σ 0 12)
theorem hd_X5_value : yX5_value.cls ≠ "java/lang/invoke/MethodHandle" ∧ yX5_value.cls ≠ "java/lang/invoke/VarHandle" ∧ (parseMethodDescriptor yX5_value.desc).map (fun d => d.parameters.length) = some 0 := by decide +kernel
set_option maxHeartbeats 4000000 in
set_option maxRecDepth 20000 in
theorem c_X5_value (l : Launch) (g : Gy) (ad : Nat → Nat) (σ : Sg)   : Con l g yX5_value cX5_value 1 (some .int) (rmL 0) [.ref (ad 0)] (wM g ad σ) (Det (some (.int (f_X5_value  σ))) (wM g ad σ)) := by
  refine Con.of (by decide) (Nat.le_of_ble_eq_true rfl) ?_
  intro x h e1 e2 e3 e4 e5 hr
  subst e1 e2
  have h : Ok x cX5_value "SafeDeskModel" (some .int) := h
  have hR : RmOk x 0 0 0 := RmOk.of e3 (Nat.le_refl _) (Nat.le_refl _)
  obtain ⟨out, ho⟩ : ∃ o, f_X5_value  σ = o := ⟨_, rfl⟩
  rw [ho] at hr
  unfold f_X5_value at ho
  show J x 0 0 _ 0 [(0, .ref (ad 0))] []
  refine J_aload_n (pc := 0) (n := 0) (i := 0) h 0 rfl rfl dX5_value_0 ?_
  refine J_Mg12 (pc := 1) h m_344 (σ 0 12) rfl dX5_value_1 ?_
  exact J_iret (pc := 4) h hr (by subst ho; exact ⟨rfl, rfl⟩) dX5_value_4
def f_X5_trace (a : Int32) (σ : Sg) : Int32 := (if a = (-1) then (σ 0 18) else (if f_X5_in a 0 ((σ 0 18) - 1) = 0 then (-1) else (σ 12 a.toNatClampNeg)))
theorem hd_X5_trace : yX5_trace.cls ≠ "java/lang/invoke/MethodHandle" ∧ yX5_trace.cls ≠ "java/lang/invoke/VarHandle" ∧ (parseMethodDescriptor yX5_trace.desc).map (fun d => d.parameters.length) = some 1 := by decide +kernel
set_option maxHeartbeats 4000000 in
set_option maxRecDepth 20000 in
theorem c_X5_trace (l : Launch) (g : Gy) (ad : Nat → Nat) (σ : Sg) (a : Int32) (ht : σ 0 18 ≤ 120 ∧ ¬ σ 0 18 < 0) : Con l g yX5_trace cX5_trace 2 (some .int) (rmL 1) [.ref (ad 0), .int a] (wM g ad σ) (Det (some (.int (f_X5_trace a σ))) (wM g ad σ)) := by
  refine Con.of (by decide) (Nat.le_of_ble_eq_true rfl) ?_
  intro x h e1 e2 e3 e4 e5 hr
  subst e1 e2
  have h : Ok x cX5_trace "SafeDeskModel" (some .int) := h
  have hR : RmOk x 1 0 0 := RmOk.of e3 (Nat.le_refl _) (Nat.le_refl _)
  obtain ⟨out, ho⟩ : ∃ o, f_X5_trace a σ = o := ⟨_, rfl⟩
  rw [ho] at hr
  unfold f_X5_trace at ho
  show J x 0 0 _ 0 [(0, .ref (ad 0)), (1, .int a)] []
  refine J_iload_n (pc := 0) (n := 1) (i := 1) h 1 rfl rfl dX5_trace_0 ?_
  refine J_iconst (pc := 1) h (-1) rfl dX5_trace_1 ?_
  refine J_icmp_ne (pc := 2) h 12 (by decide) dX5_trace_2 (fun c1 => ?_) (fun c1 => ?_)
  · replace ho := (if_neg c1).symm.trans ho
    refine J_iload_n (pc := 12) (n := 1) (i := 1) h 1 rfl rfl dX5_trace_12 ?_
    refine J_iconst (pc := 13) h (0) rfl dX5_trace_13 ?_
    refine J_aload_n (pc := 14) (n := 0) (i := 0) h 0 rfl rfl dX5_trace_14 ?_
    refine J_Mg18 (pc := 15) h m_350 (σ 0 18) rfl dX5_trace_15 ?_
    refine J_iconst (pc := 18) h (1) rfl dX5_trace_18 ?_
    refine J_isub (pc := 19) h dX5_trace_19 ?_
    refine J_cS (pc := 20) h hR (by decide) (c_X5_in _ _ _ a 0 ((σ 0 18) - 1) ) (by decide) m_415 m_416 m_3 m_417 hd_X5_in rfl rfl (Nat.le_of_ble_eq_true rfl) [.int (f_X5_in a 0 ((σ 0 18) - 1))] rfl dX5_trace_20 ?_
    refine J_if_eq (pc := 23) h 35 (by decide) dX5_trace_23 (fun c2 => ?_) (fun c2 => ?_)
    · replace ho := (if_pos c2).symm.trans ho
      refine J_iconst (pc := 35) h (-1) rfl dX5_trace_35 ?_
      exact J_iret (pc := 36) h hr (by subst ho; exact ⟨rfl, rfl⟩) dX5_trace_36
    · replace ho := (if_neg c2).symm.trans ho
      refine J_aload_n (pc := 26) (n := 0) (i := 0) h 0 rfl rfl dX5_trace_26 ?_
      refine J_Mr19 (pc := 27) h m_351 dX5_trace_27 ?_
      refine J_iload_n (pc := 30) (n := 1) (i := 1) h 1 rfl rfl dX5_trace_30 ?_
      refine J_Ma (pc := 31) h 12 120 ⟨by decide, by decide⟩ rfl (tr_in2 (by assumption) ht) (σ 12 a.toNatClampNeg) rfl dX5_trace_31 ?_
      refine J_goto (pc := 32) h 36 (by decide) dX5_trace_32 ?_
      exact J_iret (pc := 36) h hr (by subst ho; exact ⟨rfl, rfl⟩) dX5_trace_36
  · replace ho := (if_pos c1).symm.trans ho
    refine J_aload_n (pc := 5) (n := 0) (i := 0) h 0 rfl rfl dX5_trace_5 ?_
    refine J_Mg18 (pc := 6) h m_350 (σ 0 18) rfl dX5_trace_6 ?_
    refine J_goto (pc := 9) h 36 (by decide) dX5_trace_9 ?_
    exact J_iret (pc := 36) h hr (by subst ho; exact ⟨rfl, rfl⟩) dX5_trace_36
def f_X5_share (a : Int32) (b : Int32) (σ : Sg) : Int32 × Sg := (if f_X5_in a 0 7 = 0 then ((-1), σ) else (if f_X5_in b 0 7 = 0 then ((-1), σ) else (if σ 7 a.toNatClampNeg = (-1) then (0, up2 σ 7 b.toNatClampNeg (σ 7 a.toNatClampNeg)) else (1, up2 σ 7 b.toNatClampNeg (σ 7 a.toNatClampNeg)))))
theorem hd_X5_share : yX5_share.cls ≠ "java/lang/invoke/MethodHandle" ∧ yX5_share.cls ≠ "java/lang/invoke/VarHandle" ∧ (parseMethodDescriptor yX5_share.desc).map (fun d => d.parameters.length) = some 2 := by decide +kernel
set_option maxHeartbeats 4000000 in
set_option maxRecDepth 20000 in
theorem c_X5_share (l : Launch) (g : Gy) (ad : Nat → Nat) (σ : Sg) (a : Int32) (b : Int32)  : Con l g yX5_share cX5_share 3 (some .int) (rmL 1) [.ref (ad 0), .int a, .int b] (wM g ad σ) (Det (some (.int (f_X5_share a b σ).1)) (wM g ad ((f_X5_share a b σ).2))) := by
  refine Con.of (by decide) (Nat.le_of_ble_eq_true rfl) ?_
  intro x h e1 e2 e3 e4 e5 hr
  subst e1 e2
  have h : Ok x cX5_share "SafeDeskModel" (some .int) := h
  have hR : RmOk x 1 0 0 := RmOk.of e3 (Nat.le_refl _) (Nat.le_refl _)
  obtain ⟨out, ho⟩ : ∃ o, f_X5_share a b σ = o := ⟨_, rfl⟩
  rw [ho] at hr
  unfold f_X5_share at ho
  show J x 0 0 _ 0 [(0, .ref (ad 0)), (1, .int a), (2, .int b)] []
  refine J_iload_n (pc := 0) (n := 1) (i := 1) h 1 rfl rfl dX5_share_0 ?_
  refine J_iconst (pc := 1) h (0) rfl dX5_share_1 ?_
  refine J_bipush (pc := 2) h (7) rfl dX5_share_2 ?_
  refine J_cS (pc := 4) h hR (by decide) (c_X5_in _ _ _ a 0 7 ) (by decide) m_415 m_416 m_3 m_417 hd_X5_in rfl rfl (Nat.le_of_ble_eq_true rfl) [.int (f_X5_in a 0 7)] rfl dX5_share_4 ?_
  refine J_if_eq (pc := 7) h 20 (by decide) dX5_share_7 (fun c1 => ?_) (fun c1 => ?_)
  · replace ho := (if_pos c1).symm.trans ho
    refine J_iconst (pc := 20) h (-1) rfl dX5_share_20 ?_
    exact J_iret (pc := 21) h hr (by subst ho; exact ⟨rfl, rfl⟩) dX5_share_21
  · replace ho := (if_neg c1).symm.trans ho
    refine J_iload_n (pc := 10) (n := 2) (i := 2) h 2 rfl rfl dX5_share_10 ?_
    refine J_iconst (pc := 11) h (0) rfl dX5_share_11 ?_
    refine J_bipush (pc := 12) h (7) rfl dX5_share_12 ?_
    refine J_cS (pc := 14) h hR (by decide) (c_X5_in _ _ _ b 0 7 ) (by decide) m_415 m_416 m_3 m_417 hd_X5_in rfl rfl (Nat.le_of_ble_eq_true rfl) [.int (f_X5_in b 0 7)] rfl dX5_share_14 ?_
    refine J_if_ne (pc := 17) h 22 (by decide) dX5_share_17 (fun c2 => ?_) (fun c2 => ?_)
    · replace ho := (if_neg c2).symm.trans ho
      refine J_aload_n (pc := 22) (n := 0) (i := 0) h 0 rfl rfl dX5_share_22 ?_
      refine J_Mr7 (pc := 23) h m_339 dX5_share_23 ?_
      refine J_iload_n (pc := 26) (n := 2) (i := 2) h 2 rfl rfl dX5_share_26 ?_
      refine J_aload_n (pc := 27) (n := 0) (i := 0) h 0 rfl rfl dX5_share_27 ?_
      refine J_Mr7 (pc := 28) h m_339 dX5_share_28 ?_
      refine J_iload_n (pc := 31) (n := 1) (i := 1) h 1 rfl rfl dX5_share_31 ?_
      refine J_Ma (pc := 32) h 7 8 ⟨by decide, by decide⟩ rfl (in_room (by assumption)) (σ 7 a.toNatClampNeg) rfl dX5_share_32 ?_
      refine J_Ms (pc := 33) h 7 8 ⟨by decide, by decide⟩ rfl (in_room (by assumption)) dX5_share_33 ?_
      refine J_aload_n (pc := 34) (n := 0) (i := 0) h 0 rfl rfl dX5_share_34 ?_
      refine J_Mr7 (pc := 35) h m_339 dX5_share_35 ?_
      refine J_iload_n (pc := 38) (n := 2) (i := 2) h 2 rfl rfl dX5_share_38 ?_
      refine J_Ma (pc := 39) h 7 8 ⟨by decide, by decide⟩ rfl (in_room (by assumption)) (σ 7 a.toNatClampNeg) (up2_self _ _ _ _) dX5_share_39 ?_
      refine J_iconst (pc := 40) h (-1) rfl dX5_share_40 ?_
      refine J_icmp_ne (pc := 41) h 48 (by decide) dX5_share_41 (fun c3 => ?_) (fun c3 => ?_)
      · replace ho := (if_neg c3).symm.trans ho
        refine J_iconst (pc := 48) h (1) rfl dX5_share_48 ?_
        exact J_iret (pc := 49) h hr (by subst ho; exact ⟨rfl, rfl⟩) dX5_share_49
      · replace ho := (if_pos c3).symm.trans ho
        refine J_iconst (pc := 44) h (0) rfl dX5_share_44 ?_
        refine J_goto (pc := 45) h 49 (by decide) dX5_share_45 ?_
        exact J_iret (pc := 49) h hr (by subst ho; exact ⟨rfl, rfl⟩) dX5_share_49
    · replace ho := (if_pos c2).symm.trans ho
      refine J_iconst (pc := 20) h (-1) rfl dX5_share_20 ?_
      exact J_iret (pc := 21) h hr (by subst ho; exact ⟨rfl, rfl⟩) dX5_share_21
def f_X5_same (a : Int32) (b : Int32) (σ : Sg) : Int32 := (if f_X5_in a 0 7 = 0 then (-1) else (if f_X5_in b 0 7 = 0 then (-1) else (if σ 7 a.toNatClampNeg = σ 7 b.toNatClampNeg then 1 else 0)))
theorem hd_X5_same : yX5_same.cls ≠ "java/lang/invoke/MethodHandle" ∧ yX5_same.cls ≠ "java/lang/invoke/VarHandle" ∧ (parseMethodDescriptor yX5_same.desc).map (fun d => d.parameters.length) = some 2 := by decide +kernel
set_option maxHeartbeats 4000000 in
set_option maxRecDepth 20000 in
theorem c_X5_same (l : Launch) (g : Gy) (ad : Nat → Nat) (σ : Sg) (a : Int32) (b : Int32)  : Con l g yX5_same cX5_same 3 (some .int) (rmL 1) [.ref (ad 0), .int a, .int b] (wM g ad σ) (Det (some (.int (f_X5_same a b σ))) (wM g ad σ)) := by
  refine Con.of (by decide) (Nat.le_of_ble_eq_true rfl) ?_
  intro x h e1 e2 e3 e4 e5 hr
  subst e1 e2
  have h : Ok x cX5_same "SafeDeskModel" (some .int) := h
  have hR : RmOk x 1 0 0 := RmOk.of e3 (Nat.le_refl _) (Nat.le_refl _)
  obtain ⟨out, ho⟩ : ∃ o, f_X5_same a b σ = o := ⟨_, rfl⟩
  rw [ho] at hr
  unfold f_X5_same at ho
  show J x 0 0 _ 0 [(0, .ref (ad 0)), (1, .int a), (2, .int b)] []
  refine J_iload_n (pc := 0) (n := 1) (i := 1) h 1 rfl rfl dX5_same_0 ?_
  refine J_iconst (pc := 1) h (0) rfl dX5_same_1 ?_
  refine J_bipush (pc := 2) h (7) rfl dX5_same_2 ?_
  refine J_cS (pc := 4) h hR (by decide) (c_X5_in _ _ _ a 0 7 ) (by decide) m_415 m_416 m_3 m_417 hd_X5_in rfl rfl (Nat.le_of_ble_eq_true rfl) [.int (f_X5_in a 0 7)] rfl dX5_same_4 ?_
  refine J_if_eq (pc := 7) h 20 (by decide) dX5_same_7 (fun c1 => ?_) (fun c1 => ?_)
  · replace ho := (if_pos c1).symm.trans ho
    refine J_iconst (pc := 20) h (-1) rfl dX5_same_20 ?_
    refine J_goto (pc := 21) h 44 (by decide) dX5_same_21 ?_
    exact J_iret (pc := 44) h hr (by subst ho; exact ⟨rfl, rfl⟩) dX5_same_44
  · replace ho := (if_neg c1).symm.trans ho
    refine J_iload_n (pc := 10) (n := 2) (i := 2) h 2 rfl rfl dX5_same_10 ?_
    refine J_iconst (pc := 11) h (0) rfl dX5_same_11 ?_
    refine J_bipush (pc := 12) h (7) rfl dX5_same_12 ?_
    refine J_cS (pc := 14) h hR (by decide) (c_X5_in _ _ _ b 0 7 ) (by decide) m_415 m_416 m_3 m_417 hd_X5_in rfl rfl (Nat.le_of_ble_eq_true rfl) [.int (f_X5_in b 0 7)] rfl dX5_same_14 ?_
    refine J_if_ne (pc := 17) h 24 (by decide) dX5_same_17 (fun c2 => ?_) (fun c2 => ?_)
    · replace ho := (if_neg c2).symm.trans ho
      refine J_aload_n (pc := 24) (n := 0) (i := 0) h 0 rfl rfl dX5_same_24 ?_
      refine J_Mr7 (pc := 25) h m_339 dX5_same_25 ?_
      refine J_iload_n (pc := 28) (n := 1) (i := 1) h 1 rfl rfl dX5_same_28 ?_
      refine J_Ma (pc := 29) h 7 8 ⟨by decide, by decide⟩ rfl (in_room (by assumption)) (σ 7 a.toNatClampNeg) rfl dX5_same_29 ?_
      refine J_aload_n (pc := 30) (n := 0) (i := 0) h 0 rfl rfl dX5_same_30 ?_
      refine J_Mr7 (pc := 31) h m_339 dX5_same_31 ?_
      refine J_iload_n (pc := 34) (n := 2) (i := 2) h 2 rfl rfl dX5_same_34 ?_
      refine J_Ma (pc := 35) h 7 8 ⟨by decide, by decide⟩ rfl (in_room (by assumption)) (σ 7 b.toNatClampNeg) rfl dX5_same_35 ?_
      refine J_icmp_ne (pc := 36) h 43 (by decide) dX5_same_36 (fun c3 => ?_) (fun c3 => ?_)
      · replace ho := (if_neg c3).symm.trans ho
        refine J_iconst (pc := 43) h (0) rfl dX5_same_43 ?_
        exact J_iret (pc := 44) h hr (by subst ho; exact ⟨rfl, rfl⟩) dX5_same_44
      · replace ho := (if_pos c3).symm.trans ho
        refine J_iconst (pc := 39) h (1) rfl dX5_same_39 ?_
        refine J_goto (pc := 40) h 44 (by decide) dX5_same_40 ?_
        exact J_iret (pc := 44) h hr (by subst ho; exact ⟨rfl, rfl⟩) dX5_same_44
    · replace ho := (if_pos c2).symm.trans ho
      refine J_iconst (pc := 20) h (-1) rfl dX5_same_20 ?_
      refine J_goto (pc := 21) h 44 (by decide) dX5_same_21 ?_
      exact J_iret (pc := 44) h hr (by subst ho; exact ⟨rfl, rfl⟩) dX5_same_44
def f_X5_told (a : Int32) (b : Int32) (σ : Sg) : Int32 := (if f_X5_in a 0 7 = 0 then (-1) else (if σ 7 a.toNatClampNeg = (-1) then (-1) else (if f_X5_in b 0 5 = 0 then (-1) else (if b = 0 then (σ 1 ((σ 7 a.toNatClampNeg).toNatClampNeg)) else (if b = 1 then (σ 2 ((σ 7 a.toNatClampNeg).toNatClampNeg)) else (if b = 2 then (σ 3 ((σ 7 a.toNatClampNeg).toNatClampNeg)) else (if b = 3 then (σ 4 ((σ 7 a.toNatClampNeg).toNatClampNeg)) else (if b = 4 then (σ 5 ((σ 7 a.toNatClampNeg).toNatClampNeg)) else (σ 6 ((σ 7 a.toNatClampNeg).toNatClampNeg))))))))))
theorem hd_X5_told : yX5_told.cls ≠ "java/lang/invoke/MethodHandle" ∧ yX5_told.cls ≠ "java/lang/invoke/VarHandle" ∧ (parseMethodDescriptor yX5_told.desc).map (fun d => d.parameters.length) = some 2 := by decide +kernel
set_option maxHeartbeats 4000000 in
set_option maxRecDepth 20000 in
theorem c_X5_told (l : Launch) (g : Gy) (ad : Nat → Nat) (σ : Sg) (a : Int32) (b : Int32) (hR7 : ∀ r : Nat, r < 8 → σ 7 r = -1 ∨ vp_in (σ 7 r) 4200) : Con l g yX5_told cX5_told 4 (some .int) (rmL 1) [.ref (ad 0), .int a, .int b] (wM g ad σ) (Det (some (.int (f_X5_told a b σ))) (wM g ad σ)) := by
  refine Con.of (by decide) (Nat.le_of_ble_eq_true rfl) ?_
  intro x h e1 e2 e3 e4 e5 hr
  subst e1 e2
  have h : Ok x cX5_told "SafeDeskModel" (some .int) := h
  have hR : RmOk x 1 0 0 := RmOk.of e3 (Nat.le_refl _) (Nat.le_refl _)
  obtain ⟨out, ho⟩ : ∃ o, f_X5_told a b σ = o := ⟨_, rfl⟩
  rw [ho] at hr
  unfold f_X5_told at ho
  show J x 0 0 _ 0 [(0, .ref (ad 0)), (1, .int a), (2, .int b)] []
  refine J_iload_n (pc := 0) (n := 1) (i := 1) h 1 rfl rfl dX5_told_0 ?_
  refine J_iconst (pc := 1) h (0) rfl dX5_told_1 ?_
  refine J_bipush (pc := 2) h (7) rfl dX5_told_2 ?_
  refine J_cS (pc := 4) h hR (by decide) (c_X5_in _ _ _ a 0 7 ) (by decide) m_415 m_416 m_3 m_417 hd_X5_in rfl rfl (Nat.le_of_ble_eq_true rfl) [.int (f_X5_in a 0 7)] rfl dX5_told_4 ?_
  refine J_if_eq (pc := 7) h 29 (by decide) dX5_told_7 (fun c1 => ?_) (fun c1 => ?_)
  · replace ho := (if_pos c1).symm.trans ho
    refine J_iconst (pc := 29) h (-1) rfl dX5_told_29 ?_
    exact J_iret (pc := 30) h hr (by subst ho; exact ⟨rfl, rfl⟩) dX5_told_30
  · replace ho := (if_neg c1).symm.trans ho
    refine J_aload_n (pc := 10) (n := 0) (i := 0) h 0 rfl rfl dX5_told_10 ?_
    refine J_Mr7 (pc := 11) h m_339 dX5_told_11 ?_
    refine J_iload_n (pc := 14) (n := 1) (i := 1) h 1 rfl rfl dX5_told_14 ?_
    refine J_Ma (pc := 15) h 7 8 ⟨by decide, by decide⟩ rfl (in_room (by assumption)) (σ 7 a.toNatClampNeg) rfl dX5_told_15 ?_
    refine J_iconst (pc := 16) h (-1) rfl dX5_told_16 ?_
    refine J_icmp_eq (pc := 17) h 29 (by decide) dX5_told_17 (fun c2 => ?_) (fun c2 => ?_)
    · replace ho := (if_pos c2).symm.trans ho
      refine J_iconst (pc := 29) h (-1) rfl dX5_told_29 ?_
      exact J_iret (pc := 30) h hr (by subst ho; exact ⟨rfl, rfl⟩) dX5_told_30
    · replace ho := (if_neg c2).symm.trans ho
      refine J_iload_n (pc := 20) (n := 2) (i := 2) h 2 rfl rfl dX5_told_20 ?_
      refine J_iconst (pc := 21) h (0) rfl dX5_told_21 ?_
      refine J_iconst (pc := 22) h (5) rfl dX5_told_22 ?_
      refine J_cS (pc := 23) h hR (by decide) (c_X5_in _ _ _ b 0 5 ) (by decide) m_415 m_416 m_3 m_417 hd_X5_in rfl rfl (Nat.le_of_ble_eq_true rfl) [.int (f_X5_in b 0 5)] rfl dX5_told_23 ?_
      refine J_if_ne (pc := 26) h 31 (by decide) dX5_told_26 (fun c3 => ?_) (fun c3 => ?_)
      · replace ho := (if_neg c3).symm.trans ho
        refine J_aload_n (pc := 31) (n := 0) (i := 0) h 0 rfl rfl dX5_told_31 ?_
        refine J_Mr7 (pc := 32) h m_339 dX5_told_32 ?_
        refine J_iload_n (pc := 35) (n := 1) (i := 1) h 1 rfl rfl dX5_told_35 ?_
        refine J_Ma (pc := 36) h 7 8 ⟨by decide, by decide⟩ rfl (in_room (by assumption)) (σ 7 a.toNatClampNeg) rfl dX5_told_36 ?_
        refine J_istore_n (pc := 37) (n := 3) (i := 3) h [(3, .int (σ 7 a.toNatClampNeg)), (0, .ref (ad 0)), (1, .int a), (2, .int b)] rfl (by rw [e4]; decide) rfl dX5_told_37 ?_
        refine J_iload_n (pc := 38) (n := 2) (i := 2) h 3 rfl rfl dX5_told_38 ?_
        refine J_if_ne (pc := 39) h 51 (by decide) dX5_told_39 (fun c4 => ?_) (fun c4 => ?_)
        · replace ho := (if_neg c4).symm.trans ho
          refine J_iload_n (pc := 51) (n := 2) (i := 2) h 3 rfl rfl dX5_told_51 ?_
          refine J_iconst (pc := 52) h (1) rfl dX5_told_52 ?_
          refine J_icmp_ne (pc := 53) h 65 (by decide) dX5_told_53 (fun c5 => ?_) (fun c5 => ?_)
          · replace ho := (if_neg c5).symm.trans ho
            refine J_iload_n (pc := 65) (n := 2) (i := 2) h 3 rfl rfl dX5_told_65 ?_
            refine J_iconst (pc := 66) h (2) rfl dX5_told_66 ?_
            refine J_icmp_ne (pc := 67) h 79 (by decide) dX5_told_67 (fun c6 => ?_) (fun c6 => ?_)
            · replace ho := (if_neg c6).symm.trans ho
              refine J_iload_n (pc := 79) (n := 2) (i := 2) h 3 rfl rfl dX5_told_79 ?_
              refine J_iconst (pc := 80) h (3) rfl dX5_told_80 ?_
              refine J_icmp_ne (pc := 81) h 93 (by decide) dX5_told_81 (fun c7 => ?_) (fun c7 => ?_)
              · replace ho := (if_neg c7).symm.trans ho
                refine J_iload_n (pc := 93) (n := 2) (i := 2) h 3 rfl rfl dX5_told_93 ?_
                refine J_iconst (pc := 94) h (4) rfl dX5_told_94 ?_
                refine J_icmp_ne (pc := 95) h 107 (by decide) dX5_told_95 (fun c8 => ?_) (fun c8 => ?_)
                · replace ho := (if_neg c8).symm.trans ho
                  refine J_aload_n (pc := 107) (n := 0) (i := 0) h 1 rfl rfl dX5_told_107 ?_
                  refine J_Mr6 (pc := 108) h m_338 dX5_told_108 ?_
                  refine J_iload_n (pc := 111) (n := 3) (i := 3) h 0 rfl rfl dX5_told_111 ?_
                  refine J_Ma (pc := 112) h 6 4200 ⟨by decide, by decide⟩ rfl ((hR7 _ (vp_lt (in_room (by assumption)))).resolve_left (by assumption)) (σ 6 ((σ 7 a.toNatClampNeg).toNatClampNeg)) rfl dX5_told_112 ?_
                  exact J_iret (pc := 113) h hr (by subst ho; exact ⟨rfl, rfl⟩) dX5_told_113
                · replace ho := (if_pos c8).symm.trans ho
                  refine J_aload_n (pc := 98) (n := 0) (i := 0) h 1 rfl rfl dX5_told_98 ?_
                  refine J_Mr5 (pc := 99) h m_337 dX5_told_99 ?_
                  refine J_iload_n (pc := 102) (n := 3) (i := 3) h 0 rfl rfl dX5_told_102 ?_
                  refine J_Ma (pc := 103) h 5 4200 ⟨by decide, by decide⟩ rfl ((hR7 _ (vp_lt (in_room (by assumption)))).resolve_left (by assumption)) (σ 5 ((σ 7 a.toNatClampNeg).toNatClampNeg)) rfl dX5_told_103 ?_
                  refine J_goto (pc := 104) h 113 (by decide) dX5_told_104 ?_
                  exact J_iret (pc := 113) h hr (by subst ho; exact ⟨rfl, rfl⟩) dX5_told_113
              · replace ho := (if_pos c7).symm.trans ho
                refine J_aload_n (pc := 84) (n := 0) (i := 0) h 1 rfl rfl dX5_told_84 ?_
                refine J_Mr4 (pc := 85) h m_336 dX5_told_85 ?_
                refine J_iload_n (pc := 88) (n := 3) (i := 3) h 0 rfl rfl dX5_told_88 ?_
                refine J_Ma (pc := 89) h 4 4200 ⟨by decide, by decide⟩ rfl ((hR7 _ (vp_lt (in_room (by assumption)))).resolve_left (by assumption)) (σ 4 ((σ 7 a.toNatClampNeg).toNatClampNeg)) rfl dX5_told_89 ?_
                refine J_goto (pc := 90) h 113 (by decide) dX5_told_90 ?_
                exact J_iret (pc := 113) h hr (by subst ho; exact ⟨rfl, rfl⟩) dX5_told_113
            · replace ho := (if_pos c6).symm.trans ho
              refine J_aload_n (pc := 70) (n := 0) (i := 0) h 1 rfl rfl dX5_told_70 ?_
              refine J_Mr3 (pc := 71) h m_335 dX5_told_71 ?_
              refine J_iload_n (pc := 74) (n := 3) (i := 3) h 0 rfl rfl dX5_told_74 ?_
              refine J_Ma (pc := 75) h 3 4200 ⟨by decide, by decide⟩ rfl ((hR7 _ (vp_lt (in_room (by assumption)))).resolve_left (by assumption)) (σ 3 ((σ 7 a.toNatClampNeg).toNatClampNeg)) rfl dX5_told_75 ?_
              refine J_goto (pc := 76) h 113 (by decide) dX5_told_76 ?_
              exact J_iret (pc := 113) h hr (by subst ho; exact ⟨rfl, rfl⟩) dX5_told_113
          · replace ho := (if_pos c5).symm.trans ho
            refine J_aload_n (pc := 56) (n := 0) (i := 0) h 1 rfl rfl dX5_told_56 ?_
            refine J_Mr2 (pc := 57) h m_334 dX5_told_57 ?_
            refine J_iload_n (pc := 60) (n := 3) (i := 3) h 0 rfl rfl dX5_told_60 ?_
            refine J_Ma (pc := 61) h 2 4200 ⟨by decide, by decide⟩ rfl ((hR7 _ (vp_lt (in_room (by assumption)))).resolve_left (by assumption)) (σ 2 ((σ 7 a.toNatClampNeg).toNatClampNeg)) rfl dX5_told_61 ?_
            refine J_goto (pc := 62) h 113 (by decide) dX5_told_62 ?_
            exact J_iret (pc := 113) h hr (by subst ho; exact ⟨rfl, rfl⟩) dX5_told_113
        · replace ho := (if_pos c4).symm.trans ho
          refine J_aload_n (pc := 42) (n := 0) (i := 0) h 1 rfl rfl dX5_told_42 ?_
          refine J_Mr1 (pc := 43) h m_333 dX5_told_43 ?_
          refine J_iload_n (pc := 46) (n := 3) (i := 3) h 0 rfl rfl dX5_told_46 ?_
          refine J_Ma (pc := 47) h 1 4200 ⟨by decide, by decide⟩ rfl ((hR7 _ (vp_lt (in_room (by assumption)))).resolve_left (by assumption)) (σ 1 ((σ 7 a.toNatClampNeg).toNatClampNeg)) rfl dX5_told_47 ?_
          refine J_goto (pc := 48) h 113 (by decide) dX5_told_48 ?_
          exact J_iret (pc := 113) h hr (by subst ho; exact ⟨rfl, rfl⟩) dX5_told_113
      · replace ho := (if_pos c3).symm.trans ho
        refine J_iconst (pc := 29) h (-1) rfl dX5_told_29 ?_
        exact J_iret (pc := 30) h hr (by subst ho; exact ⟨rfl, rfl⟩) dX5_told_30
theorem at_in {pl m : Int32} (hp : vp_in pl 6) (hm : 0 ≤ m.toInt ∧ m.toInt ≤ 12) (h : ¬ m = 12) : vp_in ((12 * pl) + m) 72 := by
  obtain ⟨j, hj, rfl⟩ := vp_in_of hp (by decide)
  have hn : ¬ m < 0 := by rw [i_lt, ti0]; omega
  obtain ⟨k, hk, rfl⟩ := nI_of hn
  rw [nI_toInt hk] at hm
  have hk12 : k ≠ 12 := fun q => h (by rw [q]; rfl)
  rw [show (12 : Int32) = nI 12 from rfl, pk_mul, nI_add]
  exact vp_in_nI (by omega) (by decide)
def f_X5_step_j145 (pl : Int32) (kd : Int32) (a : Int32) (b : Int32) (σ : Sg) : Int32 × Sg := (if σ 8 pl.toNatClampNeg = 12 then ((-2), σ) else ((σ 8 pl.toNatClampNeg) + 1, up2 (up2 (up2 (up2 σ 9 (((12 * pl) + (σ 8 pl.toNatClampNeg)).toNatClampNeg) kd) 10 (((12 * pl) + (σ 8 pl.toNatClampNeg)).toNatClampNeg) a) 11 (((12 * pl) + (σ 8 pl.toNatClampNeg)).toNatClampNeg) b) 8 pl.toNatClampNeg ((σ 8 pl.toNatClampNeg) + 1)))
set_option maxHeartbeats 4000000 in
theorem jn_X5_step_145 {x : Cx} {ad : Nat → Nat} {σ : Sg} {L : Nat} (h : Ok x cX5_step "SafeDeskModel" (some .int)) (hR : RmOk x L 0 0) (hL : 1 ≤ L) (e4 : xN x = 6) (pl : Int32) (kd : Int32) (a : Int32) (b : Int32) (hm : ∀ p : Nat, p < 6 → 0 ≤ (σ 8 p).toInt ∧ (σ 8 p).toInt ≤ 12) (hpl : ¬ f_X5_in pl 0 5 = 0) {out : Int32 × Sg} (hr : Rt x 0 0 (Det (some (.int out.1)) (wM (xG x) ad out.2))) (ho : f_X5_step_j145 pl kd a b σ = out) : J x 0 0 (wM (xG x) ad σ) 145 [(0, .ref (ad 0)), (1, .int pl), (2, .int kd), (3, .int a), (4, .int b)] [] := by
  unfold f_X5_step_j145 at ho
  refine J_aload_n (pc := 145) (n := 0) (i := 0) h 0 rfl rfl dX5_step_145 ?_
  refine J_Mr8 (pc := 146) h m_340 dX5_step_146 ?_
  refine J_iload_n (pc := 149) (n := 1) (i := 1) h 1 rfl rfl dX5_step_149 ?_
  refine J_Ma (pc := 150) h 8 6 ⟨by decide, by decide⟩ rfl (in_plan hpl) (σ 8 pl.toNatClampNeg) rfl dX5_step_150 ?_
  refine J_bipush (pc := 151) h (12) rfl dX5_step_151 ?_
  refine J_icmp_ne (pc := 153) h 159 (by decide) dX5_step_153 (fun c1 => ?_) (fun c1 => ?_)
  · replace ho := (if_neg c1).symm.trans ho
    refine J_bipush (pc := 159) h (12) rfl dX5_step_159 ?_
    refine J_iload_n (pc := 161) (n := 1) (i := 1) h 1 rfl rfl dX5_step_161 ?_
    refine J_imul (pc := 162) h dX5_step_162 ?_
    refine J_aload_n (pc := 163) (n := 0) (i := 0) h 0 rfl rfl dX5_step_163 ?_
    refine J_Mr8 (pc := 164) h m_340 dX5_step_164 ?_
    refine J_iload_n (pc := 167) (n := 1) (i := 1) h 1 rfl rfl dX5_step_167 ?_
    refine J_Ma (pc := 168) h 8 6 ⟨by decide, by decide⟩ rfl (in_plan hpl) (σ 8 pl.toNatClampNeg) rfl dX5_step_168 ?_
    refine J_iadd (pc := 169) h dX5_step_169 ?_
    refine J_istore (pc := 170) h [(5, .int ((12 * pl) + (σ 8 pl.toNatClampNeg))), (0, .ref (ad 0)), (1, .int pl), (2, .int kd), (3, .int a), (4, .int b)] (by rw [e4]; decide) rfl dX5_step_170 ?_
    refine J_aload_n (pc := 172) (n := 0) (i := 0) h 1 rfl rfl dX5_step_172 ?_
    refine J_Mr9 (pc := 173) h m_341 dX5_step_173 ?_
    refine J_iload (pc := 176) h 0 rfl dX5_step_176 ?_
    refine J_iload_n (pc := 178) (n := 2) (i := 2) h 3 rfl rfl dX5_step_178 ?_
    refine J_Ms (pc := 179) h 9 72 ⟨by decide, by decide⟩ rfl (at_in (in_plan hpl) (hm _ (vp_lt (in_plan hpl))) (by assumption)) dX5_step_179 ?_
    refine J_aload_n (pc := 180) (n := 0) (i := 0) h 1 rfl rfl dX5_step_180 ?_
    refine J_Mr10 (pc := 181) h m_342 dX5_step_181 ?_
    refine J_iload (pc := 184) h 0 rfl dX5_step_184 ?_
    refine J_iload_n (pc := 186) (n := 3) (i := 3) h 4 rfl rfl dX5_step_186 ?_
    refine J_Ms (pc := 187) h 10 72 ⟨by decide, by decide⟩ rfl (at_in (in_plan hpl) (hm _ (vp_lt (in_plan hpl))) (by assumption)) dX5_step_187 ?_
    refine J_aload_n (pc := 188) (n := 0) (i := 0) h 1 rfl rfl dX5_step_188 ?_
    refine J_Mr11 (pc := 189) h m_343 dX5_step_189 ?_
    refine J_iload (pc := 192) h 0 rfl dX5_step_192 ?_
    refine J_iload (pc := 194) h 5 rfl dX5_step_194 ?_
    refine J_Ms (pc := 196) h 11 72 ⟨by decide, by decide⟩ rfl (at_in (in_plan hpl) (hm _ (vp_lt (in_plan hpl))) (by assumption)) dX5_step_196 ?_
    refine J_aload_n (pc := 197) (n := 0) (i := 0) h 1 rfl rfl dX5_step_197 ?_
    refine J_Mr8 (pc := 198) h m_340 dX5_step_198 ?_
    refine J_iload_n (pc := 201) (n := 1) (i := 1) h 2 rfl rfl dX5_step_201 ?_
    refine J_dup2 (pc := 202) h rfl rfl dX5_step_202 ?_
    refine J_Ma (pc := 203) h 8 6 ⟨by decide, by decide⟩ rfl (in_plan hpl) (σ 8 pl.toNatClampNeg) ((up2_off _ _ (by decide)).trans ((up2_off _ _ (by decide)).trans (up2_off _ _ (by decide)))) dX5_step_203 ?_
    refine J_iconst (pc := 204) h (1) rfl dX5_step_204 ?_
    refine J_iadd (pc := 205) h dX5_step_205 ?_
    refine J_Ms (pc := 206) h 8 6 ⟨by decide, by decide⟩ rfl (in_plan hpl) dX5_step_206 ?_
    refine J_aload_n (pc := 207) (n := 0) (i := 0) h 1 rfl rfl dX5_step_207 ?_
    refine J_Mr8 (pc := 208) h m_340 dX5_step_208 ?_
    refine J_iload_n (pc := 211) (n := 1) (i := 1) h 2 rfl rfl dX5_step_211 ?_
    refine J_Ma (pc := 212) h 8 6 ⟨by decide, by decide⟩ rfl (in_plan hpl) ((σ 8 pl.toNatClampNeg) + 1) (up2_self _ _ _ _) dX5_step_212 ?_
    exact J_iret (pc := 213) h hr (by subst ho; exact ⟨rfl, rfl⟩) dX5_step_213
  · replace ho := (if_pos c1).symm.trans ho
    refine J_bipush (pc := 156) h (-2) rfl dX5_step_156 ?_
    exact J_iret (pc := 158) h hr (by subst ho; exact ⟨rfl, rfl⟩) dX5_step_158
def f_X5_step_j127 (pl : Int32) (kd : Int32) (a : Int32) (b : Int32) (σ : Sg) : Int32 × Sg := (if 2 ≤ kd then (f_X5_step_j145 pl kd a b σ) else (if f_X5_in b 1 11 = 0 then ((-1), σ) else (f_X5_step_j145 pl kd a b σ)))
set_option maxHeartbeats 4000000 in
theorem jn_X5_step_127 {x : Cx} {ad : Nat → Nat} {σ : Sg} {L : Nat} (h : Ok x cX5_step "SafeDeskModel" (some .int)) (hR : RmOk x L 0 0) (hL : 1 ≤ L) (e4 : xN x = 6) (pl : Int32) (kd : Int32) (a : Int32) (b : Int32) (hm : ∀ p : Nat, p < 6 → 0 ≤ (σ 8 p).toInt ∧ (σ 8 p).toInt ≤ 12) (hpl : ¬ f_X5_in pl 0 5 = 0) {out : Int32 × Sg} (hr : Rt x 0 0 (Det (some (.int out.1)) (wM (xG x) ad out.2))) (ho : f_X5_step_j127 pl kd a b σ = out) : J x 0 0 (wM (xG x) ad σ) 127 [(0, .ref (ad 0)), (1, .int pl), (2, .int kd), (3, .int a), (4, .int b)] [] := by
  unfold f_X5_step_j127 at ho
  refine J_iload_n (pc := 127) (n := 2) (i := 2) h 2 rfl rfl dX5_step_127 ?_
  refine J_iconst (pc := 128) h (2) rfl dX5_step_128 ?_
  refine J_icmp_ge (pc := 129) h 145 (by decide) dX5_step_129 (fun c1 => ?_) (fun c1 => ?_)
  · replace ho := (if_pos c1).symm.trans ho
    exact jn_X5_step_145 h hR hL e4 pl kd a b hm hpl hr ho
  · replace ho := (if_neg c1).symm.trans ho
    refine J_iload (pc := 132) h 4 rfl dX5_step_132 ?_
    refine J_iconst (pc := 134) h (1) rfl dX5_step_134 ?_
    refine J_bipush (pc := 135) h (11) rfl dX5_step_135 ?_
    refine J_cS (pc := 137) h hR (by omega) (c_X5_in _ _ _ b 1 11 ) (by decide) m_415 m_416 m_3 m_417 hd_X5_in rfl rfl (Nat.le_of_ble_eq_true rfl) [.int (f_X5_in b 1 11)] rfl dX5_step_137 ?_
    refine J_if_ne (pc := 140) h 145 (by decide) dX5_step_140 (fun c2 => ?_) (fun c2 => ?_)
    · replace ho := (if_neg c2).symm.trans ho
      exact jn_X5_step_145 h hR hL e4 pl kd a b hm hpl hr ho
    · replace ho := (if_pos c2).symm.trans ho
      refine J_iconst (pc := 143) h (-1) rfl dX5_step_143 ?_
      exact J_iret (pc := 144) h hr (by subst ho; exact ⟨rfl, rfl⟩) dX5_step_144
def f_X5_step_j85 (pl : Int32) (kd : Int32) (a : Int32) (b : Int32) (σ : Sg) : Int32 × Sg := (if kd = 1 then (if f_X5_in a 0 1 = 0 then (if f_X5_in a 6 7 = 0 then (if f_X5_in a 20 23 = 0 then (if a = 30 then (f_X5_step_j127 pl kd a b σ) else ((-1), σ)) else (f_X5_step_j127 pl kd a b σ)) else (f_X5_step_j127 pl kd a b σ)) else (f_X5_step_j127 pl kd a b σ)) else (f_X5_step_j127 pl kd a b σ))
set_option maxHeartbeats 4000000 in
theorem jn_X5_step_85 {x : Cx} {ad : Nat → Nat} {σ : Sg} {L : Nat} (h : Ok x cX5_step "SafeDeskModel" (some .int)) (hR : RmOk x L 0 0) (hL : 1 ≤ L) (e4 : xN x = 6) (pl : Int32) (kd : Int32) (a : Int32) (b : Int32) (hm : ∀ p : Nat, p < 6 → 0 ≤ (σ 8 p).toInt ∧ (σ 8 p).toInt ≤ 12) (hpl : ¬ f_X5_in pl 0 5 = 0) {out : Int32 × Sg} (hr : Rt x 0 0 (Det (some (.int out.1)) (wM (xG x) ad out.2))) (ho : f_X5_step_j85 pl kd a b σ = out) : J x 0 0 (wM (xG x) ad σ) 85 [(0, .ref (ad 0)), (1, .int pl), (2, .int kd), (3, .int a), (4, .int b)] [] := by
  unfold f_X5_step_j85 at ho
  refine J_iload_n (pc := 85) (n := 2) (i := 2) h 2 rfl rfl dX5_step_85 ?_
  refine J_iconst (pc := 86) h (1) rfl dX5_step_86 ?_
  refine J_icmp_ne (pc := 87) h 127 (by decide) dX5_step_87 (fun c1 => ?_) (fun c1 => ?_)
  · replace ho := (if_neg c1).symm.trans ho
    exact jn_X5_step_127 h hR hL e4 pl kd a b hm hpl hr ho
  · replace ho := (if_pos c1).symm.trans ho
    refine J_iload_n (pc := 90) (n := 3) (i := 3) h 3 rfl rfl dX5_step_90 ?_
    refine J_iconst (pc := 91) h (0) rfl dX5_step_91 ?_
    refine J_iconst (pc := 92) h (1) rfl dX5_step_92 ?_
    refine J_cS (pc := 93) h hR (by omega) (c_X5_in _ _ _ a 0 1 ) (by decide) m_415 m_416 m_3 m_417 hd_X5_in rfl rfl (Nat.le_of_ble_eq_true rfl) [.int (f_X5_in a 0 1)] rfl dX5_step_93 ?_
    refine J_if_ne (pc := 96) h 127 (by decide) dX5_step_96 (fun c2 => ?_) (fun c2 => ?_)
    · replace ho := (if_neg c2).symm.trans ho
      exact jn_X5_step_127 h hR hL e4 pl kd a b hm hpl hr ho
    · replace ho := (if_pos c2).symm.trans ho
      refine J_iload_n (pc := 99) (n := 3) (i := 3) h 3 rfl rfl dX5_step_99 ?_
      refine J_bipush (pc := 100) h (6) rfl dX5_step_100 ?_
      refine J_bipush (pc := 102) h (7) rfl dX5_step_102 ?_
      refine J_cS (pc := 104) h hR (by omega) (c_X5_in _ _ _ a 6 7 ) (by decide) m_415 m_416 m_3 m_417 hd_X5_in rfl rfl (Nat.le_of_ble_eq_true rfl) [.int (f_X5_in a 6 7)] rfl dX5_step_104 ?_
      refine J_if_ne (pc := 107) h 127 (by decide) dX5_step_107 (fun c3 => ?_) (fun c3 => ?_)
      · replace ho := (if_neg c3).symm.trans ho
        exact jn_X5_step_127 h hR hL e4 pl kd a b hm hpl hr ho
      · replace ho := (if_pos c3).symm.trans ho
        refine J_iload_n (pc := 110) (n := 3) (i := 3) h 3 rfl rfl dX5_step_110 ?_
        refine J_bipush (pc := 111) h (20) rfl dX5_step_111 ?_
        refine J_bipush (pc := 113) h (23) rfl dX5_step_113 ?_
        refine J_cS (pc := 115) h hR (by omega) (c_X5_in _ _ _ a 20 23 ) (by decide) m_415 m_416 m_3 m_417 hd_X5_in rfl rfl (Nat.le_of_ble_eq_true rfl) [.int (f_X5_in a 20 23)] rfl dX5_step_115 ?_
        refine J_if_ne (pc := 118) h 127 (by decide) dX5_step_118 (fun c4 => ?_) (fun c4 => ?_)
        · replace ho := (if_neg c4).symm.trans ho
          exact jn_X5_step_127 h hR hL e4 pl kd a b hm hpl hr ho
        · replace ho := (if_pos c4).symm.trans ho
          refine J_iload_n (pc := 121) (n := 3) (i := 3) h 3 rfl rfl dX5_step_121 ?_
          refine J_bipush (pc := 122) h (30) rfl dX5_step_122 ?_
          refine J_icmp_ne (pc := 124) h 143 (by decide) dX5_step_124 (fun c5 => ?_) (fun c5 => ?_)
          · replace ho := (if_neg c5).symm.trans ho
            refine J_iconst (pc := 143) h (-1) rfl dX5_step_143 ?_
            exact J_iret (pc := 144) h hr (by subst ho; exact ⟨rfl, rfl⟩) dX5_step_144
          · replace ho := (if_pos c5).symm.trans ho
            exact jn_X5_step_127 h hR hL e4 pl kd a b hm hpl hr ho
def f_X5_step_j68 (pl : Int32) (kd : Int32) (a : Int32) (b : Int32) (σ : Sg) : Int32 × Sg := (if kd = 12 then (if f_X5_in a 0 5 = 0 then ((-1), σ) else (f_X5_step_j85 pl kd a b σ)) else (f_X5_step_j85 pl kd a b σ))
set_option maxHeartbeats 4000000 in
theorem jn_X5_step_68 {x : Cx} {ad : Nat → Nat} {σ : Sg} {L : Nat} (h : Ok x cX5_step "SafeDeskModel" (some .int)) (hR : RmOk x L 0 0) (hL : 1 ≤ L) (e4 : xN x = 6) (pl : Int32) (kd : Int32) (a : Int32) (b : Int32) (hm : ∀ p : Nat, p < 6 → 0 ≤ (σ 8 p).toInt ∧ (σ 8 p).toInt ≤ 12) (hpl : ¬ f_X5_in pl 0 5 = 0) {out : Int32 × Sg} (hr : Rt x 0 0 (Det (some (.int out.1)) (wM (xG x) ad out.2))) (ho : f_X5_step_j68 pl kd a b σ = out) : J x 0 0 (wM (xG x) ad σ) 68 [(0, .ref (ad 0)), (1, .int pl), (2, .int kd), (3, .int a), (4, .int b)] [] := by
  unfold f_X5_step_j68 at ho
  refine J_iload_n (pc := 68) (n := 2) (i := 2) h 2 rfl rfl dX5_step_68 ?_
  refine J_bipush (pc := 69) h (12) rfl dX5_step_69 ?_
  refine J_icmp_ne (pc := 71) h 85 (by decide) dX5_step_71 (fun c1 => ?_) (fun c1 => ?_)
  · replace ho := (if_neg c1).symm.trans ho
    exact jn_X5_step_85 h hR hL e4 pl kd a b hm hpl hr ho
  · replace ho := (if_pos c1).symm.trans ho
    refine J_iload_n (pc := 74) (n := 3) (i := 3) h 3 rfl rfl dX5_step_74 ?_
    refine J_iconst (pc := 75) h (0) rfl dX5_step_75 ?_
    refine J_iconst (pc := 76) h (5) rfl dX5_step_76 ?_
    refine J_cS (pc := 77) h hR (by omega) (c_X5_in _ _ _ a 0 5 ) (by decide) m_415 m_416 m_3 m_417 hd_X5_in rfl rfl (Nat.le_of_ble_eq_true rfl) [.int (f_X5_in a 0 5)] rfl dX5_step_77 ?_
    refine J_if_ne (pc := 80) h 85 (by decide) dX5_step_80 (fun c2 => ?_) (fun c2 => ?_)
    · replace ho := (if_neg c2).symm.trans ho
      exact jn_X5_step_85 h hR hL e4 pl kd a b hm hpl hr ho
    · replace ho := (if_pos c2).symm.trans ho
      refine J_iconst (pc := 83) h (-1) rfl dX5_step_83 ?_
      exact J_iret (pc := 84) h hr (by subst ho; exact ⟨rfl, rfl⟩) dX5_step_84
def f_X5_step_j51 (pl : Int32) (kd : Int32) (a : Int32) (b : Int32) (σ : Sg) : Int32 × Sg := (if kd = 9 then (if f_X5_in a 20 23 = 0 then ((-1), σ) else (f_X5_step_j68 pl kd a b σ)) else (f_X5_step_j68 pl kd a b σ))
set_option maxHeartbeats 4000000 in
theorem jn_X5_step_51 {x : Cx} {ad : Nat → Nat} {σ : Sg} {L : Nat} (h : Ok x cX5_step "SafeDeskModel" (some .int)) (hR : RmOk x L 0 0) (hL : 1 ≤ L) (e4 : xN x = 6) (pl : Int32) (kd : Int32) (a : Int32) (b : Int32) (hm : ∀ p : Nat, p < 6 → 0 ≤ (σ 8 p).toInt ∧ (σ 8 p).toInt ≤ 12) (hpl : ¬ f_X5_in pl 0 5 = 0) {out : Int32 × Sg} (hr : Rt x 0 0 (Det (some (.int out.1)) (wM (xG x) ad out.2))) (ho : f_X5_step_j51 pl kd a b σ = out) : J x 0 0 (wM (xG x) ad σ) 51 [(0, .ref (ad 0)), (1, .int pl), (2, .int kd), (3, .int a), (4, .int b)] [] := by
  unfold f_X5_step_j51 at ho
  refine J_iload_n (pc := 51) (n := 2) (i := 2) h 2 rfl rfl dX5_step_51 ?_
  refine J_bipush (pc := 52) h (9) rfl dX5_step_52 ?_
  refine J_icmp_ne (pc := 54) h 68 (by decide) dX5_step_54 (fun c1 => ?_) (fun c1 => ?_)
  · replace ho := (if_neg c1).symm.trans ho
    exact jn_X5_step_68 h hR hL e4 pl kd a b hm hpl hr ho
  · replace ho := (if_pos c1).symm.trans ho
    refine J_iload_n (pc := 57) (n := 3) (i := 3) h 3 rfl rfl dX5_step_57 ?_
    refine J_bipush (pc := 58) h (20) rfl dX5_step_58 ?_
    refine J_bipush (pc := 60) h (23) rfl dX5_step_60 ?_
    refine J_cS (pc := 62) h hR (by omega) (c_X5_in _ _ _ a 20 23 ) (by decide) m_415 m_416 m_3 m_417 hd_X5_in rfl rfl (Nat.le_of_ble_eq_true rfl) [.int (f_X5_in a 20 23)] rfl dX5_step_62 ?_
    refine J_if_eq (pc := 65) h 83 (by decide) dX5_step_65 (fun c2 => ?_) (fun c2 => ?_)
    · replace ho := (if_pos c2).symm.trans ho
      refine J_iconst (pc := 83) h (-1) rfl dX5_step_83 ?_
      exact J_iret (pc := 84) h hr (by subst ho; exact ⟨rfl, rfl⟩) dX5_step_84
    · replace ho := (if_neg c2).symm.trans ho
      exact jn_X5_step_68 h hR hL e4 pl kd a b hm hpl hr ho
def f_X5_step (pl : Int32) (kd : Int32) (a : Int32) (b : Int32) (σ : Sg) : Int32 × Sg := (if f_X5_in pl 0 5 = 0 then ((-1), σ) else (if f_X5_in kd 0 13 = 0 then ((-1), σ) else (if kd = 0 then (if f_X5_in a 0 7 = 0 then ((-1), σ) else (f_X5_step_j51 pl kd a b σ)) else (if f_X5_in kd 2 7 = 0 then (if kd = 13 then (if f_X5_in a 0 7 = 0 then ((-1), σ) else (f_X5_step_j51 pl kd a b σ)) else (f_X5_step_j51 pl kd a b σ)) else (if f_X5_in a 0 7 = 0 then ((-1), σ) else (f_X5_step_j51 pl kd a b σ))))))
theorem hd_X5_step : yX5_step.cls ≠ "java/lang/invoke/MethodHandle" ∧ yX5_step.cls ≠ "java/lang/invoke/VarHandle" ∧ (parseMethodDescriptor yX5_step.desc).map (fun d => d.parameters.length) = some 4 := by decide +kernel
set_option maxHeartbeats 4000000 in
set_option maxRecDepth 20000 in
theorem c_X5_step (l : Launch) (g : Gy) (ad : Nat → Nat) (σ : Sg) (pl : Int32) (kd : Int32) (a : Int32) (b : Int32) (hm : ∀ p : Nat, p < 6 → 0 ≤ (σ 8 p).toInt ∧ (σ 8 p).toInt ≤ 12) : Con l g yX5_step cX5_step 6 (some .int) (rmL 1) [.ref (ad 0), .int pl, .int kd, .int a, .int b] (wM g ad σ) (Det (some (.int (f_X5_step pl kd a b σ).1)) (wM g ad ((f_X5_step pl kd a b σ).2))) := by
  refine Con.of (by decide) (Nat.le_of_ble_eq_true rfl) ?_
  intro x h e1 e2 e3 e4 e5 hr
  subst e1 e2
  have h : Ok x cX5_step "SafeDeskModel" (some .int) := h
  have hR : RmOk x 1 0 0 := RmOk.of e3 (Nat.le_refl _) (Nat.le_refl _)
  obtain ⟨out, ho⟩ : ∃ o, f_X5_step pl kd a b σ = o := ⟨_, rfl⟩
  rw [ho] at hr
  unfold f_X5_step at ho
  show J x 0 0 _ 0 [(0, .ref (ad 0)), (1, .int pl), (2, .int kd), (3, .int a), (4, .int b)] []
  refine J_iload_n (pc := 0) (n := 1) (i := 1) h 1 rfl rfl dX5_step_0 ?_
  refine J_iconst (pc := 1) h (0) rfl dX5_step_1 ?_
  refine J_iconst (pc := 2) h (5) rfl dX5_step_2 ?_
  refine J_cS (pc := 3) h hR (by decide) (c_X5_in _ _ _ pl 0 5 ) (by decide) m_415 m_416 m_3 m_417 hd_X5_in rfl rfl (Nat.le_of_ble_eq_true rfl) [.int (f_X5_in pl 0 5)] rfl dX5_step_3 ?_
  refine J_if_eq (pc := 6) h 19 (by decide) dX5_step_6 (fun c1 => ?_) (fun c1 => ?_)
  · replace ho := (if_pos c1).symm.trans ho
    refine J_iconst (pc := 19) h (-1) rfl dX5_step_19 ?_
    exact J_iret (pc := 20) h hr (by subst ho; exact ⟨rfl, rfl⟩) dX5_step_20
  · replace ho := (if_neg c1).symm.trans ho
    refine J_iload_n (pc := 9) (n := 2) (i := 2) h 2 rfl rfl dX5_step_9 ?_
    refine J_iconst (pc := 10) h (0) rfl dX5_step_10 ?_
    refine J_bipush (pc := 11) h (13) rfl dX5_step_11 ?_
    refine J_cS (pc := 13) h hR (by decide) (c_X5_in _ _ _ kd 0 13 ) (by decide) m_415 m_416 m_3 m_417 hd_X5_in rfl rfl (Nat.le_of_ble_eq_true rfl) [.int (f_X5_in kd 0 13)] rfl dX5_step_13 ?_
    refine J_if_ne (pc := 16) h 21 (by decide) dX5_step_16 (fun c2 => ?_) (fun c2 => ?_)
    · replace ho := (if_neg c2).symm.trans ho
      refine J_iload_n (pc := 21) (n := 2) (i := 2) h 2 rfl rfl dX5_step_21 ?_
      refine J_if_eq (pc := 22) h 41 (by decide) dX5_step_22 (fun c3 => ?_) (fun c3 => ?_)
      · replace ho := (if_pos c3).symm.trans ho
        refine J_iload_n (pc := 41) (n := 3) (i := 3) h 3 rfl rfl dX5_step_41 ?_
        refine J_iconst (pc := 42) h (0) rfl dX5_step_42 ?_
        refine J_bipush (pc := 43) h (7) rfl dX5_step_43 ?_
        refine J_cS (pc := 45) h hR (by decide) (c_X5_in _ _ _ a 0 7 ) (by decide) m_415 m_416 m_3 m_417 hd_X5_in rfl rfl (Nat.le_of_ble_eq_true rfl) [.int (f_X5_in a 0 7)] rfl dX5_step_45 ?_
        refine J_if_eq (pc := 48) h 83 (by decide) dX5_step_48 (fun c4 => ?_) (fun c4 => ?_)
        · replace ho := (if_pos c4).symm.trans ho
          refine J_iconst (pc := 83) h (-1) rfl dX5_step_83 ?_
          exact J_iret (pc := 84) h hr (by subst ho; exact ⟨rfl, rfl⟩) dX5_step_84
        · replace ho := (if_neg c4).symm.trans ho
          exact jn_X5_step_51 h hR (by decide) e4 pl kd a b hm (by assumption) hr ho
      · replace ho := (if_neg c3).symm.trans ho
        refine J_iload_n (pc := 25) (n := 2) (i := 2) h 2 rfl rfl dX5_step_25 ?_
        refine J_iconst (pc := 26) h (2) rfl dX5_step_26 ?_
        refine J_bipush (pc := 27) h (7) rfl dX5_step_27 ?_
        refine J_cS (pc := 29) h hR (by decide) (c_X5_in _ _ _ kd 2 7 ) (by decide) m_415 m_416 m_3 m_417 hd_X5_in rfl rfl (Nat.le_of_ble_eq_true rfl) [.int (f_X5_in kd 2 7)] rfl dX5_step_29 ?_
        refine J_if_ne (pc := 32) h 41 (by decide) dX5_step_32 (fun c5 => ?_) (fun c5 => ?_)
        · replace ho := (if_neg c5).symm.trans ho
          refine J_iload_n (pc := 41) (n := 3) (i := 3) h 3 rfl rfl dX5_step_41 ?_
          refine J_iconst (pc := 42) h (0) rfl dX5_step_42 ?_
          refine J_bipush (pc := 43) h (7) rfl dX5_step_43 ?_
          refine J_cS (pc := 45) h hR (by decide) (c_X5_in _ _ _ a 0 7 ) (by decide) m_415 m_416 m_3 m_417 hd_X5_in rfl rfl (Nat.le_of_ble_eq_true rfl) [.int (f_X5_in a 0 7)] rfl dX5_step_45 ?_
          refine J_if_eq (pc := 48) h 83 (by decide) dX5_step_48 (fun c6 => ?_) (fun c6 => ?_)
          · replace ho := (if_pos c6).symm.trans ho
            refine J_iconst (pc := 83) h (-1) rfl dX5_step_83 ?_
            exact J_iret (pc := 84) h hr (by subst ho; exact ⟨rfl, rfl⟩) dX5_step_84
          · replace ho := (if_neg c6).symm.trans ho
            exact jn_X5_step_51 h hR (by decide) e4 pl kd a b hm (by assumption) hr ho
        · replace ho := (if_pos c5).symm.trans ho
          refine J_iload_n (pc := 35) (n := 2) (i := 2) h 2 rfl rfl dX5_step_35 ?_
          refine J_bipush (pc := 36) h (13) rfl dX5_step_36 ?_
          refine J_icmp_ne (pc := 38) h 51 (by decide) dX5_step_38 (fun c7 => ?_) (fun c7 => ?_)
          · replace ho := (if_neg c7).symm.trans ho
            exact jn_X5_step_51 h hR (by decide) e4 pl kd a b hm (by assumption) hr ho
          · replace ho := (if_pos c7).symm.trans ho
            refine J_iload_n (pc := 41) (n := 3) (i := 3) h 3 rfl rfl dX5_step_41 ?_
            refine J_iconst (pc := 42) h (0) rfl dX5_step_42 ?_
            refine J_bipush (pc := 43) h (7) rfl dX5_step_43 ?_
            refine J_cS (pc := 45) h hR (by decide) (c_X5_in _ _ _ a 0 7 ) (by decide) m_415 m_416 m_3 m_417 hd_X5_in rfl rfl (Nat.le_of_ble_eq_true rfl) [.int (f_X5_in a 0 7)] rfl dX5_step_45 ?_
            refine J_if_eq (pc := 48) h 83 (by decide) dX5_step_48 (fun c8 => ?_) (fun c8 => ?_)
            · replace ho := (if_pos c8).symm.trans ho
              refine J_iconst (pc := 83) h (-1) rfl dX5_step_83 ?_
              exact J_iret (pc := 84) h hr (by subst ho; exact ⟨rfl, rfl⟩) dX5_step_84
            · replace ho := (if_neg c8).symm.trans ho
              exact jn_X5_step_51 h hR (by decide) e4 pl kd a b hm (by assumption) hr ho
    · replace ho := (if_pos c2).symm.trans ho
      refine J_iconst (pc := 19) h (-1) rfl dX5_step_19 ?_
      exact J_iret (pc := 20) h hr (by subst ho; exact ⟨rfl, rfl⟩) dX5_step_20
end
section
/-- the reference's stack of B blocks: who was entered is there; the trace's length -/
def SV (B : Nat) (σ : Sg) : Prop := σ 0 20 = nI B ∧ B ≤ 80 ∧ (∀ k, k < B → σ 13 k = 1 → vp_in (σ 17 k) 4200) ∧ (¬ σ 0 18 < 0 ∧ σ 0 18 ≤ 120)
theorem SV.of {B : Nat} {σ σ' : Sg} (h : SV B σ) (e0 : σ' 0 20 = σ 0 20) (e1 : σ' 0 18 = σ 0 18) (e2 : σ' 13 = σ 13) (e3 : σ' 17 = σ 17) : SV B σ' := by
  unfold SV
  rw [e0, e1, e2, e3]
  exact h
theorem SV.pos {B : Nat} {σ : Sg} (h : SV B σ) (c : ¬ σ 0 20 ≤ 0) : 0 < B := by
  rcases Nat.eq_zero_or_pos B with rfl | hp
  · exact absurd (by rw [h.1]; decide) c
  · exact hp
theorem SV.m1 {B : Nat} {σ : Sg} (h : SV (B + 1) σ) : (σ 0 20) - 1 = nI B := by rw [h.1, nI_pred]
theorem SV.vin {B : Nat} {σ : Sg} (h : SV (B + 1) σ) : vp_in ((σ 0 20) - 1) 80 := by
  rw [h.m1]
  exact vp_in_nI (by have := h.2.1; omega) (by decide)
theorem SV.nat {B : Nat} {σ : Sg} (h : SV (B + 1) σ) : ((σ 0 20) - 1).toNatClampNeg = B := by
  rw [h.m1, nI_clamp (by have := h.2.1; omega)]
theorem SV.ab {B : Nat} {σ : Sg} (h : SV (B + 1) σ) : σ 13 ((σ 0 20) - 1).toNatClampNeg = 1 → vp_in (σ 17 ((σ 0 20) - 1).toNatClampNeg) 4200 := by
  rw [h.nat]
  exact h.2.2.1 B (by omega)
theorem SV.t {B : Nat} {σ : Sg} (h : SV B σ) : ¬ σ 0 18 < 0 := h.2.2.2.1
theorem lv_rows {a : Int32} {σ : Sg} {k : Nat} (h0 : k ≠ 0) (h12 : k ≠ 12) : f_X5_leave a σ k = σ k := by
  unfold f_X5_leave
  split
  · rfl
  · funext j
    rw [up2_off _ _ h0, up2_off _ _ h12]
theorem lv_0 {a : Int32} {σ : Sg} {i : Nat} (h : i ≠ 18) : f_X5_leave a σ 0 i = σ 0 i := by
  unfold f_X5_leave
  split
  · rfl
  · rw [up2_row _ _ _ h, up2_off _ _ (by decide)]
theorem lv_t {a : Int32} {σ : Sg} (h : ¬ σ 0 18 < 0 ∧ σ 0 18 ≤ 120) : ¬ f_X5_leave a σ 0 18 < 0 ∧ f_X5_leave a σ 0 18 ≤ 120 := by
  unfold f_X5_leave
  by_cases c : (120 : Int32) ≤ σ 0 18
  · rw [if_pos c]; exact h
  · rw [if_neg c, up2_self]
    obtain ⟨t0, t1⟩ := h
    rw [i_lt, ti0] at t0
    rw [i_le, show (120 : Int32).toInt = 120 from rfl] at c
    have e := toInt_succ (i := σ 0 18) (by omega) (by omega)
    rw [i_lt, i_le, e, ti0, show (120 : Int32).toInt = 120 from rfl]
    omega
theorem SV.leave {B : Nat} {σ : Sg} (h : SV B σ) (a : Int32) : SV B (f_X5_leave a σ) := by
  refine ⟨by rw [lv_0 (by decide)]; exact h.1, h.2.1, ?_, lv_t h.2.2.2⟩
  rw [lv_rows (by decide) (by decide), lv_rows (by decide) (by decide)]
  exact h.2.2.1
theorem SV.popd {B : Nat} {σ : Sg} (h : SV (B + 1) σ) : SV B (f_X5_pop σ) := by
  have h1 : SV B (up2 σ 0 20 ((σ 0 20) - 1)) := by
    refine ⟨by rw [up2_self]; exact h.m1, by have := h.2.1; omega, fun k hk => ?_, ?_⟩
    · rw [up2_off _ _ (by decide), up2_off _ _ (by decide)]; exact h.2.2.1 k (by omega)
    · rw [up2_row _ _ _ (by decide)]; exact h.2.2.2
  unfold f_X5_pop
  by_cases c1 : σ 13 (((σ 0 20) - 1).toNatClampNeg) = 1
  · rw [if_pos c1]
    exact SV.leave (h1.of (up2_off _ _ (by decide)) (up2_off _ _ (by decide)) (by funext j; exact up2_off _ _ (by decide)) (by funext j; exact up2_off _ _ (by decide))) 2
  · rw [if_neg c1]
    by_cases c2 : σ 13 (((σ 0 20) - 1).toNatClampNeg) = 0
    · rw [if_pos c2]
      exact h1.of (up2_row _ _ _ (by decide)) (up2_row _ _ _ (by decide)) (by funext j; exact up2_off _ _ (by decide)) (by funext j; exact up2_off _ _ (by decide))
    · rw [if_neg c2]; exact h1
theorem pop_13 {B : Nat} {σ : Sg} (h : SV (B + 1) σ) : f_X5_pop σ 13 = σ 13 := by
  unfold f_X5_pop
  split
  · rw [lv_rows (by decide) (by decide)]; funext j; rw [up2_off _ _ (by decide), up2_off _ _ (by decide)]
  · split
    · funext j; rw [up2_off _ _ (by decide), up2_off _ _ (by decide)]
    · funext j; rw [up2_off _ _ (by decide)]
theorem back_pos {B : Nat} {σ : Sg} (hsv : SV (B + 1) σ) (h0 : σ 13 0 = 0) (c : ¬ σ 13 ((σ 0 20) - 1).toNatClampNeg = 0) : 0 < B := by
  rcases Nat.eq_zero_or_pos B with q | q
  · subst q
    rw [hsv.nat] at c
    exact absurd h0 c
  · exact q
def lf_X5_fails : Nat → Int32 → Sg → Sg
  | 0, _, σ => σ
  | m + 1, f, σ => (if σ 0 20 ≤ 0 then (up2 σ 0 14 f) else (if σ 13 (((σ 0 20) - 1).toNatClampNeg) = 2 then (if f = 40 then (lf_X5_fails m f (f_X5_pop σ)) else (if σ 17 (((σ 0 20) - 1).toNatClampNeg) = 0 then (up2 (f_X5_pop σ) 0 12 f) else (if σ 17 (((σ 0 20) - 1).toNatClampNeg) = f then (up2 (f_X5_pop σ) 0 12 f) else (lf_X5_fails m f (f_X5_pop σ))))) else (lf_X5_fails m f (f_X5_pop σ))))
set_option maxHeartbeats 4000000 in
theorem lp_X5_fails {x : Cx} {ad : Nat → Nat} {f : Int32} {L : Nat} (hL : 2 ≤ L) (h : Ok x cX5_fails "SafeDeskModel" none) (hR : RmOk x L 0 0) (e4 : xN x = 3) {out : Sg} (hr : Rt x 0 0 (Det none (wM (xG x) ad out))) : ∀ (m B0 : Nat) (σ : Sg), m = B0 + 1 → SV B0 σ → lf_X5_fails m f σ = out → J x 0 0 (wM (xG x) ad σ) 0 [(0, .ref (ad 0)), (1, .int f)] [] := by
  intro m
  induction m with
  | zero => intro B0 σ hm hsv0 ho; omega
  | succ m ih =>
    intro B0 σ hm hsv0 ho
    unfold lf_X5_fails at ho
    refine J_aload_n (pc := 0) (n := 0) (i := 0) h 0 rfl rfl dX5_fails_0 ?_
    refine J_Mg20 (pc := 1) h m_352 (σ 0 20) rfl dX5_fails_1 ?_
    refine J_if_le (pc := 4) h 80 (by decide) dX5_fails_4 (fun c1 => ?_) (fun c1 => ?_)
    · replace ho := (if_pos c1).symm.trans ho
      refine J_aload_n (pc := 80) (n := 0) (i := 0) h 0 rfl rfl dX5_fails_80 ?_
      refine J_iload_n (pc := 81) (n := 1) (i := 1) h 1 rfl rfl dX5_fails_81 ?_
      refine J_Mp14 (pc := 82) h m_346 dX5_fails_82 ?_
      exact J_vret (pc := 85) h hr (by subst ho; exact ⟨rfl, rfl⟩) dX5_fails_85
    · replace ho := (if_neg c1).symm.trans ho
      obtain ⟨B, rfl⟩ : ∃ b, B0 = b + 1 := ⟨B0 - 1, by have := hsv0.pos c1; omega⟩
      have hsv := hsv0
      refine J_aload_n (pc := 7) (n := 0) (i := 0) h 0 rfl rfl dX5_fails_7 ?_
      refine J_Mr21 (pc := 8) h m_353 dX5_fails_8 ?_
      refine J_aload_n (pc := 11) (n := 0) (i := 0) h 0 rfl rfl dX5_fails_11 ?_
      refine J_Mg20 (pc := 12) h m_352 (σ 0 20) rfl dX5_fails_12 ?_
      refine J_iconst (pc := 15) h (1) rfl dX5_fails_15 ?_
      refine J_isub (pc := 16) h dX5_fails_16 ?_
      refine J_Ma (pc := 17) h 13 80 ⟨by decide, by decide⟩ rfl hsv.vin (σ 13 (((σ 0 20) - 1).toNatClampNeg)) rfl dX5_fails_17 ?_
      refine J_iconst (pc := 18) h (2) rfl dX5_fails_18 ?_
      refine J_icmp_ne (pc := 19) h 61 (by decide) dX5_fails_19 (fun c2 => ?_) (fun c2 => ?_)
      · replace ho := (if_neg c2).symm.trans ho
        refine J_iconst (pc := 61) h (0) rfl dX5_fails_61 ?_
        refine J_istore_n (pc := 62) (n := 2) (i := 2) h [(2, .int 0), (0, .ref (ad 0)), (1, .int f)] rfl (by rw [e4]; decide) rfl dX5_fails_62 ?_
        refine J_aload_n (pc := 63) (n := 0) (i := 0) h 1 rfl rfl dX5_fails_63 ?_
        refine J_cM (pc := 64) h hR (by omega) (c_X5_pop _ _ _ σ  hsv.vin hsv.ab hsv.t) (by decide) m_447 m_449 ms_15 m_450 ⟨rfl, hd_X5_pop⟩ rfl rfl (Nat.le_of_ble_eq_true rfl) [] rfl dX5_fails_64 ?_
        refine J_iload_n (pc := 67) (n := 2) (i := 2) h 0 rfl rfl dX5_fails_67 ?_
        refine J_if_eq (pc := 68) h 77 (by decide) dX5_fails_68 (fun c3 => ?_) (fun c3 => ?_)
        · skip
          refine J_goto (pc := 77) h 0 (by decide) dX5_fails_77 ?_
          refine J_sub [(0, .ref (ad 0)), (1, .int f)] [1, 2] rfl ?_
          exact ih B (f_X5_pop σ) (by omega) hsv.popd ho
        · exact absurd rfl c3
      · replace ho := (if_pos c2).symm.trans ho
        refine J_iload_n (pc := 22) (n := 1) (i := 1) h 1 rfl rfl dX5_fails_22 ?_
        refine J_bipush (pc := 23) h (40) rfl dX5_fails_23 ?_
        refine J_icmp_eq (pc := 25) h 61 (by decide) dX5_fails_25 (fun c4 => ?_) (fun c4 => ?_)
        · replace ho := (if_pos c4).symm.trans ho
          refine J_iconst (pc := 61) h (0) rfl dX5_fails_61 ?_
          refine J_istore_n (pc := 62) (n := 2) (i := 2) h [(2, .int 0), (0, .ref (ad 0)), (1, .int f)] rfl (by rw [e4]; decide) rfl dX5_fails_62 ?_
          refine J_aload_n (pc := 63) (n := 0) (i := 0) h 1 rfl rfl dX5_fails_63 ?_
          refine J_cM (pc := 64) h hR (by omega) (c_X5_pop _ _ _ σ  hsv.vin hsv.ab hsv.t) (by decide) m_447 m_449 ms_15 m_450 ⟨rfl, hd_X5_pop⟩ rfl rfl (Nat.le_of_ble_eq_true rfl) [] rfl dX5_fails_64 ?_
          refine J_iload_n (pc := 67) (n := 2) (i := 2) h 0 rfl rfl dX5_fails_67 ?_
          refine J_if_eq (pc := 68) h 77 (by decide) dX5_fails_68 (fun c5 => ?_) (fun c5 => ?_)
          · skip
            refine J_goto (pc := 77) h 0 (by decide) dX5_fails_77 ?_
            refine J_sub [(0, .ref (ad 0)), (1, .int f)] [1, 2] rfl ?_
            exact ih B (f_X5_pop σ) (by omega) hsv.popd ho
          · exact absurd rfl c5
        · replace ho := (if_neg c4).symm.trans ho
          refine J_aload_n (pc := 28) (n := 0) (i := 0) h 0 rfl rfl dX5_fails_28 ?_
          refine J_Mr25 (pc := 29) h m_357 dX5_fails_29 ?_
          refine J_aload_n (pc := 32) (n := 0) (i := 0) h 0 rfl rfl dX5_fails_32 ?_
          refine J_Mg20 (pc := 33) h m_352 (σ 0 20) rfl dX5_fails_33 ?_
          refine J_iconst (pc := 36) h (1) rfl dX5_fails_36 ?_
          refine J_isub (pc := 37) h dX5_fails_37 ?_
          refine J_Ma (pc := 38) h 17 80 ⟨by decide, by decide⟩ rfl hsv.vin (σ 17 (((σ 0 20) - 1).toNatClampNeg)) rfl dX5_fails_38 ?_
          refine J_if_eq (pc := 39) h 57 (by decide) dX5_fails_39 (fun c6 => ?_) (fun c6 => ?_)
          · replace ho := (if_pos c6).symm.trans ho
            refine J_iconst (pc := 57) h (1) rfl dX5_fails_57 ?_
            refine J_goto (pc := 58) h 62 (by decide) dX5_fails_58 ?_
            refine J_istore_n (pc := 62) (n := 2) (i := 2) h [(2, .int 1), (0, .ref (ad 0)), (1, .int f)] rfl (by rw [e4]; decide) rfl dX5_fails_62 ?_
            refine J_aload_n (pc := 63) (n := 0) (i := 0) h 1 rfl rfl dX5_fails_63 ?_
            refine J_cM (pc := 64) h hR (by omega) (c_X5_pop _ _ _ σ  hsv.vin hsv.ab hsv.t) (by decide) m_447 m_449 ms_15 m_450 ⟨rfl, hd_X5_pop⟩ rfl rfl (Nat.le_of_ble_eq_true rfl) [] rfl dX5_fails_64 ?_
            refine J_iload_n (pc := 67) (n := 2) (i := 2) h 0 rfl rfl dX5_fails_67 ?_
            refine J_if_eq (pc := 68) h 77 (by decide) dX5_fails_68 (fun c7 => ?_) (fun c7 => ?_)
            · exact absurd c7 (by decide)
            · skip
              refine J_aload_n (pc := 71) (n := 0) (i := 0) h 1 rfl rfl dX5_fails_71 ?_
              refine J_iload_n (pc := 72) (n := 1) (i := 1) h 2 rfl rfl dX5_fails_72 ?_
              refine J_Mp12 (pc := 73) h m_344 dX5_fails_73 ?_
              exact J_vret (pc := 76) h hr (by subst ho; exact ⟨rfl, rfl⟩) dX5_fails_76
          · replace ho := (if_neg c6).symm.trans ho
            refine J_aload_n (pc := 42) (n := 0) (i := 0) h 0 rfl rfl dX5_fails_42 ?_
            refine J_Mr25 (pc := 43) h m_357 dX5_fails_43 ?_
            refine J_aload_n (pc := 46) (n := 0) (i := 0) h 0 rfl rfl dX5_fails_46 ?_
            refine J_Mg20 (pc := 47) h m_352 (σ 0 20) rfl dX5_fails_47 ?_
            refine J_iconst (pc := 50) h (1) rfl dX5_fails_50 ?_
            refine J_isub (pc := 51) h dX5_fails_51 ?_
            refine J_Ma (pc := 52) h 17 80 ⟨by decide, by decide⟩ rfl hsv.vin (σ 17 (((σ 0 20) - 1).toNatClampNeg)) rfl dX5_fails_52 ?_
            refine J_iload_n (pc := 53) (n := 1) (i := 1) h 1 rfl rfl dX5_fails_53 ?_
            refine J_icmp_ne (pc := 54) h 61 (by decide) dX5_fails_54 (fun c8 => ?_) (fun c8 => ?_)
            · replace ho := (if_neg c8).symm.trans ho
              refine J_iconst (pc := 61) h (0) rfl dX5_fails_61 ?_
              refine J_istore_n (pc := 62) (n := 2) (i := 2) h [(2, .int 0), (0, .ref (ad 0)), (1, .int f)] rfl (by rw [e4]; decide) rfl dX5_fails_62 ?_
              refine J_aload_n (pc := 63) (n := 0) (i := 0) h 1 rfl rfl dX5_fails_63 ?_
              refine J_cM (pc := 64) h hR (by omega) (c_X5_pop _ _ _ σ  hsv.vin hsv.ab hsv.t) (by decide) m_447 m_449 ms_15 m_450 ⟨rfl, hd_X5_pop⟩ rfl rfl (Nat.le_of_ble_eq_true rfl) [] rfl dX5_fails_64 ?_
              refine J_iload_n (pc := 67) (n := 2) (i := 2) h 0 rfl rfl dX5_fails_67 ?_
              refine J_if_eq (pc := 68) h 77 (by decide) dX5_fails_68 (fun c9 => ?_) (fun c9 => ?_)
              · skip
                refine J_goto (pc := 77) h 0 (by decide) dX5_fails_77 ?_
                refine J_sub [(0, .ref (ad 0)), (1, .int f)] [1, 2] rfl ?_
                exact ih B (f_X5_pop σ) (by omega) hsv.popd ho
              · exact absurd rfl c9
            · replace ho := (if_pos c8).symm.trans ho
              refine J_iconst (pc := 57) h (1) rfl dX5_fails_57 ?_
              refine J_goto (pc := 58) h 62 (by decide) dX5_fails_58 ?_
              refine J_istore_n (pc := 62) (n := 2) (i := 2) h [(2, .int 1), (0, .ref (ad 0)), (1, .int f)] rfl (by rw [e4]; decide) rfl dX5_fails_62 ?_
              refine J_aload_n (pc := 63) (n := 0) (i := 0) h 1 rfl rfl dX5_fails_63 ?_
              refine J_cM (pc := 64) h hR (by omega) (c_X5_pop _ _ _ σ  hsv.vin hsv.ab hsv.t) (by decide) m_447 m_449 ms_15 m_450 ⟨rfl, hd_X5_pop⟩ rfl rfl (Nat.le_of_ble_eq_true rfl) [] rfl dX5_fails_64 ?_
              refine J_iload_n (pc := 67) (n := 2) (i := 2) h 0 rfl rfl dX5_fails_67 ?_
              refine J_if_eq (pc := 68) h 77 (by decide) dX5_fails_68 (fun c10 => ?_) (fun c10 => ?_)
              · exact absurd c10 (by decide)
              · skip
                refine J_aload_n (pc := 71) (n := 0) (i := 0) h 1 rfl rfl dX5_fails_71 ?_
                refine J_iload_n (pc := 72) (n := 1) (i := 1) h 2 rfl rfl dX5_fails_72 ?_
                refine J_Mp12 (pc := 73) h m_344 dX5_fails_73 ?_
                exact J_vret (pc := 76) h hr (by subst ho; exact ⟨rfl, rfl⟩) dX5_fails_76
def f_X5_fails (f : Int32) (σ : Sg) : Sg := lf_X5_fails ((σ 0 20).toNatClampNeg + 1) f σ
theorem hd_X5_fails : yX5_fails.cls ≠ "java/lang/invoke/MethodHandle" ∧ yX5_fails.cls ≠ "java/lang/invoke/VarHandle" ∧ (parseMethodDescriptor yX5_fails.desc).map (fun d => d.parameters.length) = some 1 := by decide +kernel
theorem c_X5_fails (l : Launch) (g : Gy) (ad : Nat → Nat) (σ : Sg) (f : Int32) (B : Nat) (hsv : SV B σ) : Con l g yX5_fails cX5_fails 3 none (rmL 2) [.ref (ad 0), .int f] (wM g ad σ) (Det none (wM g ad (f_X5_fails f σ))) := by
  refine Con.of (by decide) (Nat.le_of_ble_eq_true rfl) ?_
  intro x h e1 e2 e3 e4 e5 hr
  subst e1 e2
  have h : Ok x cX5_fails "SafeDeskModel" none := h
  have hR : RmOk x 2 0 0 := RmOk.of e3 (Nat.le_refl _) (Nat.le_refl _)
  show J x 0 0 _ 0 [(0, .ref (ad 0)), (1, .int f)] []
  exact lp_X5_fails (by decide) h hR e4 hr ((σ 0 20).toNatClampNeg + 1) B σ (by rw [hsv.1, nI_clamp (by have := hsv.2.1; omega)]) hsv rfl
def lf_X5_back : Nat → Sg → Sg
  | 0, σ => σ
  | m + 1, σ => (if σ 13 (((σ 0 20) - 1).toNatClampNeg) = 0 then (f_X5_pop σ) else (lf_X5_back m (f_X5_pop σ)))
set_option maxHeartbeats 4000000 in
theorem lp_X5_back {x : Cx} {ad : Nat → Nat} {v : Int32} {L : Nat} (hL : 2 ≤ L) (h : Ok x cX5_back "SafeDeskModel" none) (hR : RmOk x L 0 0) {out : Sg} (hr : Rt x 0 0 (Det none (wM (xG x) ad out))) : ∀ (m B : Nat) (σ : Sg), m = B + 1 → SV (B + 1) σ → σ 13 0 = 0 → lf_X5_back m σ = out → J x 0 0 (wM (xG x) ad σ) 5 [(0, .ref (ad 0)), (1, .int v)] [] := by
  intro m
  induction m with
  | zero => intro B σ hm hsv h0 ho; omega
  | succ m ih =>
    intro B σ hm hsv h0 ho
    unfold lf_X5_back at ho
    refine J_aload_n (pc := 5) (n := 0) (i := 0) h 0 rfl rfl dX5_back_5 ?_
    refine J_Mr21 (pc := 6) h m_353 dX5_back_6 ?_
    refine J_aload_n (pc := 9) (n := 0) (i := 0) h 0 rfl rfl dX5_back_9 ?_
    refine J_Mg20 (pc := 10) h m_352 (σ 0 20) rfl dX5_back_10 ?_
    refine J_iconst (pc := 13) h (1) rfl dX5_back_13 ?_
    refine J_isub (pc := 14) h dX5_back_14 ?_
    refine J_Ma (pc := 15) h 13 80 ⟨by decide, by decide⟩ rfl hsv.vin (σ 13 (((σ 0 20) - 1).toNatClampNeg)) rfl dX5_back_15 ?_
    refine J_if_eq (pc := 16) h 26 (by decide) dX5_back_16 (fun c1 => ?_) (fun c1 => ?_)
    · replace ho := (if_pos c1).symm.trans ho
      refine J_aload_n (pc := 26) (n := 0) (i := 0) h 0 rfl rfl dX5_back_26 ?_
      refine J_cM (pc := 27) h hR (by omega) (c_X5_pop _ _ _ σ  hsv.vin hsv.ab hsv.t) (by decide) m_447 m_449 ms_15 m_450 ⟨rfl, hd_X5_pop⟩ rfl rfl (Nat.le_of_ble_eq_true rfl) [] rfl dX5_back_27 ?_
      exact J_vret (pc := 30) h hr (by subst ho; exact ⟨rfl, rfl⟩) dX5_back_30
    · replace ho := (if_neg c1).symm.trans ho
      refine J_aload_n (pc := 19) (n := 0) (i := 0) h 0 rfl rfl dX5_back_19 ?_
      refine J_cM (pc := 20) h hR (by omega) (c_X5_pop _ _ _ σ  hsv.vin hsv.ab hsv.t) (by decide) m_447 m_449 ms_15 m_450 ⟨rfl, hd_X5_pop⟩ rfl rfl (Nat.le_of_ble_eq_true rfl) [] rfl dX5_back_20 ?_
      refine J_goto (pc := 23) h 5 (by decide) dX5_back_23 ?_
      obtain ⟨B2, rfl⟩ : ∃ b, B = b + 1 := ⟨B - 1, by have := back_pos hsv h0 c1; omega⟩
      exact ih B2 (f_X5_pop σ) (by omega) hsv.popd (by rw [pop_13 hsv]; exact h0) ho
def f_X5_back (v : Int32) (σ : Sg) : Sg := (lf_X5_back (σ 0 20).toNatClampNeg (up2 σ 0 12 v))
theorem hd_X5_back : yX5_back.cls ≠ "java/lang/invoke/MethodHandle" ∧ yX5_back.cls ≠ "java/lang/invoke/VarHandle" ∧ (parseMethodDescriptor yX5_back.desc).map (fun d => d.parameters.length) = some 1 := by decide +kernel
set_option maxHeartbeats 4000000 in
set_option maxRecDepth 20000 in
theorem c_X5_back (l : Launch) (g : Gy) (ad : Nat → Nat) (σ : Sg) (v : Int32) (B : Nat) (hsv : SV (B + 1) σ) (h0 : σ 13 0 = 0) : Con l g yX5_back cX5_back 2 none (rmL 2) [.ref (ad 0), .int v] (wM g ad σ) (Det none (wM g ad (f_X5_back v σ))) := by
  refine Con.of (by decide) (Nat.le_of_ble_eq_true rfl) ?_
  intro x h e1 e2 e3 e4 e5 hr
  subst e1 e2
  have h : Ok x cX5_back "SafeDeskModel" none := h
  have hR : RmOk x 2 0 0 := RmOk.of e3 (Nat.le_refl _) (Nat.le_refl _)
  obtain ⟨out, ho⟩ : ∃ o, f_X5_back v σ = o := ⟨_, rfl⟩
  rw [ho] at hr
  unfold f_X5_back at ho
  show J x 0 0 _ 0 [(0, .ref (ad 0)), (1, .int v)] []
  refine J_aload_n (pc := 0) (n := 0) (i := 0) h 0 rfl rfl dX5_back_0 ?_
  refine J_iload_n (pc := 1) (n := 1) (i := 1) h 1 rfl rfl dX5_back_1 ?_
  refine J_Mp12 (pc := 2) h m_344 dX5_back_2 ?_
  have hsv2 : SV (B + 1) (up2 σ 0 12 v) := hsv.of (up2_row _ _ _ (by decide)) (up2_row _ _ _ (by decide)) (by funext j; exact up2_off _ _ (by decide)) (by funext j; exact up2_off _ _ (by decide))
  exact lp_X5_back (by decide) h hR hr (σ 0 20).toNatClampNeg B (up2 σ 0 12 v) (by rw [hsv.1, nI_clamp (by have := hsv.2.1; omega)]) hsv2 (by rw [up2_off _ _ (by decide)]; exact h0) ho
theorem fr5_enter {s : Int32} {σ : Sg} {k : Nat} (h : k ≠ 4 ∧ k ≠ 5 ∧ k ≠ 6) : f_X5_enter s σ k = σ k := by
  unfold f_X5_enter
  split <;> (funext j; simp only [up2_off _ _ h.1, up2_off _ _ h.2.1, up2_off _ _ h.2.2])
theorem ltk {k N : Nat} {b : Int32} (hb : b.toInt ≤ N) (hk : k < 2 ^ 31) (h : ¬ b < nI k) : k ≤ N := by
  rw [i_lt, nI_toInt hk] at h
  omega
def lf_X5_worth : Nat → Nat → Int32 → Sg → Int32 × Sg
  | 0, _, _, σ => (0, σ)
  | m + 1, k, s, σ => (if σ 1 s.toNatClampNeg < nI k then (if σ 1 s.toNatClampNeg ≤ 0 then (if σ 1 s.toNatClampNeg = 2 then (2 * (σ 2 s.toNatClampNeg), up2 σ 5 s.toNatClampNeg ((σ 5 s.toNatClampNeg) - ((σ 1 s.toNatClampNeg) + 1))) else (σ 2 s.toNatClampNeg, up2 σ 5 s.toNatClampNeg ((σ 5 s.toNatClampNeg) - ((σ 1 s.toNatClampNeg) + 1)))) else (if σ 1 s.toNatClampNeg = 2 then (2 * ((σ 2 s.toNatClampNeg) + (σ 3 s.toNatClampNeg)), up2 σ 5 s.toNatClampNeg ((σ 5 s.toNatClampNeg) - ((σ 1 s.toNatClampNeg) + 1))) else ((σ 2 s.toNatClampNeg) + (σ 3 s.toNatClampNeg), up2 σ 5 s.toNatClampNeg ((σ 5 s.toNatClampNeg) - ((σ 1 s.toNatClampNeg) + 1))))) else (lf_X5_worth m (k + 1) s (f_X5_enter s σ)))
set_option maxHeartbeats 4000000 in
theorem lp_X5_worth {x : Cx} {ad : Nat → Nat} {s : Int32} {L : Nat} (hL : 1 ≤ L) (hs : vp_in s 4200) (h : Ok x cX5_worth "SafeDeskModel" (some .int)) (hR : RmOk x L 0 0) (e4 : xN x = 3) {out : Int32 × Sg} (hr : Rt x 0 0 (Det (some (.int out.1)) (wM (xG x) ad out.2))) : ∀ (m k : Nat) (σ : Sg), (∀ i : Nat, (σ 1 i).toInt ≤ 2) → k ≤ 3 → k + m = 4 → lf_X5_worth m k s σ = out → J x 0 0 (wM (xG x) ad σ) 2 [(2, .int (nI k)), (0, .ref (ad 0)), (1, .int s)] [] := by
  intro m
  induction m with
  | zero => intro k σ hk hk3 hm ho; omega
  | succ m ih =>
    intro k σ hk hk3 hm ho
    unfold lf_X5_worth at ho
    refine J_iload_n (pc := 2) (n := 2) (i := 2) h 0 rfl rfl dX5_worth_2 ?_
    refine J_aload_n (pc := 3) (n := 0) (i := 0) h 1 rfl rfl dX5_worth_3 ?_
    refine J_Mr1 (pc := 4) h m_333 dX5_worth_4 ?_
    refine J_iload_n (pc := 7) (n := 1) (i := 1) h 2 rfl rfl dX5_worth_7 ?_
    refine J_Ma (pc := 8) h 1 4200 ⟨by decide, by decide⟩ rfl hs (σ 1 s.toNatClampNeg) rfl dX5_worth_8 ?_
    refine J_icmp_gt (pc := 9) h 23 (by decide) dX5_worth_9 (fun c1 => ?_) (fun c1 => ?_)
    · replace ho := (if_pos c1).symm.trans ho
      refine J_aload_n (pc := 23) (n := 0) (i := 0) h 1 rfl rfl dX5_worth_23 ?_
      refine J_Mr5 (pc := 24) h m_337 dX5_worth_24 ?_
      refine J_iload_n (pc := 27) (n := 1) (i := 1) h 2 rfl rfl dX5_worth_27 ?_
      refine J_dup2 (pc := 28) h rfl rfl dX5_worth_28 ?_
      refine J_Ma (pc := 29) h 5 4200 ⟨by decide, by decide⟩ rfl hs (σ 5 s.toNatClampNeg) rfl dX5_worth_29 ?_
      refine J_aload_n (pc := 30) (n := 0) (i := 0) h 1 rfl rfl dX5_worth_30 ?_
      refine J_Mr1 (pc := 31) h m_333 dX5_worth_31 ?_
      refine J_iload_n (pc := 34) (n := 1) (i := 1) h 2 rfl rfl dX5_worth_34 ?_
      refine J_Ma (pc := 35) h 1 4200 ⟨by decide, by decide⟩ rfl hs (σ 1 s.toNatClampNeg) rfl dX5_worth_35 ?_
      refine J_iconst (pc := 36) h (1) rfl dX5_worth_36 ?_
      refine J_iadd (pc := 37) h dX5_worth_37 ?_
      refine J_isub (pc := 38) h dX5_worth_38 ?_
      refine J_Ms (pc := 39) h 5 4200 ⟨by decide, by decide⟩ rfl hs dX5_worth_39 ?_
      refine J_aload_n (pc := 40) (n := 0) (i := 0) h 1 rfl rfl dX5_worth_40 ?_
      refine J_Mr1 (pc := 41) h m_333 dX5_worth_41 ?_
      refine J_iload_n (pc := 44) (n := 1) (i := 1) h 2 rfl rfl dX5_worth_44 ?_
      refine J_Ma (pc := 45) h 1 4200 ⟨by decide, by decide⟩ rfl hs (σ 1 s.toNatClampNeg) (up2_off _ _ (by decide)) dX5_worth_45 ?_
      refine J_if_le (pc := 46) h 65 (by decide) dX5_worth_46 (fun c2 => ?_) (fun c2 => ?_)
      · replace ho := (if_pos c2).symm.trans ho
        refine J_aload_n (pc := 65) (n := 0) (i := 0) h 1 rfl rfl dX5_worth_65 ?_
        refine J_Mr2 (pc := 66) h m_334 dX5_worth_66 ?_
        refine J_iload_n (pc := 69) (n := 1) (i := 1) h 2 rfl rfl dX5_worth_69 ?_
        refine J_Ma (pc := 70) h 2 4200 ⟨by decide, by decide⟩ rfl hs (σ 2 s.toNatClampNeg) (up2_off _ _ (by decide)) dX5_worth_70 ?_
        refine J_istore_n (pc := 71) (n := 2) (i := 2) h [(2, .int (σ 2 s.toNatClampNeg)), (0, .ref (ad 0)), (1, .int s)] rfl (by rw [e4]; decide) rfl dX5_worth_71 ?_
        refine J_aload_n (pc := 72) (n := 0) (i := 0) h 1 rfl rfl dX5_worth_72 ?_
        refine J_Mr1 (pc := 73) h m_333 dX5_worth_73 ?_
        refine J_iload_n (pc := 76) (n := 1) (i := 1) h 2 rfl rfl dX5_worth_76 ?_
        refine J_Ma (pc := 77) h 1 4200 ⟨by decide, by decide⟩ rfl hs (σ 1 s.toNatClampNeg) (up2_off _ _ (by decide)) dX5_worth_77 ?_
        refine J_iconst (pc := 78) h (2) rfl dX5_worth_78 ?_
        refine J_icmp_ne (pc := 79) h 88 (by decide) dX5_worth_79 (fun c3 => ?_) (fun c3 => ?_)
        · replace ho := (if_neg c3).symm.trans ho
          refine J_iload_n (pc := 88) (n := 2) (i := 2) h 0 rfl rfl dX5_worth_88 ?_
          exact J_iret (pc := 89) h hr (by subst ho; exact ⟨rfl, rfl⟩) dX5_worth_89
        · replace ho := (if_pos c3).symm.trans ho
          refine J_iconst (pc := 82) h (2) rfl dX5_worth_82 ?_
          refine J_iload_n (pc := 83) (n := 2) (i := 2) h 0 rfl rfl dX5_worth_83 ?_
          refine J_imul (pc := 84) h dX5_worth_84 ?_
          refine J_goto (pc := 85) h 89 (by decide) dX5_worth_85 ?_
          exact J_iret (pc := 89) h hr (by subst ho; exact ⟨rfl, rfl⟩) dX5_worth_89
      · replace ho := (if_neg c2).symm.trans ho
        refine J_aload_n (pc := 49) (n := 0) (i := 0) h 1 rfl rfl dX5_worth_49 ?_
        refine J_Mr2 (pc := 50) h m_334 dX5_worth_50 ?_
        refine J_iload_n (pc := 53) (n := 1) (i := 1) h 2 rfl rfl dX5_worth_53 ?_
        refine J_Ma (pc := 54) h 2 4200 ⟨by decide, by decide⟩ rfl hs (σ 2 s.toNatClampNeg) (up2_off _ _ (by decide)) dX5_worth_54 ?_
        refine J_aload_n (pc := 55) (n := 0) (i := 0) h 1 rfl rfl dX5_worth_55 ?_
        refine J_Mr3 (pc := 56) h m_335 dX5_worth_56 ?_
        refine J_iload_n (pc := 59) (n := 1) (i := 1) h 2 rfl rfl dX5_worth_59 ?_
        refine J_Ma (pc := 60) h 3 4200 ⟨by decide, by decide⟩ rfl hs (σ 3 s.toNatClampNeg) (up2_off _ _ (by decide)) dX5_worth_60 ?_
        refine J_iadd (pc := 61) h dX5_worth_61 ?_
        refine J_goto (pc := 62) h 71 (by decide) dX5_worth_62 ?_
        refine J_istore_n (pc := 71) (n := 2) (i := 2) h [(2, .int ((σ 2 s.toNatClampNeg) + (σ 3 s.toNatClampNeg))), (0, .ref (ad 0)), (1, .int s)] rfl (by rw [e4]; decide) rfl dX5_worth_71 ?_
        refine J_aload_n (pc := 72) (n := 0) (i := 0) h 1 rfl rfl dX5_worth_72 ?_
        refine J_Mr1 (pc := 73) h m_333 dX5_worth_73 ?_
        refine J_iload_n (pc := 76) (n := 1) (i := 1) h 2 rfl rfl dX5_worth_76 ?_
        refine J_Ma (pc := 77) h 1 4200 ⟨by decide, by decide⟩ rfl hs (σ 1 s.toNatClampNeg) (up2_off _ _ (by decide)) dX5_worth_77 ?_
        refine J_iconst (pc := 78) h (2) rfl dX5_worth_78 ?_
        refine J_icmp_ne (pc := 79) h 88 (by decide) dX5_worth_79 (fun c4 => ?_) (fun c4 => ?_)
        · replace ho := (if_neg c4).symm.trans ho
          refine J_iload_n (pc := 88) (n := 2) (i := 2) h 0 rfl rfl dX5_worth_88 ?_
          exact J_iret (pc := 89) h hr (by subst ho; exact ⟨rfl, rfl⟩) dX5_worth_89
        · replace ho := (if_pos c4).symm.trans ho
          refine J_iconst (pc := 82) h (2) rfl dX5_worth_82 ?_
          refine J_iload_n (pc := 83) (n := 2) (i := 2) h 0 rfl rfl dX5_worth_83 ?_
          refine J_imul (pc := 84) h dX5_worth_84 ?_
          refine J_goto (pc := 85) h 89 (by decide) dX5_worth_85 ?_
          exact J_iret (pc := 89) h hr (by subst ho; exact ⟨rfl, rfl⟩) dX5_worth_89
    · replace ho := (if_neg c1).symm.trans ho
      refine J_aload_n (pc := 12) (n := 0) (i := 0) h 1 rfl rfl dX5_worth_12 ?_
      refine J_iload_n (pc := 13) (n := 1) (i := 1) h 2 rfl rfl dX5_worth_13 ?_
      refine J_cM (pc := 14) h hR (by omega) (c_X5_enter _ _ _ σ s hs) (by decide) m_475 m_477 ms_22 m_478 ⟨rfl, hd_X5_enter⟩ rfl rfl (Nat.le_of_ble_eq_true rfl) [] rfl dX5_worth_14 ?_
      refine J_iinc (pc := 17) h 0 ((nI k) + 1) [(2, .int ((nI k) + 1)), (0, .ref (ad 0)), (1, .int s)] rfl rfl (by rw [e4]; decide) rfl dX5_worth_17 ?_
      refine J_goto (pc := 20) h 2 (by decide) dX5_worth_20 ?_
      have hk3 := ltk (k := k) (N := 2) (hk _) (by omega) (by assumption)
      rw [nI_1]
      exact ih (k + 1) (f_X5_enter s σ) (fun i => by rw [fr5_enter (by decide)]; exact hk i) (by omega) (by omega) ho
def f_X5_worth (s : Int32) (σ : Sg) : Int32 × Sg := (lf_X5_worth 4 0 s σ)
theorem hd_X5_worth : yX5_worth.cls ≠ "java/lang/invoke/MethodHandle" ∧ yX5_worth.cls ≠ "java/lang/invoke/VarHandle" ∧ (parseMethodDescriptor yX5_worth.desc).map (fun d => d.parameters.length) = some 1 := by decide +kernel
set_option maxHeartbeats 4000000 in
set_option maxRecDepth 20000 in
theorem c_X5_worth (l : Launch) (g : Gy) (ad : Nat → Nat) (σ : Sg) (s : Int32) (hs : vp_in s 4200) (hk : ∀ i : Nat, (σ 1 i).toInt ≤ 2) : Con l g yX5_worth cX5_worth 3 (some .int) (rmL 1) [.ref (ad 0), .int s] (wM g ad σ) (Det (some (.int (f_X5_worth s σ).1)) (wM g ad ((f_X5_worth s σ).2))) := by
  refine Con.of (by decide) (Nat.le_of_ble_eq_true rfl) ?_
  intro x h e1 e2 e3 e4 e5 hr
  subst e1 e2
  have h : Ok x cX5_worth "SafeDeskModel" (some .int) := h
  have hR : RmOk x 1 0 0 := RmOk.of e3 (Nat.le_refl _) (Nat.le_refl _)
  obtain ⟨out, ho⟩ : ∃ o, f_X5_worth s σ = o := ⟨_, rfl⟩
  rw [ho] at hr
  unfold f_X5_worth at ho
  show J x 0 0 _ 0 [(0, .ref (ad 0)), (1, .int s)] []
  refine J_iconst (pc := 0) h (0) rfl dX5_worth_0 ?_
  refine J_istore_n (pc := 1) (n := 2) (i := 2) h [(2, .int 0), (0, .ref (ad 0)), (1, .int s)] rfl (by rw [e4]; decide) rfl dX5_worth_1 ?_
  exact lp_X5_worth (by decide) hs h hR e4 hr 4 0 σ hk (by decide) (by decide) ho
def lf_X5_seek : Nat → Nat → Int32 → Sg → Sg
  | 0, _, _, σ => σ
  | m + 1, k, b, σ => (if 8 ≤ nI k then σ else (if 0 ≤ σ 0 12 then σ else (if σ 7 ((nI k).toNatClampNeg) = (-1) then (lf_X5_seek m (k + 1) b σ) else (if (f_X5_enter (σ 7 ((nI k).toNatClampNeg)) σ) 2 ((σ 7 ((nI k).toNatClampNeg)).toNatClampNeg) < b then (lf_X5_seek m (k + 1) b (up2 (up2 (f_X5_enter (σ 7 ((nI k).toNatClampNeg)) σ) 5 ((σ 7 ((nI k).toNatClampNeg)).toNatClampNeg) (((f_X5_enter (σ 7 ((nI k).toNatClampNeg)) σ) 5 ((σ 7 ((nI k).toNatClampNeg)).toNatClampNeg)) - 1)) 0 12 (-1))) else (lf_X5_seek m (k + 1) b (up2 (up2 (f_X5_enter (σ 7 ((nI k).toNatClampNeg)) σ) 5 ((σ 7 ((nI k).toNatClampNeg)).toNatClampNeg) (((f_X5_enter (σ 7 ((nI k).toNatClampNeg)) σ) 5 ((σ 7 ((nI k).toNatClampNeg)).toNatClampNeg)) - 1)) 0 12 (nI k)))))))
set_option maxHeartbeats 4000000 in
theorem lp_X5_seek {x : Cx} {ad : Nat → Nat} {a b : Int32} {L : Nat} (hL : 1 ≤ L) (h : Ok x cX5_seek "SafeDeskModel" none) (hR : RmOk x L 0 0) (e4 : xN x = 5) {out : Sg} (hr : Rt x 0 0 (Det none (wM (xG x) ad out))) : ∀ (m k : Nat) (σ : Sg), (∀ r : Nat, r < 8 → σ 7 r = -1 ∨ vp_in (σ 7 r) 4200) → k ≤ 8 → k + m = 9 → lf_X5_seek m k b σ = out → J x 0 0 (wM (xG x) ad σ) 7 [(3, .int (nI k)), (0, .ref (ad 0)), (1, .int a), (2, .int b)] [] := by
  intro m
  induction m with
  | zero => intro k σ h7 hk hm ho; omega
  | succ m ih =>
    intro k σ h7 hk hm ho
    unfold lf_X5_seek at ho
    refine J_iload_n (pc := 7) (n := 3) (i := 3) h 0 rfl rfl dX5_seek_7 ?_
    refine J_bipush (pc := 8) h (8) rfl dX5_seek_8 ?_
    refine J_icmp_ge (pc := 10) h 77 (by decide) dX5_seek_10 (fun c1 => ?_) (fun c1 => ?_)
    · replace ho := (if_pos c1).symm.trans ho
      exact J_vret (pc := 77) h hr (by subst ho; exact ⟨rfl, rfl⟩) dX5_seek_77
    · replace ho := (if_neg c1).symm.trans ho
      refine J_aload_n (pc := 13) (n := 0) (i := 0) h 1 rfl rfl dX5_seek_13 ?_
      refine J_Mg12 (pc := 14) h m_344 (σ 0 12) rfl dX5_seek_14 ?_
      refine J_if_ge (pc := 17) h 77 (by decide) dX5_seek_17 (fun c2 => ?_) (fun c2 => ?_)
      · replace ho := (if_pos c2).symm.trans ho
        exact J_vret (pc := 77) h hr (by subst ho; exact ⟨rfl, rfl⟩) dX5_seek_77
      · replace ho := (if_neg c2).symm.trans ho
        refine J_aload_n (pc := 20) (n := 0) (i := 0) h 1 rfl rfl dX5_seek_20 ?_
        refine J_Mr7 (pc := 21) h m_339 dX5_seek_21 ?_
        refine J_iload_n (pc := 24) (n := 3) (i := 3) h 0 rfl rfl dX5_seek_24 ?_
        refine J_Ma (pc := 25) h 7 8 ⟨by decide, by decide⟩ rfl (vp_in_nI (ltn (b := 8) (N := 8) rfl (by omega) (by assumption)) (by decide)) (σ 7 ((nI k).toNatClampNeg)) rfl dX5_seek_25 ?_
        refine J_istore (pc := 26) h [(4, .int (σ 7 ((nI k).toNatClampNeg))), (3, .int (nI k)), (0, .ref (ad 0)), (1, .int a), (2, .int b)] (by rw [e4]; decide) rfl dX5_seek_26 ?_
        refine J_iload (pc := 28) h 0 rfl dX5_seek_28 ?_
        refine J_iconst (pc := 30) h (-1) rfl dX5_seek_30 ?_
        refine J_icmp_eq (pc := 31) h 71 (by decide) dX5_seek_31 (fun c3 => ?_) (fun c3 => ?_)
        · replace ho := (if_pos c3).symm.trans ho
          refine J_iinc (pc := 71) h 1 ((nI k) + 1) [(3, .int ((nI k) + 1)), (4, .int (σ 7 ((nI k).toNatClampNeg))), (0, .ref (ad 0)), (1, .int a), (2, .int b)] rfl rfl (by rw [e4]; decide) rfl dX5_seek_71 ?_
          refine J_goto (pc := 74) h 7 (by decide) dX5_seek_74 ?_
          have hk8 := ltn (k := k) (b := 8) (N := 8) rfl (by omega) (by assumption)
          rw [nI_1]
          refine J_sub [(3, .int (nI (k + 1))), (0, .ref (ad 0)), (1, .int a), (2, .int b)] [0, 2, 3, 4] rfl ?_
          exact ih (k + 1) σ h7 (by omega) (by omega) ho
        · replace ho := (if_neg c3).symm.trans ho
          refine J_aload_n (pc := 34) (n := 0) (i := 0) h 2 rfl rfl dX5_seek_34 ?_
          refine J_iload (pc := 35) h 0 rfl dX5_seek_35 ?_
          refine J_cM (pc := 37) h hR (by omega) (c_X5_enter _ _ _ σ (σ 7 ((nI k).toNatClampNeg)) ((h7 _ (vp_lt (vp_in_nI (ltn (b := 8) (N := 8) rfl (by omega) (by assumption)) (by decide)))).resolve_left (by assumption))) (by decide) m_475 m_477 ms_22 m_478 ⟨rfl, hd_X5_enter⟩ rfl rfl (Nat.le_of_ble_eq_true rfl) [] rfl dX5_seek_37 ?_
          refine J_aload_n (pc := 40) (n := 0) (i := 0) h 2 rfl rfl dX5_seek_40 ?_
          refine J_Mr5 (pc := 41) h m_337 dX5_seek_41 ?_
          refine J_iload (pc := 44) h 0 rfl dX5_seek_44 ?_
          refine J_dup2 (pc := 46) h rfl rfl dX5_seek_46 ?_
          refine J_Ma (pc := 47) h 5 4200 ⟨by decide, by decide⟩ rfl ((h7 _ (vp_lt (vp_in_nI (ltn (b := 8) (N := 8) rfl (by omega) (by assumption)) (by decide)))).resolve_left (by assumption)) ((f_X5_enter (σ 7 ((nI k).toNatClampNeg)) σ) 5 ((σ 7 ((nI k).toNatClampNeg)).toNatClampNeg)) rfl dX5_seek_47 ?_
          refine J_iconst (pc := 48) h (1) rfl dX5_seek_48 ?_
          refine J_isub (pc := 49) h dX5_seek_49 ?_
          refine J_Ms (pc := 50) h 5 4200 ⟨by decide, by decide⟩ rfl ((h7 _ (vp_lt (vp_in_nI (ltn (b := 8) (N := 8) rfl (by omega) (by assumption)) (by decide)))).resolve_left (by assumption)) dX5_seek_50 ?_
          refine J_aload_n (pc := 51) (n := 0) (i := 0) h 2 rfl rfl dX5_seek_51 ?_
          refine J_aload_n (pc := 52) (n := 0) (i := 0) h 2 rfl rfl dX5_seek_52 ?_
          refine J_Mr2 (pc := 53) h m_334 dX5_seek_53 ?_
          refine J_iload (pc := 56) h 0 rfl dX5_seek_56 ?_
          refine J_Ma (pc := 58) h 2 4200 ⟨by decide, by decide⟩ rfl ((h7 _ (vp_lt (vp_in_nI (ltn (b := 8) (N := 8) rfl (by omega) (by assumption)) (by decide)))).resolve_left (by assumption)) ((f_X5_enter (σ 7 ((nI k).toNatClampNeg)) σ) 2 ((σ 7 ((nI k).toNatClampNeg)).toNatClampNeg)) (up2_off _ _ (by decide)) dX5_seek_58 ?_
          refine J_iload_n (pc := 59) (n := 2) (i := 2) h 4 rfl rfl dX5_seek_59 ?_
          refine J_icmp_lt (pc := 60) h 67 (by decide) dX5_seek_60 (fun c4 => ?_) (fun c4 => ?_)
          · replace ho := (if_pos c4).symm.trans ho
            refine J_iconst (pc := 67) h (-1) rfl dX5_seek_67 ?_
            refine J_Mp12 (pc := 68) h m_344 dX5_seek_68 ?_
            refine J_iinc (pc := 71) h 1 ((nI k) + 1) [(3, .int ((nI k) + 1)), (4, .int (σ 7 ((nI k).toNatClampNeg))), (0, .ref (ad 0)), (1, .int a), (2, .int b)] rfl rfl (by rw [e4]; decide) rfl dX5_seek_71 ?_
            refine J_goto (pc := 74) h 7 (by decide) dX5_seek_74 ?_
            have hk8 := ltn (k := k) (b := 8) (N := 8) rfl (by omega) (by assumption)
            rw [nI_1]
            refine J_sub [(3, .int (nI (k + 1))), (0, .ref (ad 0)), (1, .int a), (2, .int b)] [0, 2, 3, 4] rfl ?_
            exact ih (k + 1) (up2 (up2 (f_X5_enter (σ 7 ((nI k).toNatClampNeg)) σ) 5 ((σ 7 ((nI k).toNatClampNeg)).toNatClampNeg) (((f_X5_enter (σ 7 ((nI k).toNatClampNeg)) σ) 5 ((σ 7 ((nI k).toNatClampNeg)).toNatClampNeg)) - 1)) 0 12 (-1)) (fun r hr => by rw [up2_off _ _ (by decide), up2_off _ _ (by decide), fr5_enter (by decide)]; exact h7 r hr) (by omega) (by omega) ho
          · replace ho := (if_neg c4).symm.trans ho
            refine J_iload_n (pc := 63) (n := 3) (i := 3) h 1 rfl rfl dX5_seek_63 ?_
            refine J_goto (pc := 64) h 68 (by decide) dX5_seek_64 ?_
            refine J_Mp12 (pc := 68) h m_344 dX5_seek_68 ?_
            refine J_iinc (pc := 71) h 1 ((nI k) + 1) [(3, .int ((nI k) + 1)), (4, .int (σ 7 ((nI k).toNatClampNeg))), (0, .ref (ad 0)), (1, .int a), (2, .int b)] rfl rfl (by rw [e4]; decide) rfl dX5_seek_71 ?_
            refine J_goto (pc := 74) h 7 (by decide) dX5_seek_74 ?_
            have hk8 := ltn (k := k) (b := 8) (N := 8) rfl (by omega) (by assumption)
            rw [nI_1]
            refine J_sub [(3, .int (nI (k + 1))), (0, .ref (ad 0)), (1, .int a), (2, .int b)] [0, 2, 3, 4] rfl ?_
            exact ih (k + 1) (up2 (up2 (f_X5_enter (σ 7 ((nI k).toNatClampNeg)) σ) 5 ((σ 7 ((nI k).toNatClampNeg)).toNatClampNeg) (((f_X5_enter (σ 7 ((nI k).toNatClampNeg)) σ) 5 ((σ 7 ((nI k).toNatClampNeg)).toNatClampNeg)) - 1)) 0 12 (nI k)) (fun r hr => by rw [up2_off _ _ (by decide), up2_off _ _ (by decide), fr5_enter (by decide)]; exact h7 r hr) (by omega) (by omega) ho
def f_X5_seek (a : Int32) (b : Int32) (σ : Sg) : Sg := (lf_X5_seek (9 - a.toNatClampNeg) a.toNatClampNeg b (up2 σ 0 12 (-1)))
theorem hd_X5_seek : yX5_seek.cls ≠ "java/lang/invoke/MethodHandle" ∧ yX5_seek.cls ≠ "java/lang/invoke/VarHandle" ∧ (parseMethodDescriptor yX5_seek.desc).map (fun d => d.parameters.length) = some 2 := by decide +kernel
set_option maxHeartbeats 4000000 in
set_option maxRecDepth 20000 in
theorem c_X5_seek (l : Launch) (g : Gy) (ad : Nat → Nat) (σ : Sg) (a : Int32) (b : Int32) (hR7 : ∀ r : Nat, r < 8 → σ 7 r = -1 ∨ vp_in (σ 7 r) 4200) (ha : vp_in a 8) : Con l g yX5_seek cX5_seek 5 none (rmL 1) [.ref (ad 0), .int a, .int b] (wM g ad σ) (Det none (wM g ad (f_X5_seek a b σ))) := by
  refine Con.of (by decide) (Nat.le_of_ble_eq_true rfl) ?_
  intro x h e1 e2 e3 e4 e5 hr
  subst e1 e2
  have h : Ok x cX5_seek "SafeDeskModel" none := h
  have hR : RmOk x 1 0 0 := RmOk.of e3 (Nat.le_refl _) (Nat.le_refl _)
  obtain ⟨out, ho⟩ : ∃ o, f_X5_seek a b σ = o := ⟨_, rfl⟩
  rw [ho] at hr
  unfold f_X5_seek at ho
  show J x 0 0 _ 0 [(0, .ref (ad 0)), (1, .int a), (2, .int b)] []
  refine J_aload_n (pc := 0) (n := 0) (i := 0) h 0 rfl rfl dX5_seek_0 ?_
  refine J_iconst (pc := 1) h (-1) rfl dX5_seek_1 ?_
  refine J_Mp12 (pc := 2) h m_344 dX5_seek_2 ?_
  refine J_iload_n (pc := 5) (n := 1) (i := 1) h 1 rfl rfl dX5_seek_5 ?_
  refine J_istore_n (pc := 6) (n := 3) (i := 3) h [(3, .int a), (0, .ref (ad 0)), (1, .int a), (2, .int b)] rfl (by rw [e4]; decide) rfl dX5_seek_6 ?_
  rw [nI_nat ha]
  exact lp_X5_seek (by decide) h hR e4 hr (9 - a.toNatClampNeg) a.toNatClampNeg (up2 σ 0 12 (-1)) (fun r hr => by rw [up2_off _ _ (by decide)]; exact hR7 r hr) (Nat.le_of_lt (vp_lt ha)) (by have := vp_lt ha; omega) ho
def lf_X5_count : Nat → Nat → Int32 → Sg → Int32
  | 0, _, acc, _ => acc
  | m + 1, k, acc, σ => (if 8 ≤ nI k then acc else (if σ 7 ((nI k).toNatClampNeg) = (-1) then (lf_X5_count m (k + 1) acc σ) else (lf_X5_count m (k + 1) (acc + 1) σ)))
set_option maxHeartbeats 4000000 in
theorem lp_X5_count {x : Cx} {ad : Nat → Nat} {a : Int32} {σ : Sg} (h : Ok x cX5_count "SafeDeskModel" (some .int)) (e4 : xN x = 4) {out : Int32} (hr : Rt x 0 0 (Det (some (.int out)) (wM (xG x) ad σ))) : ∀ (m k : Nat) (acc : Int32), k ≤ 8 → k + m = 9 → lf_X5_count m k acc σ = out → J x 0 0 (wM (xG x) ad σ) 9 [(3, .int (nI k)), (2, .int acc), (0, .ref (ad 0)), (1, .int a)] [] := by
  intro m
  induction m with
  | zero => intro k acc hk hm ho; omega
  | succ m ih =>
    intro k acc hk hm ho
    unfold lf_X5_count at ho
    refine J_iload_n (pc := 9) (n := 3) (i := 3) h 0 rfl rfl dX5_count_9 ?_
    refine J_bipush (pc := 10) h (8) rfl dX5_count_10 ?_
    refine J_icmp_ge (pc := 12) h 39 (by decide) dX5_count_12 (fun c1 => ?_) (fun c1 => ?_)
    · replace ho := (if_pos c1).symm.trans ho
      refine J_iload_n (pc := 39) (n := 2) (i := 2) h 1 rfl rfl dX5_count_39 ?_
      exact J_iret (pc := 40) h hr (by subst ho; exact ⟨rfl, rfl⟩) dX5_count_40
    · replace ho := (if_neg c1).symm.trans ho
      refine J_aload_n (pc := 15) (n := 0) (i := 0) h 2 rfl rfl dX5_count_15 ?_
      refine J_Mr7 (pc := 16) h m_339 dX5_count_16 ?_
      refine J_iload_n (pc := 19) (n := 3) (i := 3) h 0 rfl rfl dX5_count_19 ?_
      refine J_Ma (pc := 20) h 7 8 ⟨by decide, by decide⟩ rfl (vp_in_nI (ltn (b := 8) (N := 8) rfl (by omega) (by assumption)) (by decide)) (σ 7 ((nI k).toNatClampNeg)) rfl dX5_count_20 ?_
      refine J_iconst (pc := 21) h (-1) rfl dX5_count_21 ?_
      refine J_icmp_ne (pc := 22) h 29 (by decide) dX5_count_22 (fun c2 => ?_) (fun c2 => ?_)
      · replace ho := (if_neg c2).symm.trans ho
        refine J_iload_n (pc := 29) (n := 2) (i := 2) h 1 rfl rfl dX5_count_29 ?_
        refine J_iconst (pc := 30) h (1) rfl dX5_count_30 ?_
        refine J_iadd (pc := 31) h dX5_count_31 ?_
        refine J_istore_n (pc := 32) (n := 2) (i := 2) h [(2, .int (acc + 1)), (3, .int (nI k)), (0, .ref (ad 0)), (1, .int a)] rfl (by rw [e4]; decide) rfl dX5_count_32 ?_
        refine J_iinc (pc := 33) h 1 ((nI k) + 1) [(3, .int ((nI k) + 1)), (2, .int (acc + 1)), (0, .ref (ad 0)), (1, .int a)] rfl rfl (by rw [e4]; decide) rfl dX5_count_33 ?_
        refine J_goto (pc := 36) h 9 (by decide) dX5_count_36 ?_
        have hk8 := ltn (k := k) (b := 8) (N := 8) rfl (by omega) (by assumption)
        rw [nI_1]
        exact ih (k + 1) (acc + 1) (by omega) (by omega) ho
      · replace ho := (if_pos c2).symm.trans ho
        refine J_iload_n (pc := 25) (n := 2) (i := 2) h 1 rfl rfl dX5_count_25 ?_
        refine J_goto (pc := 26) h 32 (by decide) dX5_count_26 ?_
        refine J_istore_n (pc := 32) (n := 2) (i := 2) h [(2, .int acc), (3, .int (nI k)), (0, .ref (ad 0)), (1, .int a)] rfl (by rw [e4]; decide) rfl dX5_count_32 ?_
        refine J_iinc (pc := 33) h 1 ((nI k) + 1) [(3, .int ((nI k) + 1)), (2, .int acc), (0, .ref (ad 0)), (1, .int a)] rfl rfl (by rw [e4]; decide) rfl dX5_count_33 ?_
        refine J_goto (pc := 36) h 9 (by decide) dX5_count_36 ?_
        have hk8 := ltn (k := k) (b := 8) (N := 8) rfl (by omega) (by assumption)
        rw [nI_1]
        exact ih (k + 1) acc (by omega) (by omega) ho
theorem in_49 {a : Int32} (h : ¬ f_X5_in a 4 9 = 0) : vp_in (a - 4) 6 := by
  obtain ⟨h1, h2⟩ := in_no h
  have h0 : ¬ a < 0 := by
    rw [i_lt] at h1 ⊢
    rw [ti0]
    rw [show (4 : Int32).toInt = 4 from rfl] at h1
    omega
  obtain ⟨j, hj, rfl⟩ := nI_of h0
  rw [i_lt, nI_toInt hj, show (4 : Int32).toInt = 4 from rfl] at h1
  rw [i_lt, nI_toInt hj, show (9 : Int32).toInt = 9 from rfl] at h2
  rw [show (4 : Int32) = nI 4 from rfl, pk_sub (by omega)]
  exact vp_in_nI (by omega) (by decide)
def f_X5_count (a : Int32) (σ : Sg) : Int32 := (if a = 3 then (lf_X5_count 9 0 0 σ) else (if a = 0 then (σ 0 13) else (if a = 1 then (σ 0 15) else (if a = 2 then (σ 0 17) else (if f_X5_in a 4 9 = 0 then (-1) else (σ 8 ((a - 4).toNatClampNeg)))))))
theorem hd_X5_count : yX5_count.cls ≠ "java/lang/invoke/MethodHandle" ∧ yX5_count.cls ≠ "java/lang/invoke/VarHandle" ∧ (parseMethodDescriptor yX5_count.desc).map (fun d => d.parameters.length) = some 1 := by decide +kernel
set_option maxHeartbeats 4000000 in
set_option maxRecDepth 20000 in
theorem c_X5_count (l : Launch) (g : Gy) (ad : Nat → Nat) (σ : Sg) (a : Int32)  : Con l g yX5_count cX5_count 4 (some .int) (rmL 1) [.ref (ad 0), .int a] (wM g ad σ) (Det (some (.int (f_X5_count a σ))) (wM g ad σ)) := by
  refine Con.of (by decide) (Nat.le_of_ble_eq_true rfl) ?_
  intro x h e1 e2 e3 e4 e5 hr
  subst e1 e2
  have h : Ok x cX5_count "SafeDeskModel" (some .int) := h
  have hR : RmOk x 1 0 0 := RmOk.of e3 (Nat.le_refl _) (Nat.le_refl _)
  obtain ⟨out, ho⟩ : ∃ o, f_X5_count a σ = o := ⟨_, rfl⟩
  rw [ho] at hr
  unfold f_X5_count at ho
  show J x 0 0 _ 0 [(0, .ref (ad 0)), (1, .int a)] []
  refine J_iload_n (pc := 0) (n := 1) (i := 1) h 1 rfl rfl dX5_count_0 ?_
  refine J_iconst (pc := 1) h (3) rfl dX5_count_1 ?_
  refine J_icmp_ne (pc := 2) h 41 (by decide) dX5_count_2 (fun c1 => ?_) (fun c1 => ?_)
  · replace ho := (if_neg c1).symm.trans ho
    refine J_iload_n (pc := 41) (n := 1) (i := 1) h 1 rfl rfl dX5_count_41 ?_
    refine J_if_ne (pc := 42) h 52 (by decide) dX5_count_42 (fun c2 => ?_) (fun c2 => ?_)
    · replace ho := (if_neg c2).symm.trans ho
      refine J_iload_n (pc := 52) (n := 1) (i := 1) h 1 rfl rfl dX5_count_52 ?_
      refine J_iconst (pc := 53) h (1) rfl dX5_count_53 ?_
      refine J_icmp_ne (pc := 54) h 64 (by decide) dX5_count_54 (fun c3 => ?_) (fun c3 => ?_)
      · replace ho := (if_neg c3).symm.trans ho
        refine J_iload_n (pc := 64) (n := 1) (i := 1) h 1 rfl rfl dX5_count_64 ?_
        refine J_iconst (pc := 65) h (2) rfl dX5_count_65 ?_
        refine J_icmp_ne (pc := 66) h 76 (by decide) dX5_count_66 (fun c4 => ?_) (fun c4 => ?_)
        · replace ho := (if_neg c4).symm.trans ho
          refine J_iload_n (pc := 76) (n := 1) (i := 1) h 1 rfl rfl dX5_count_76 ?_
          refine J_iconst (pc := 77) h (4) rfl dX5_count_77 ?_
          refine J_bipush (pc := 78) h (9) rfl dX5_count_78 ?_
          refine J_cS (pc := 80) h hR (by decide) (c_X5_in _ _ _ a 4 9 ) (by decide) m_415 m_416 m_3 m_417 hd_X5_in rfl rfl (Nat.le_of_ble_eq_true rfl) [.int (f_X5_in a 4 9)] rfl dX5_count_80 ?_
          refine J_if_eq (pc := 83) h 97 (by decide) dX5_count_83 (fun c5 => ?_) (fun c5 => ?_)
          · replace ho := (if_pos c5).symm.trans ho
            refine J_iconst (pc := 97) h (-1) rfl dX5_count_97 ?_
            exact J_iret (pc := 98) h hr (by subst ho; exact ⟨rfl, rfl⟩) dX5_count_98
          · replace ho := (if_neg c5).symm.trans ho
            refine J_aload_n (pc := 86) (n := 0) (i := 0) h 0 rfl rfl dX5_count_86 ?_
            refine J_Mr8 (pc := 87) h m_340 dX5_count_87 ?_
            refine J_iload_n (pc := 90) (n := 1) (i := 1) h 1 rfl rfl dX5_count_90 ?_
            refine J_iconst (pc := 91) h (4) rfl dX5_count_91 ?_
            refine J_isub (pc := 92) h dX5_count_92 ?_
            refine J_Ma (pc := 93) h 8 6 ⟨by decide, by decide⟩ rfl (in_49 (by assumption)) (σ 8 ((a - 4).toNatClampNeg)) rfl dX5_count_93 ?_
            refine J_goto (pc := 94) h 98 (by decide) dX5_count_94 ?_
            exact J_iret (pc := 98) h hr (by subst ho; exact ⟨rfl, rfl⟩) dX5_count_98
        · replace ho := (if_pos c4).symm.trans ho
          refine J_aload_n (pc := 69) (n := 0) (i := 0) h 0 rfl rfl dX5_count_69 ?_
          refine J_Mg17 (pc := 70) h m_349 (σ 0 17) rfl dX5_count_70 ?_
          refine J_goto (pc := 73) h 98 (by decide) dX5_count_73 ?_
          exact J_iret (pc := 98) h hr (by subst ho; exact ⟨rfl, rfl⟩) dX5_count_98
      · replace ho := (if_pos c3).symm.trans ho
        refine J_aload_n (pc := 57) (n := 0) (i := 0) h 0 rfl rfl dX5_count_57 ?_
        refine J_Mg15 (pc := 58) h m_347 (σ 0 15) rfl dX5_count_58 ?_
        refine J_goto (pc := 61) h 98 (by decide) dX5_count_61 ?_
        exact J_iret (pc := 98) h hr (by subst ho; exact ⟨rfl, rfl⟩) dX5_count_98
    · replace ho := (if_pos c2).symm.trans ho
      refine J_aload_n (pc := 45) (n := 0) (i := 0) h 0 rfl rfl dX5_count_45 ?_
      refine J_Mg13 (pc := 46) h m_345 (σ 0 13) rfl dX5_count_46 ?_
      refine J_goto (pc := 49) h 98 (by decide) dX5_count_49 ?_
      exact J_iret (pc := 98) h hr (by subst ho; exact ⟨rfl, rfl⟩) dX5_count_98
  · replace ho := (if_pos c1).symm.trans ho
    refine J_iconst (pc := 5) h (0) rfl dX5_count_5 ?_
    refine J_istore_n (pc := 6) (n := 2) (i := 2) h [(2, .int 0), (0, .ref (ad 0)), (1, .int a)] rfl (by rw [e4]; decide) rfl dX5_count_6 ?_
    refine J_iconst (pc := 7) h (0) rfl dX5_count_7 ?_
    refine J_istore_n (pc := 8) (n := 3) (i := 3) h [(3, .int 0), (2, .int 0), (0, .ref (ad 0)), (1, .int a)] rfl (by rw [e4]; decide) rfl dX5_count_8 ?_
    exact lp_X5_count h e4 hr 9 0 0 (by decide) (by decide) ho
end
section
theorem fr5_putPlain {s v : Int32} {σ : Sg} {k : Nat} (h : k ≠ 2 ∧ k ≠ 4 ∧ k ≠ 5 ∧ k ≠ 6) : (f_X5_putPlain s v σ).2 k = σ k := by
  unfold f_X5_putPlain
  repeat' split
  all_goals (funext j; simp only [up2_off _ _ h.1, up2_off _ _ h.2.2.1, fr5_enter h.2])
theorem fr5_putTimed {s v : Int32} {σ : Sg} {k : Nat} (h : k ≠ 2 ∧ k ≠ 3 ∧ k ≠ 4 ∧ k ≠ 5 ∧ k ≠ 6) : (f_X5_putTimed s v σ).2 k = σ k := by
  unfold f_X5_putTimed
  funext j
  simp only [up2_off _ _ h.2.2.2.1, fr5_putPlain ⟨h.1, h.2.2⟩, up2_off _ _ h.2.1, fr5_enter h.2.2]
theorem fr5_put {s v : Int32} {σ : Sg} {k : Nat} (h : k ≠ 2 ∧ k ≠ 3 ∧ k ≠ 4 ∧ k ≠ 5 ∧ k ≠ 6) : (f_X5_put s v σ).2 k = σ k := by
  unfold f_X5_put
  split
  · exact fr5_putPlain ⟨h.1, h.2.2⟩
  · split
    · exact fr5_putTimed h
    · split
      · funext j; simp only [up2_off _ _ h.2.2.2.1, fr5_putTimed h, fr5_enter h.2.2]
      · split <;> (funext j; simp only [up2_off _ _ h.2.2.2.1, fr5_putTimed h, fr5_enter h.2.2])
theorem fr5_give {s w v : Int32} {σ : Sg} {k : Nat} (h : k ≠ 2 ∧ k ≠ 3 ∧ k ≠ 4 ∧ k ≠ 5 ∧ k ≠ 6) : (f_X5_give s w v σ).2 k = σ k := by
  unfold f_X5_give
  repeat' split
  all_goals (funext j; simp only [up2_off _ _ h.2.2.2.1, fr5_put h, fr5_enter h.2.2])
theorem fr5_lfw {s : Int32} {k : Nat} (h : k ≠ 4 ∧ k ≠ 5 ∧ k ≠ 6) : ∀ (m i : Nat) (σ : Sg), (lf_X5_worth m i s σ).2 k = σ k := by
  intro m
  induction m with
  | zero => intro i σ; rfl
  | succ m ih =>
    intro i σ
    unfold lf_X5_worth
    repeat' split
    all_goals first | (rw [ih, fr5_enter h]; done) | (funext j; simp only [up2_off _ _ h.2.1])
theorem fr5_worth {s : Int32} {σ : Sg} {k : Nat} (h : k ≠ 4 ∧ k ≠ 5 ∧ k ≠ 6) : (f_X5_worth s σ).2 k = σ k := fr5_lfw h _ _ _
theorem and7 (b : Int32) : vp_in (b &&& 7) 8 := pk_andIn b 3 rfl (by decide)
/-- what holds of the reference's ints while a run goes on, with B + 1 blocks -/
def MV (B : Nat) (σ : Sg) : Prop := SV (B + 1) σ ∧ B + 1 < 80 ∧ σ 13 0 = 0 ∧ (∀ r : Nat, r < 8 → σ 7 r = -1 ∨ vp_in (σ 7 r) 4200) ∧ ∀ i : Nat, (σ 1 i).toInt ≤ 2
theorem MV.of {B : Nat} {σ σ' : Sg} (h : MV B σ) (e0 : σ' 0 20 = σ 0 20) (e1 : σ' 0 18 = σ 0 18) (e : ∀ k, k = 1 ∨ k = 7 ∨ k = 13 ∨ k = 17 → σ' k = σ k) : MV B σ' := by
  refine ⟨h.1.of e0 e1 (e 13 (by omega)) (e 17 (by omega)), h.2.1, ?_, ?_, ?_⟩
  · rw [e 13 (by omega)]; exact h.2.2.1
  · rw [e 7 (by omega)]; exact h.2.2.2.1
  · rw [e 1 (by omega)]; exact h.2.2.2.2
theorem MV.leave {B : Nat} {σ : Sg} (h : MV B σ) (a : Int32) : MV B (f_X5_leave a σ) := by
  refine ⟨h.1.leave a, h.2.1, ?_, ?_, ?_⟩
  · rw [lv_rows (by decide) (by decide)]; exact h.2.2.1
  · rw [lv_rows (by decide) (by decide)]; exact h.2.2.2.1
  · rw [lv_rows (by decide) (by decide)]; exact h.2.2.2.2
theorem MV.vin2 {B : Nat} {σ : Sg} (h : MV B σ) : vp_in (σ 0 20) 80 := by
  rw [h.1.1]
  exact vp_in_nI h.2.1 (by decide)
theorem MV.put {B : Nat} {σ : Sg} {s v : Int32} (h : MV B σ) : MV B (f_X5_put s v σ).2 := h.of (by rw [fr5_put (by decide)]) (by rw [fr5_put (by decide)]) (fun k hk => fr5_put (by omega))
theorem MV.give {B : Nat} {σ : Sg} {s w v : Int32} (h : MV B σ) : MV B (f_X5_give s w v σ).2 := h.of (by rw [fr5_give (by decide)]) (by rw [fr5_give (by decide)]) (fun k hk => fr5_give (by omega))
theorem MV.enter {B : Nat} {σ : Sg} {s : Int32} (h : MV B σ) : MV B (f_X5_enter s σ) := h.of (by rw [fr5_enter (by decide)]) (by rw [fr5_enter (by decide)]) (fun k hk => fr5_enter (by omega))
theorem step_rk {kd a b : Int32} (N : Int32) (hv : ¬ f_X4_isStep kd a b = 0) (c : kd = N) (hN : N = 2 ∨ N = 3 ∨ N = 4 ∨ N = 5 ∨ N = 6 ∨ N = 7 ∨ N = 13) : vp_in a 8 := by
  subst c
  apply isRoom_in
  intro q
  apply hv
  rcases hN with rfl | rfl | rfl | rfl | rfl | rfl | rfl <;> exact q
theorem step_r0 {kd a b : Int32} (hv : ¬ f_X4_isStep kd a b = 0) (n1 : ¬ kd = 1) (n2 : ¬ kd = 2) (n3 : ¬ kd = 3) (n4 : ¬ kd = 4) (n5 : ¬ kd = 5) (n6 : ¬ kd = 6) (n7 : ¬ kd = 7) (n8 : ¬ kd = 8) (n9 : ¬ kd = 9) (n10 : ¬ kd = 10) (n11 : ¬ kd = 11) (n12 : ¬ kd = 12) (n13 : ¬ kd = 13) : vp_in a 8 := by
  apply isRoom_in
  intro q
  apply hv
  unfold f_X4_isStep
  by_cases n0 : kd = 0
  · rw [if_pos n0, if_pos q]
  · rw [if_neg n0, if_neg n1, if_neg n2, if_neg n3, if_neg n4, if_neg n5, if_neg n6, if_neg n7, if_neg n8, if_neg n9, if_neg n10, if_neg n11, if_neg n12, if_neg n13]
theorem step_pl {kd a b : Int32} (hv : ¬ f_X4_isStep kd a b = 0) (c : kd = 12) : vp_in a 6 := by
  subst c
  apply isPlan_in
  intro q
  exact hv q
def f_X5_withSafe (kd : Int32) (w : Int32) (b : Int32) (σ : Sg) : Sg := (if w = (-1) then (f_X5_fails 1 σ) else (if kd = 0 then (f_X5_within 1 b w (f_X5_leave 1 (f_X5_enter w σ))) else (if kd = 1 then (up2 σ 0 12 (σ 5 w.toNatClampNeg)) else (if kd = 2 then (if (f_X5_put w b σ).1 = 0 then (f_X5_fails 30 ((f_X5_put w b σ).2)) else ((f_X5_put w b σ).2)) else (if kd = 3 then (up2 ((f_X5_worth w σ).2) 0 12 ((f_X5_worth w σ).1)) else (if kd = 4 then (if (f_X5_give w (σ 7 ((b &&& 7).toNatClampNeg)) (σ 0 12) σ).1 = 0 then ((f_X5_give w (σ 7 ((b &&& 7).toNatClampNeg)) (σ 0 12) σ).2) else (f_X5_fails ((f_X5_give w (σ 7 ((b &&& 7).toNatClampNeg)) (σ 0 12) σ).1) ((f_X5_give w (σ 7 ((b &&& 7).toNatClampNeg)) (σ 0 12) σ).2))) else (up2 σ 0 12 (σ 5 w.toNatClampNeg))))))))
theorem hd_X5_withSafe : yX5_withSafe.cls ≠ "java/lang/invoke/MethodHandle" ∧ yX5_withSafe.cls ≠ "java/lang/invoke/VarHandle" ∧ (parseMethodDescriptor yX5_withSafe.desc).map (fun d => d.parameters.length) = some 3 := by decide +kernel
set_option maxHeartbeats 4000000 in
set_option maxRecDepth 20000 in
theorem c_X5_withSafe (l : Launch) (g : Gy) (ad : Nat → Nat) (σ : Sg) (kd : Int32) (w : Int32) (b : Int32) (B : Nat) (hm : MV B σ) (hw : w = -1 ∨ vp_in w 4200) : Con l g yX5_withSafe cX5_withSafe 5 none (rmL 5) [.ref (ad 0), .int kd, .int w, .int b] (wM g ad σ) (Det none (wM g ad (f_X5_withSafe kd w b σ))) := by
  refine Con.of (by decide) (Nat.le_of_ble_eq_true rfl) ?_
  intro x h e1 e2 e3 e4 e5 hr
  subst e1 e2
  have h : Ok x cX5_withSafe "SafeDeskModel" none := h
  have hR : RmOk x 5 0 0 := RmOk.of e3 (Nat.le_refl _) (Nat.le_refl _)
  obtain ⟨out, ho⟩ : ∃ o, f_X5_withSafe kd w b σ = o := ⟨_, rfl⟩
  rw [ho] at hr
  unfold f_X5_withSafe at ho
  show J x 0 0 _ 0 [(0, .ref (ad 0)), (1, .int kd), (2, .int w), (3, .int b)] []
  refine J_iload_n (pc := 0) (n := 2) (i := 2) h 2 rfl rfl dX5_withSafe_0 ?_
  refine J_iconst (pc := 1) h (-1) rfl dX5_withSafe_1 ?_
  refine J_icmp_ne (pc := 2) h 11 (by decide) dX5_withSafe_2 (fun c1 => ?_) (fun c1 => ?_)
  · replace ho := (if_neg c1).symm.trans ho
    refine J_iconst (pc := 11) h (0) rfl dX5_withSafe_11 ?_
    refine J_istore (pc := 12) h [(4, .int 0), (0, .ref (ad 0)), (1, .int kd), (2, .int w), (3, .int b)] (by rw [e4]; decide) rfl dX5_withSafe_12 ?_
    refine J_iload_n (pc := 14) (n := 1) (i := 1) h 2 rfl rfl dX5_withSafe_14 ?_
    by_cases c2 : kd = 0
    · replace ho := (if_pos c2).symm.trans ho
      refine J_tabIn (pc := 15) h (0) 48 c2 (by decide) (by decide) rfl (by decide) dX5_withSafe_15 ?_
      refine J_aload_n (pc := 48) (n := 0) (i := 0) h 1 rfl rfl dX5_withSafe_48 ?_
      refine J_iload_n (pc := 49) (n := 2) (i := 2) h 3 rfl rfl dX5_withSafe_49 ?_
      refine J_cM (pc := 50) h hR (by decide) (c_X5_enter _ _ _ σ w (hw.resolve_left (by assumption))) (by decide) m_475 m_477 ms_22 m_478 ⟨rfl, hd_X5_enter⟩ rfl rfl (Nat.le_of_ble_eq_true rfl) [] rfl dX5_withSafe_50 ?_
      refine J_aload_n (pc := 53) (n := 0) (i := 0) h 1 rfl rfl dX5_withSafe_53 ?_
      refine J_iconst (pc := 54) h (1) rfl dX5_withSafe_54 ?_
      refine J_cM (pc := 55) h hR (by decide) (c_X5_leave _ _ _ (f_X5_enter w σ) 1 (by rw [fr5_enter (by decide)]; exact hm.1.t)) (by decide) m_451 m_453 ms_16 m_454 ⟨rfl, hd_X5_leave⟩ rfl rfl (Nat.le_of_ble_eq_true rfl) [] rfl dX5_withSafe_55 ?_
      refine J_aload_n (pc := 58) (n := 0) (i := 0) h 1 rfl rfl dX5_withSafe_58 ?_
      refine J_iconst (pc := 59) h (1) rfl dX5_withSafe_59 ?_
      refine J_iload_n (pc := 60) (n := 3) (i := 3) h 4 rfl rfl dX5_withSafe_60 ?_
      refine J_iload_n (pc := 61) (n := 2) (i := 2) h 3 rfl rfl dX5_withSafe_61 ?_
      refine J_cM (pc := 62) h hR (by decide) (c_X5_within _ _ _ (f_X5_leave 1 (f_X5_enter w σ)) 1 b w (show MV B (f_X5_leave 1 (f_X5_enter w σ)) from hm.enter.leave _).1.vin (show MV B (f_X5_leave 1 (f_X5_enter w σ)) from hm.enter.leave _).vin2) (by decide) m_463 m_465 ms_19 m_466 ⟨rfl, hd_X5_within⟩ rfl rfl (Nat.le_of_ble_eq_true rfl) [] rfl dX5_withSafe_62 ?_
      refine J_goto (pc := 65) h 133 (by decide) dX5_withSafe_65 ?_
      refine J_iload (pc := 133) h 0 rfl dX5_withSafe_133 ?_
      refine J_if_eq (pc := 135) h 144 (by decide) dX5_withSafe_135 (fun c3 => ?_) (fun c3 => ?_)
      · skip
        exact J_vret (pc := 144) h hr (by subst ho; exact ⟨rfl, rfl⟩) dX5_withSafe_144
      · exact absurd rfl c3
    replace ho := (if_neg c2).symm.trans ho
    by_cases c4 : kd = 1
    · replace ho := (if_pos c4).symm.trans ho
      refine J_tabIn (pc := 15) h (1) 123 c4 (by decide) (by decide) rfl (by decide) dX5_withSafe_15 ?_
      refine J_aload_n (pc := 123) (n := 0) (i := 0) h 1 rfl rfl dX5_withSafe_123 ?_
      refine J_aload_n (pc := 124) (n := 0) (i := 0) h 1 rfl rfl dX5_withSafe_124 ?_
      refine J_Mr5 (pc := 125) h m_337 dX5_withSafe_125 ?_
      refine J_iload_n (pc := 128) (n := 2) (i := 2) h 3 rfl rfl dX5_withSafe_128 ?_
      refine J_Ma (pc := 129) h 5 4200 ⟨by decide, by decide⟩ rfl (hw.resolve_left (by assumption)) (σ 5 w.toNatClampNeg) rfl dX5_withSafe_129 ?_
      refine J_Mp12 (pc := 130) h m_344 dX5_withSafe_130 ?_
      refine J_iload (pc := 133) h 0 rfl dX5_withSafe_133 ?_
      refine J_if_eq (pc := 135) h 144 (by decide) dX5_withSafe_135 (fun c5 => ?_) (fun c5 => ?_)
      · skip
        exact J_vret (pc := 144) h hr (by subst ho; exact ⟨rfl, rfl⟩) dX5_withSafe_144
      · exact absurd rfl c5
    replace ho := (if_neg c4).symm.trans ho
    by_cases c6 : kd = 2
    · replace ho := (if_pos c6).symm.trans ho
      refine J_tabIn (pc := 15) h (2) 68 c6 (by decide) (by decide) rfl (by decide) dX5_withSafe_15 ?_
      refine J_aload_n (pc := 68) (n := 0) (i := 0) h 1 rfl rfl dX5_withSafe_68 ?_
      refine J_iload_n (pc := 69) (n := 2) (i := 2) h 3 rfl rfl dX5_withSafe_69 ?_
      refine J_iload_n (pc := 70) (n := 3) (i := 3) h 4 rfl rfl dX5_withSafe_70 ?_
      refine J_cM (pc := 71) h hR (by decide) (c_X5_put _ _ _ σ w b (hw.resolve_left (by assumption))) (by decide) m_483 m_485 ms_24 m_486 ⟨rfl, hd_X5_put⟩ rfl rfl (Nat.le_of_ble_eq_true rfl) [.int ((f_X5_put w b σ).1)] rfl dX5_withSafe_71 ?_
      refine J_if_eq (pc := 74) h 81 (by decide) dX5_withSafe_74 (fun c7 => ?_) (fun c7 => ?_)
      · replace ho := (if_pos c7).symm.trans ho
        refine J_bipush (pc := 81) h (30) rfl dX5_withSafe_81 ?_
        refine J_istore (pc := 83) h [(4, .int 30), (0, .ref (ad 0)), (1, .int kd), (2, .int w), (3, .int b)] (by rw [e4]; decide) rfl dX5_withSafe_83 ?_
        refine J_goto (pc := 85) h 133 (by decide) dX5_withSafe_85 ?_
        refine J_iload (pc := 133) h 0 rfl dX5_withSafe_133 ?_
        refine J_if_eq (pc := 135) h 144 (by decide) dX5_withSafe_135 (fun c8 => ?_) (fun c8 => ?_)
        · exact absurd c8 (by decide)
        · skip
          refine J_aload_n (pc := 138) (n := 0) (i := 0) h 1 rfl rfl dX5_withSafe_138 ?_
          refine J_iload (pc := 139) h 0 rfl dX5_withSafe_139 ?_
          refine J_cM (pc := 141) h hR (by decide) (c_X5_fails _ _ _ ((f_X5_put w b σ).2) 30 (B + 1) (show MV B ((f_X5_put w b σ).2) from hm.put).1) (by decide) m_455 m_457 ms_17 m_458 ⟨rfl, hd_X5_fails⟩ rfl rfl (Nat.le_of_ble_eq_true rfl) [] rfl dX5_withSafe_141 ?_
          exact J_vret (pc := 144) h hr (by subst ho; exact ⟨rfl, rfl⟩) dX5_withSafe_144
      · replace ho := (if_neg c7).symm.trans ho
        refine J_iconst (pc := 77) h (0) rfl dX5_withSafe_77 ?_
        refine J_goto (pc := 78) h 83 (by decide) dX5_withSafe_78 ?_
        refine J_istore (pc := 83) h [(4, .int 0), (0, .ref (ad 0)), (1, .int kd), (2, .int w), (3, .int b)] (by rw [e4]; decide) rfl dX5_withSafe_83 ?_
        refine J_goto (pc := 85) h 133 (by decide) dX5_withSafe_85 ?_
        refine J_iload (pc := 133) h 0 rfl dX5_withSafe_133 ?_
        refine J_if_eq (pc := 135) h 144 (by decide) dX5_withSafe_135 (fun c9 => ?_) (fun c9 => ?_)
        · skip
          exact J_vret (pc := 144) h hr (by subst ho; exact ⟨rfl, rfl⟩) dX5_withSafe_144
        · exact absurd rfl c9
    replace ho := (if_neg c6).symm.trans ho
    by_cases c10 : kd = 3
    · replace ho := (if_pos c10).symm.trans ho
      refine J_tabIn (pc := 15) h (3) 88 c10 (by decide) (by decide) rfl (by decide) dX5_withSafe_15 ?_
      refine J_aload_n (pc := 88) (n := 0) (i := 0) h 1 rfl rfl dX5_withSafe_88 ?_
      refine J_aload_n (pc := 89) (n := 0) (i := 0) h 1 rfl rfl dX5_withSafe_89 ?_
      refine J_iload_n (pc := 90) (n := 2) (i := 2) h 3 rfl rfl dX5_withSafe_90 ?_
      refine J_cM (pc := 91) h hR (by decide) (c_X5_worth _ _ _ σ w (hw.resolve_left (by assumption)) hm.2.2.2.2) (by decide) m_496 m_498 ms_27 m_499 ⟨rfl, hd_X5_worth⟩ rfl rfl (Nat.le_of_ble_eq_true rfl) [.int ((f_X5_worth w σ).1), .ref (ad 0)] rfl dX5_withSafe_91 ?_
      refine J_Mp12 (pc := 94) h m_344 dX5_withSafe_94 ?_
      refine J_goto (pc := 97) h 133 (by decide) dX5_withSafe_97 ?_
      refine J_iload (pc := 133) h 0 rfl dX5_withSafe_133 ?_
      refine J_if_eq (pc := 135) h 144 (by decide) dX5_withSafe_135 (fun c11 => ?_) (fun c11 => ?_)
      · skip
        exact J_vret (pc := 144) h hr (by subst ho; exact ⟨rfl, rfl⟩) dX5_withSafe_144
      · exact absurd rfl c11
    replace ho := (if_neg c10).symm.trans ho
    by_cases c12 : kd = 4
    · replace ho := (if_pos c12).symm.trans ho
      refine J_tabIn (pc := 15) h (4) 100 c12 (by decide) (by decide) rfl (by decide) dX5_withSafe_15 ?_
      refine J_aload_n (pc := 100) (n := 0) (i := 0) h 1 rfl rfl dX5_withSafe_100 ?_
      refine J_iload_n (pc := 101) (n := 2) (i := 2) h 3 rfl rfl dX5_withSafe_101 ?_
      refine J_aload_n (pc := 102) (n := 0) (i := 0) h 1 rfl rfl dX5_withSafe_102 ?_
      refine J_Mr7 (pc := 103) h m_339 dX5_withSafe_103 ?_
      refine J_iload_n (pc := 106) (n := 3) (i := 3) h 4 rfl rfl dX5_withSafe_106 ?_
      refine J_bipush (pc := 107) h (7) rfl dX5_withSafe_107 ?_
      refine J_iand (pc := 109) h dX5_withSafe_109 ?_
      refine J_Ma (pc := 110) h 7 8 ⟨by decide, by decide⟩ rfl (and7 b) (σ 7 ((b &&& 7).toNatClampNeg)) rfl dX5_withSafe_110 ?_
      refine J_aload_n (pc := 111) (n := 0) (i := 0) h 1 rfl rfl dX5_withSafe_111 ?_
      refine J_Mg12 (pc := 112) h m_344 (σ 0 12) rfl dX5_withSafe_112 ?_
      refine J_cM (pc := 115) h hR (by decide) (c_X5_give _ _ _ σ w (σ 7 ((b &&& 7).toNatClampNeg)) (σ 0 12) (hw.resolve_left (by assumption)) (hm.2.2.2.1 _ (vp_lt (and7 b)))) (by decide) m_500 m_502 ms_28 m_503 ⟨rfl, hd_X5_give⟩ rfl rfl (Nat.le_of_ble_eq_true rfl) [.int ((f_X5_give w (σ 7 ((b &&& 7).toNatClampNeg)) (σ 0 12) σ).1)] rfl dX5_withSafe_115 ?_
      refine J_istore (pc := 118) h [(4, .int ((f_X5_give w (σ 7 ((b &&& 7).toNatClampNeg)) (σ 0 12) σ).1)), (0, .ref (ad 0)), (1, .int kd), (2, .int w), (3, .int b)] (by rw [e4]; decide) rfl dX5_withSafe_118 ?_
      refine J_goto (pc := 120) h 133 (by decide) dX5_withSafe_120 ?_
      refine J_iload (pc := 133) h 0 rfl dX5_withSafe_133 ?_
      refine J_if_eq (pc := 135) h 144 (by decide) dX5_withSafe_135 (fun c13 => ?_) (fun c13 => ?_)
      · replace ho := (if_pos c13).symm.trans ho
        exact J_vret (pc := 144) h hr (by subst ho; exact ⟨rfl, rfl⟩) dX5_withSafe_144
      · replace ho := (if_neg c13).symm.trans ho
        refine J_aload_n (pc := 138) (n := 0) (i := 0) h 1 rfl rfl dX5_withSafe_138 ?_
        refine J_iload (pc := 139) h 0 rfl dX5_withSafe_139 ?_
        refine J_cM (pc := 141) h hR (by decide) (c_X5_fails _ _ _ ((f_X5_give w (σ 7 ((b &&& 7).toNatClampNeg)) (σ 0 12) σ).2) ((f_X5_give w (σ 7 ((b &&& 7).toNatClampNeg)) (σ 0 12) σ).1) (B + 1) (show MV B ((f_X5_give w (σ 7 ((b &&& 7).toNatClampNeg)) (σ 0 12) σ).2) from hm.give).1) (by decide) m_455 m_457 ms_17 m_458 ⟨rfl, hd_X5_fails⟩ rfl rfl (Nat.le_of_ble_eq_true rfl) [] rfl dX5_withSafe_141 ?_
        exact J_vret (pc := 144) h hr (by subst ho; exact ⟨rfl, rfl⟩) dX5_withSafe_144
    replace ho := (if_neg c12).symm.trans ho
    refine J_tabOut (pc := 15) h 123 (by have zc2 := ne_toI c2 (n := 0) rfl; have zc4 := ne_toI c4 (n := 1) rfl; have zc6 := ne_toI c6 (n := 2) rfl; have zc10 := ne_toI c10 (n := 3) rfl; have zc12 := ne_toI c12 (n := 4) rfl; omega) (by decide) dX5_withSafe_15 ?_
    refine J_aload_n (pc := 123) (n := 0) (i := 0) h 1 rfl rfl dX5_withSafe_123 ?_
    refine J_aload_n (pc := 124) (n := 0) (i := 0) h 1 rfl rfl dX5_withSafe_124 ?_
    refine J_Mr5 (pc := 125) h m_337 dX5_withSafe_125 ?_
    refine J_iload_n (pc := 128) (n := 2) (i := 2) h 3 rfl rfl dX5_withSafe_128 ?_
    refine J_Ma (pc := 129) h 5 4200 ⟨by decide, by decide⟩ rfl (hw.resolve_left (by assumption)) (σ 5 w.toNatClampNeg) rfl dX5_withSafe_129 ?_
    refine J_Mp12 (pc := 130) h m_344 dX5_withSafe_130 ?_
    refine J_iload (pc := 133) h 0 rfl dX5_withSafe_133 ?_
    refine J_if_eq (pc := 135) h 144 (by decide) dX5_withSafe_135 (fun c14 => ?_) (fun c14 => ?_)
    · skip
      exact J_vret (pc := 144) h hr (by subst ho; exact ⟨rfl, rfl⟩) dX5_withSafe_144
    · exact absurd rfl c14
  · replace ho := (if_pos c1).symm.trans ho
    refine J_aload_n (pc := 5) (n := 0) (i := 0) h 0 rfl rfl dX5_withSafe_5 ?_
    refine J_iconst (pc := 6) h (1) rfl dX5_withSafe_6 ?_
    refine J_cM (pc := 7) h hR (by decide) (c_X5_fails _ _ _ σ 1 (B + 1) hm.1) (by decide) m_455 m_457 ms_17 m_458 ⟨rfl, hd_X5_fails⟩ rfl rfl (Nat.le_of_ble_eq_true rfl) [] rfl dX5_withSafe_7 ?_
    exact J_vret (pc := 10) h hr (by subst ho; exact ⟨rfl, rfl⟩) dX5_withSafe_10
def f_X5_does (kd : Int32) (a : Int32) (b : Int32) (σ : Sg) : Sg := (if kd = 1 then (f_X5_within 2 b a σ) else (if kd = 2 then (f_X5_withSafe kd (σ 7 a.toNatClampNeg) b σ) else (if kd = 3 then (f_X5_withSafe kd (σ 7 a.toNatClampNeg) b σ) else (if kd = 4 then (f_X5_withSafe kd (σ 7 a.toNatClampNeg) b σ) else (if kd = 5 then (up2 σ 7 a.toNatClampNeg (σ 7 ((b &&& 7).toNatClampNeg))) else (if kd = 6 then (up2 σ 7 a.toNatClampNeg (-1)) else (if kd = 7 then (f_X5_withSafe kd (σ 7 a.toNatClampNeg) b σ) else (if kd = 8 then (if a = 0 then (f_X5_fails 6 σ) else (up2 σ 0 12 ((σ 0 12) / a))) else (if kd = 9 then (f_X5_fails a σ) else (if kd = 10 then (f_X5_back a σ) else (if kd = 11 then (up2 σ 0 12 ((σ 0 12) + a)) else (if kd = 12 then (if σ 0 16 = 4 then (f_X5_fails 7 σ) else (f_X5_beginPlan a σ)) else (if kd = 13 then (f_X5_seek a b σ) else (f_X5_withSafe kd (σ 7 a.toNatClampNeg) b σ))))))))))))))
theorem hd_X5_does : yX5_does.cls ≠ "java/lang/invoke/MethodHandle" ∧ yX5_does.cls ≠ "java/lang/invoke/VarHandle" ∧ (parseMethodDescriptor yX5_does.desc).map (fun d => d.parameters.length) = some 3 := by decide +kernel
set_option maxHeartbeats 4000000 in
set_option maxRecDepth 20000 in
theorem c_X5_does (l : Launch) (g : Gy) (ad : Nat → Nat) (σ : Sg) (kd : Int32) (a : Int32) (b : Int32) (B : Nat) (hm : MV B σ) (hv : ¬ f_X4_isStep kd a b = 0) : Con l g yX5_does cX5_does 4 none (rmL 6) [.ref (ad 0), .int kd, .int a, .int b] (wM g ad σ) (Det none (wM g ad (f_X5_does kd a b σ))) := by
  refine Con.of (by decide) (Nat.le_of_ble_eq_true rfl) ?_
  intro x h e1 e2 e3 e4 e5 hr
  subst e1 e2
  have h : Ok x cX5_does "SafeDeskModel" none := h
  have hR : RmOk x 6 0 0 := RmOk.of e3 (Nat.le_refl _) (Nat.le_refl _)
  obtain ⟨out, ho⟩ : ∃ o, f_X5_does kd a b σ = o := ⟨_, rfl⟩
  rw [ho] at hr
  unfold f_X5_does at ho
  show J x 0 0 _ 0 [(0, .ref (ad 0)), (1, .int kd), (2, .int a), (3, .int b)] []
  refine J_iload_n (pc := 0) (n := 1) (i := 1) h 1 rfl rfl dX5_does_0 ?_
  by_cases c1 : kd = 1
  · replace ho := (if_pos c1).symm.trans ho
    refine J_tabIn (pc := 1) h (1) 68 c1 (by decide) (by decide) rfl (by decide) dX5_does_1 ?_
    refine J_aload_n (pc := 68) (n := 0) (i := 0) h 0 rfl rfl dX5_does_68 ?_
    refine J_iconst (pc := 69) h (2) rfl dX5_does_69 ?_
    refine J_iload_n (pc := 70) (n := 3) (i := 3) h 3 rfl rfl dX5_does_70 ?_
    refine J_iload_n (pc := 71) (n := 2) (i := 2) h 2 rfl rfl dX5_does_71 ?_
    refine J_cM (pc := 72) h hR (by decide) (c_X5_within _ _ _ σ 2 b a hm.1.vin hm.vin2) (by decide) m_463 m_465 ms_19 m_466 ⟨rfl, hd_X5_within⟩ rfl rfl (Nat.le_of_ble_eq_true rfl) [] rfl dX5_does_72 ?_
    refine J_goto (pc := 75) h 207 (by decide) dX5_does_75 ?_
    exact J_vret (pc := 207) h hr (by subst ho; exact ⟨rfl, rfl⟩) dX5_does_207
  replace ho := (if_neg c1).symm.trans ho
  by_cases c2 : kd = 2
  · replace ho := (if_pos c2).symm.trans ho
    refine J_tabIn (pc := 1) h (2) 195 c2 (by decide) (by decide) rfl (by decide) dX5_does_1 ?_
    refine J_aload_n (pc := 195) (n := 0) (i := 0) h 0 rfl rfl dX5_does_195 ?_
    refine J_iload_n (pc := 196) (n := 1) (i := 1) h 1 rfl rfl dX5_does_196 ?_
    refine J_aload_n (pc := 197) (n := 0) (i := 0) h 0 rfl rfl dX5_does_197 ?_
    refine J_Mr7 (pc := 198) h m_339 dX5_does_198 ?_
    refine J_iload_n (pc := 201) (n := 2) (i := 2) h 2 rfl rfl dX5_does_201 ?_
    refine J_Ma (pc := 202) h 7 8 ⟨by decide, by decide⟩ rfl (step_rk 2 hv c2 (by decide)) (σ 7 a.toNatClampNeg) rfl dX5_does_202 ?_
    refine J_iload_n (pc := 203) (n := 3) (i := 3) h 3 rfl rfl dX5_does_203 ?_
    refine J_cM (pc := 204) h hR (by decide) (c_X5_withSafe _ _ _ σ kd (σ 7 a.toNatClampNeg) b B hm (hm.2.2.2.1 _ (vp_lt (step_rk 2 hv c2 (by decide))))) (by decide) m_479 m_481 ms_23 m_482 ⟨rfl, hd_X5_withSafe⟩ rfl rfl (Nat.le_of_ble_eq_true rfl) [] rfl dX5_does_204 ?_
    exact J_vret (pc := 207) h hr (by subst ho; exact ⟨rfl, rfl⟩) dX5_does_207
  replace ho := (if_neg c2).symm.trans ho
  by_cases c3 : kd = 3
  · replace ho := (if_pos c3).symm.trans ho
    refine J_tabIn (pc := 1) h (3) 195 c3 (by decide) (by decide) rfl (by decide) dX5_does_1 ?_
    refine J_aload_n (pc := 195) (n := 0) (i := 0) h 0 rfl rfl dX5_does_195 ?_
    refine J_iload_n (pc := 196) (n := 1) (i := 1) h 1 rfl rfl dX5_does_196 ?_
    refine J_aload_n (pc := 197) (n := 0) (i := 0) h 0 rfl rfl dX5_does_197 ?_
    refine J_Mr7 (pc := 198) h m_339 dX5_does_198 ?_
    refine J_iload_n (pc := 201) (n := 2) (i := 2) h 2 rfl rfl dX5_does_201 ?_
    refine J_Ma (pc := 202) h 7 8 ⟨by decide, by decide⟩ rfl (step_rk 3 hv c3 (by decide)) (σ 7 a.toNatClampNeg) rfl dX5_does_202 ?_
    refine J_iload_n (pc := 203) (n := 3) (i := 3) h 3 rfl rfl dX5_does_203 ?_
    refine J_cM (pc := 204) h hR (by decide) (c_X5_withSafe _ _ _ σ kd (σ 7 a.toNatClampNeg) b B hm (hm.2.2.2.1 _ (vp_lt (step_rk 3 hv c3 (by decide))))) (by decide) m_479 m_481 ms_23 m_482 ⟨rfl, hd_X5_withSafe⟩ rfl rfl (Nat.le_of_ble_eq_true rfl) [] rfl dX5_does_204 ?_
    exact J_vret (pc := 207) h hr (by subst ho; exact ⟨rfl, rfl⟩) dX5_does_207
  replace ho := (if_neg c3).symm.trans ho
  by_cases c4 : kd = 4
  · replace ho := (if_pos c4).symm.trans ho
    refine J_tabIn (pc := 1) h (4) 195 c4 (by decide) (by decide) rfl (by decide) dX5_does_1 ?_
    refine J_aload_n (pc := 195) (n := 0) (i := 0) h 0 rfl rfl dX5_does_195 ?_
    refine J_iload_n (pc := 196) (n := 1) (i := 1) h 1 rfl rfl dX5_does_196 ?_
    refine J_aload_n (pc := 197) (n := 0) (i := 0) h 0 rfl rfl dX5_does_197 ?_
    refine J_Mr7 (pc := 198) h m_339 dX5_does_198 ?_
    refine J_iload_n (pc := 201) (n := 2) (i := 2) h 2 rfl rfl dX5_does_201 ?_
    refine J_Ma (pc := 202) h 7 8 ⟨by decide, by decide⟩ rfl (step_rk 4 hv c4 (by decide)) (σ 7 a.toNatClampNeg) rfl dX5_does_202 ?_
    refine J_iload_n (pc := 203) (n := 3) (i := 3) h 3 rfl rfl dX5_does_203 ?_
    refine J_cM (pc := 204) h hR (by decide) (c_X5_withSafe _ _ _ σ kd (σ 7 a.toNatClampNeg) b B hm (hm.2.2.2.1 _ (vp_lt (step_rk 4 hv c4 (by decide))))) (by decide) m_479 m_481 ms_23 m_482 ⟨rfl, hd_X5_withSafe⟩ rfl rfl (Nat.le_of_ble_eq_true rfl) [] rfl dX5_does_204 ?_
    exact J_vret (pc := 207) h hr (by subst ho; exact ⟨rfl, rfl⟩) dX5_does_207
  replace ho := (if_neg c4).symm.trans ho
  by_cases c5 : kd = 5
  · replace ho := (if_pos c5).symm.trans ho
    refine J_tabIn (pc := 1) h (5) 78 c5 (by decide) (by decide) rfl (by decide) dX5_does_1 ?_
    refine J_aload_n (pc := 78) (n := 0) (i := 0) h 0 rfl rfl dX5_does_78 ?_
    refine J_Mr7 (pc := 79) h m_339 dX5_does_79 ?_
    refine J_iload_n (pc := 82) (n := 2) (i := 2) h 2 rfl rfl dX5_does_82 ?_
    refine J_aload_n (pc := 83) (n := 0) (i := 0) h 0 rfl rfl dX5_does_83 ?_
    refine J_Mr7 (pc := 84) h m_339 dX5_does_84 ?_
    refine J_iload_n (pc := 87) (n := 3) (i := 3) h 3 rfl rfl dX5_does_87 ?_
    refine J_bipush (pc := 88) h (7) rfl dX5_does_88 ?_
    refine J_iand (pc := 90) h dX5_does_90 ?_
    refine J_Ma (pc := 91) h 7 8 ⟨by decide, by decide⟩ rfl (and7 b) (σ 7 ((b &&& 7).toNatClampNeg)) rfl dX5_does_91 ?_
    refine J_Ms (pc := 92) h 7 8 ⟨by decide, by decide⟩ rfl (step_rk 5 hv c5 (by decide)) dX5_does_92 ?_
    refine J_goto (pc := 93) h 207 (by decide) dX5_does_93 ?_
    exact J_vret (pc := 207) h hr (by subst ho; exact ⟨rfl, rfl⟩) dX5_does_207
  replace ho := (if_neg c5).symm.trans ho
  by_cases c6 : kd = 6
  · replace ho := (if_pos c6).symm.trans ho
    refine J_tabIn (pc := 1) h (6) 96 c6 (by decide) (by decide) rfl (by decide) dX5_does_1 ?_
    refine J_aload_n (pc := 96) (n := 0) (i := 0) h 0 rfl rfl dX5_does_96 ?_
    refine J_Mr7 (pc := 97) h m_339 dX5_does_97 ?_
    refine J_iload_n (pc := 100) (n := 2) (i := 2) h 2 rfl rfl dX5_does_100 ?_
    refine J_iconst (pc := 101) h (-1) rfl dX5_does_101 ?_
    refine J_Ms (pc := 102) h 7 8 ⟨by decide, by decide⟩ rfl (step_rk 6 hv c6 (by decide)) dX5_does_102 ?_
    refine J_goto (pc := 103) h 207 (by decide) dX5_does_103 ?_
    exact J_vret (pc := 207) h hr (by subst ho; exact ⟨rfl, rfl⟩) dX5_does_207
  replace ho := (if_neg c6).symm.trans ho
  by_cases c7 : kd = 7
  · replace ho := (if_pos c7).symm.trans ho
    refine J_tabIn (pc := 1) h (7) 195 c7 (by decide) (by decide) rfl (by decide) dX5_does_1 ?_
    refine J_aload_n (pc := 195) (n := 0) (i := 0) h 0 rfl rfl dX5_does_195 ?_
    refine J_iload_n (pc := 196) (n := 1) (i := 1) h 1 rfl rfl dX5_does_196 ?_
    refine J_aload_n (pc := 197) (n := 0) (i := 0) h 0 rfl rfl dX5_does_197 ?_
    refine J_Mr7 (pc := 198) h m_339 dX5_does_198 ?_
    refine J_iload_n (pc := 201) (n := 2) (i := 2) h 2 rfl rfl dX5_does_201 ?_
    refine J_Ma (pc := 202) h 7 8 ⟨by decide, by decide⟩ rfl (step_rk 7 hv c7 (by decide)) (σ 7 a.toNatClampNeg) rfl dX5_does_202 ?_
    refine J_iload_n (pc := 203) (n := 3) (i := 3) h 3 rfl rfl dX5_does_203 ?_
    refine J_cM (pc := 204) h hR (by decide) (c_X5_withSafe _ _ _ σ kd (σ 7 a.toNatClampNeg) b B hm (hm.2.2.2.1 _ (vp_lt (step_rk 7 hv c7 (by decide))))) (by decide) m_479 m_481 ms_23 m_482 ⟨rfl, hd_X5_withSafe⟩ rfl rfl (Nat.le_of_ble_eq_true rfl) [] rfl dX5_does_204 ?_
    exact J_vret (pc := 207) h hr (by subst ho; exact ⟨rfl, rfl⟩) dX5_does_207
  replace ho := (if_neg c7).symm.trans ho
  by_cases c8 : kd = 8
  · replace ho := (if_pos c8).symm.trans ho
    refine J_tabIn (pc := 1) h (8) 106 c8 (by decide) (by decide) rfl (by decide) dX5_does_1 ?_
    refine J_iload_n (pc := 106) (n := 2) (i := 2) h 2 rfl rfl dX5_does_106 ?_
    refine J_if_ne (pc := 107) h 119 (by decide) dX5_does_107 (fun c9 => ?_) (fun c9 => ?_)
    · replace ho := (if_neg c9).symm.trans ho
      refine J_aload_n (pc := 119) (n := 0) (i := 0) h 0 rfl rfl dX5_does_119 ?_
      refine J_aload_n (pc := 120) (n := 0) (i := 0) h 0 rfl rfl dX5_does_120 ?_
      refine J_Mg12 (pc := 121) h m_344 (σ 0 12) rfl dX5_does_121 ?_
      refine J_iload_n (pc := 124) (n := 2) (i := 2) h 2 rfl rfl dX5_does_124 ?_
      refine J_idiv (pc := 125) h (by assumption) dX5_does_125 ?_
      refine J_Mp12 (pc := 126) h m_344 dX5_does_126 ?_
      refine J_goto (pc := 129) h 207 (by decide) dX5_does_129 ?_
      exact J_vret (pc := 207) h hr (by subst ho; exact ⟨rfl, rfl⟩) dX5_does_207
    · replace ho := (if_pos c9).symm.trans ho
      refine J_aload_n (pc := 110) (n := 0) (i := 0) h 0 rfl rfl dX5_does_110 ?_
      refine J_bipush (pc := 111) h (6) rfl dX5_does_111 ?_
      refine J_cM (pc := 113) h hR (by decide) (c_X5_fails _ _ _ σ 6 (B + 1) hm.1) (by decide) m_455 m_457 ms_17 m_458 ⟨rfl, hd_X5_fails⟩ rfl rfl (Nat.le_of_ble_eq_true rfl) [] rfl dX5_does_113 ?_
      refine J_goto (pc := 116) h 207 (by decide) dX5_does_116 ?_
      exact J_vret (pc := 207) h hr (by subst ho; exact ⟨rfl, rfl⟩) dX5_does_207
  replace ho := (if_neg c8).symm.trans ho
  by_cases c10 : kd = 9
  · replace ho := (if_pos c10).symm.trans ho
    refine J_tabIn (pc := 1) h (9) 132 c10 (by decide) (by decide) rfl (by decide) dX5_does_1 ?_
    refine J_aload_n (pc := 132) (n := 0) (i := 0) h 0 rfl rfl dX5_does_132 ?_
    refine J_iload_n (pc := 133) (n := 2) (i := 2) h 2 rfl rfl dX5_does_133 ?_
    refine J_cM (pc := 134) h hR (by decide) (c_X5_fails _ _ _ σ a (B + 1) hm.1) (by decide) m_455 m_457 ms_17 m_458 ⟨rfl, hd_X5_fails⟩ rfl rfl (Nat.le_of_ble_eq_true rfl) [] rfl dX5_does_134 ?_
    refine J_goto (pc := 137) h 207 (by decide) dX5_does_137 ?_
    exact J_vret (pc := 207) h hr (by subst ho; exact ⟨rfl, rfl⟩) dX5_does_207
  replace ho := (if_neg c10).symm.trans ho
  by_cases c11 : kd = 10
  · replace ho := (if_pos c11).symm.trans ho
    refine J_tabIn (pc := 1) h (10) 140 c11 (by decide) (by decide) rfl (by decide) dX5_does_1 ?_
    refine J_aload_n (pc := 140) (n := 0) (i := 0) h 0 rfl rfl dX5_does_140 ?_
    refine J_iload_n (pc := 141) (n := 2) (i := 2) h 2 rfl rfl dX5_does_141 ?_
    refine J_cM (pc := 142) h hR (by decide) (c_X5_back _ _ _ σ a B hm.1 hm.2.2.1) (by decide) m_467 m_469 ms_20 m_470 ⟨rfl, hd_X5_back⟩ rfl rfl (Nat.le_of_ble_eq_true rfl) [] rfl dX5_does_142 ?_
    refine J_goto (pc := 145) h 207 (by decide) dX5_does_145 ?_
    exact J_vret (pc := 207) h hr (by subst ho; exact ⟨rfl, rfl⟩) dX5_does_207
  replace ho := (if_neg c11).symm.trans ho
  by_cases c12 : kd = 11
  · replace ho := (if_pos c12).symm.trans ho
    refine J_tabIn (pc := 1) h (11) 148 c12 (by decide) (by decide) rfl (by decide) dX5_does_1 ?_
    refine J_aload_n (pc := 148) (n := 0) (i := 0) h 0 rfl rfl dX5_does_148 ?_
    refine J_aload_n (pc := 149) (n := 0) (i := 0) h 0 rfl rfl dX5_does_149 ?_
    refine J_Mg12 (pc := 150) h m_344 (σ 0 12) rfl dX5_does_150 ?_
    refine J_iload_n (pc := 153) (n := 2) (i := 2) h 2 rfl rfl dX5_does_153 ?_
    refine J_iadd (pc := 154) h dX5_does_154 ?_
    refine J_Mp12 (pc := 155) h m_344 dX5_does_155 ?_
    refine J_goto (pc := 158) h 207 (by decide) dX5_does_158 ?_
    exact J_vret (pc := 207) h hr (by subst ho; exact ⟨rfl, rfl⟩) dX5_does_207
  replace ho := (if_neg c12).symm.trans ho
  by_cases c13 : kd = 12
  · replace ho := (if_pos c13).symm.trans ho
    refine J_tabIn (pc := 1) h (12) 161 c13 (by decide) (by decide) rfl (by decide) dX5_does_1 ?_
    refine J_aload_n (pc := 161) (n := 0) (i := 0) h 0 rfl rfl dX5_does_161 ?_
    refine J_Mg16 (pc := 162) h m_348 (σ 0 16) rfl dX5_does_162 ?_
    refine J_iconst (pc := 165) h (4) rfl dX5_does_165 ?_
    refine J_icmp_ne (pc := 166) h 178 (by decide) dX5_does_166 (fun c14 => ?_) (fun c14 => ?_)
    · replace ho := (if_neg c14).symm.trans ho
      refine J_aload_n (pc := 178) (n := 0) (i := 0) h 0 rfl rfl dX5_does_178 ?_
      refine J_iload_n (pc := 179) (n := 2) (i := 2) h 2 rfl rfl dX5_does_179 ?_
      refine J_cM (pc := 180) h hR (by decide) (c_X5_beginPlan _ _ _ σ a (step_pl hv c13) hm.vin2) (by decide) m_439 m_441 ms_13 m_442 ⟨rfl, hd_X5_beginPlan⟩ rfl rfl (Nat.le_of_ble_eq_true rfl) [] rfl dX5_does_180 ?_
      refine J_goto (pc := 183) h 207 (by decide) dX5_does_183 ?_
      exact J_vret (pc := 207) h hr (by subst ho; exact ⟨rfl, rfl⟩) dX5_does_207
    · replace ho := (if_pos c14).symm.trans ho
      refine J_aload_n (pc := 169) (n := 0) (i := 0) h 0 rfl rfl dX5_does_169 ?_
      refine J_bipush (pc := 170) h (7) rfl dX5_does_170 ?_
      refine J_cM (pc := 172) h hR (by decide) (c_X5_fails _ _ _ σ 7 (B + 1) hm.1) (by decide) m_455 m_457 ms_17 m_458 ⟨rfl, hd_X5_fails⟩ rfl rfl (Nat.le_of_ble_eq_true rfl) [] rfl dX5_does_172 ?_
      refine J_goto (pc := 175) h 207 (by decide) dX5_does_175 ?_
      exact J_vret (pc := 207) h hr (by subst ho; exact ⟨rfl, rfl⟩) dX5_does_207
  replace ho := (if_neg c13).symm.trans ho
  by_cases c15 : kd = 13
  · replace ho := (if_pos c15).symm.trans ho
    refine J_tabIn (pc := 1) h (13) 186 c15 (by decide) (by decide) rfl (by decide) dX5_does_1 ?_
    refine J_aload_n (pc := 186) (n := 0) (i := 0) h 0 rfl rfl dX5_does_186 ?_
    refine J_iload_n (pc := 187) (n := 2) (i := 2) h 2 rfl rfl dX5_does_187 ?_
    refine J_iload_n (pc := 188) (n := 3) (i := 3) h 3 rfl rfl dX5_does_188 ?_
    refine J_cM (pc := 189) h hR (by decide) (c_X5_seek _ _ _ σ a b hm.2.2.2.1 (step_rk 13 hv c15 (by decide))) (by decide) m_471 m_473 ms_21 m_474 ⟨rfl, hd_X5_seek⟩ rfl rfl (Nat.le_of_ble_eq_true rfl) [] rfl dX5_does_189 ?_
    refine J_goto (pc := 192) h 207 (by decide) dX5_does_192 ?_
    exact J_vret (pc := 207) h hr (by subst ho; exact ⟨rfl, rfl⟩) dX5_does_207
  replace ho := (if_neg c15).symm.trans ho
  refine J_tabOut (pc := 1) h 195 (by have zc1 := ne_toI c1 (n := 1) rfl; have zc2 := ne_toI c2 (n := 2) rfl; have zc3 := ne_toI c3 (n := 3) rfl; have zc4 := ne_toI c4 (n := 4) rfl; have zc5 := ne_toI c5 (n := 5) rfl; have zc6 := ne_toI c6 (n := 6) rfl; have zc7 := ne_toI c7 (n := 7) rfl; have zc8 := ne_toI c8 (n := 8) rfl; have zc10 := ne_toI c10 (n := 9) rfl; have zc11 := ne_toI c11 (n := 10) rfl; have zc12 := ne_toI c12 (n := 11) rfl; have zc13 := ne_toI c13 (n := 12) rfl; have zc15 := ne_toI c15 (n := 13) rfl; omega) (by decide) dX5_does_1 ?_
  refine J_aload_n (pc := 195) (n := 0) (i := 0) h 0 rfl rfl dX5_does_195 ?_
  refine J_iload_n (pc := 196) (n := 1) (i := 1) h 1 rfl rfl dX5_does_196 ?_
  refine J_aload_n (pc := 197) (n := 0) (i := 0) h 0 rfl rfl dX5_does_197 ?_
  refine J_Mr7 (pc := 198) h m_339 dX5_does_198 ?_
  refine J_iload_n (pc := 201) (n := 2) (i := 2) h 2 rfl rfl dX5_does_201 ?_
  refine J_Ma (pc := 202) h 7 8 ⟨by decide, by decide⟩ rfl (step_r0 hv c1 c2 c3 c4 c5 c6 c7 c8 c10 c11 c12 c13 c15) (σ 7 a.toNatClampNeg) rfl dX5_does_202 ?_
  refine J_iload_n (pc := 203) (n := 3) (i := 3) h 3 rfl rfl dX5_does_203 ?_
  refine J_cM (pc := 204) h hR (by decide) (c_X5_withSafe _ _ _ σ kd (σ 7 a.toNatClampNeg) b B hm (hm.2.2.2.1 _ (vp_lt (step_r0 hv c1 c2 c3 c4 c5 c6 c7 c8 c10 c11 c12 c13 c15)))) (by decide) m_479 m_481 ms_23 m_482 ⟨rfl, hd_X5_withSafe⟩ rfl rfl (Nat.le_of_ble_eq_true rfl) [] rfl dX5_does_204 ?_
  exact J_vret (pc := 207) h hr (by subst ho; exact ⟨rfl, rfl⟩) dX5_does_207
end
section
/-- one turn of the reference's loop may be done -/
def ITm (B : Nat) (σ : Sg) : Prop := MV B σ ∧ (¬ σ 15 ((σ 0 20) - 1).toNatClampNeg = σ 16 ((σ 0 20) - 1).toNatClampNeg → vp_in ((12 * (σ 14 ((σ 0 20) - 1).toNatClampNeg)) + (σ 15 ((σ 0 20) - 1).toNatClampNeg)) 72 ∧ ¬ f_X4_isStep (σ 9 ((12 * (σ 14 ((σ 0 20) - 1).toNatClampNeg)) + (σ 15 ((σ 0 20) - 1).toNatClampNeg)).toNatClampNeg) (σ 10 ((12 * (σ 14 ((σ 0 20) - 1).toNatClampNeg)) + (σ 15 ((σ 0 20) - 1).toNatClampNeg)).toNatClampNeg) (σ 11 ((12 * (σ 14 ((σ 0 20) - 1).toNatClampNeg)) + (σ 15 ((σ 0 20) - 1).toNatClampNeg)).toNatClampNeg) = 0)
theorem MV.npos {B : Nat} {σ : Sg} (h : MV B σ) : ¬ σ 0 20 ≤ 0 := by
  rw [h.1.1]
  exact nI_nle (by omega) (by have := h.2.1; omega)
def f_X5_it (σ : Sg) : Sg := (if σ 15 (((σ 0 20) - 1).toNatClampNeg) = σ 16 (((σ 0 20) - 1).toNatClampNeg) then (f_X5_pop σ) else (if σ 0 13 = 200 then (f_X5_fails 40 σ) else (f_X5_does ((f_X5_leave (100 + (σ 9 (((12 * (σ 14 (((σ 0 20) - 1).toNatClampNeg))) + (σ 15 (((σ 0 20) - 1).toNatClampNeg))).toNatClampNeg))) (up2 (up2 σ 15 (((σ 0 20) - 1).toNatClampNeg) ((σ 15 (((σ 0 20) - 1).toNatClampNeg)) + 1)) 0 13 ((σ 0 13) + 1))) 9 (((12 * (σ 14 (((σ 0 20) - 1).toNatClampNeg))) + (σ 15 (((σ 0 20) - 1).toNatClampNeg))).toNatClampNeg)) ((f_X5_leave (100 + (σ 9 (((12 * (σ 14 (((σ 0 20) - 1).toNatClampNeg))) + (σ 15 (((σ 0 20) - 1).toNatClampNeg))).toNatClampNeg))) (up2 (up2 σ 15 (((σ 0 20) - 1).toNatClampNeg) ((σ 15 (((σ 0 20) - 1).toNatClampNeg)) + 1)) 0 13 ((σ 0 13) + 1))) 10 (((12 * (σ 14 (((σ 0 20) - 1).toNatClampNeg))) + (σ 15 (((σ 0 20) - 1).toNatClampNeg))).toNatClampNeg)) ((f_X5_leave (100 + (σ 9 (((12 * (σ 14 (((σ 0 20) - 1).toNatClampNeg))) + (σ 15 (((σ 0 20) - 1).toNatClampNeg))).toNatClampNeg))) (up2 (up2 σ 15 (((σ 0 20) - 1).toNatClampNeg) ((σ 15 (((σ 0 20) - 1).toNatClampNeg)) + 1)) 0 13 ((σ 0 13) + 1))) 11 (((12 * (σ 14 (((σ 0 20) - 1).toNatClampNeg))) + (σ 15 (((σ 0 20) - 1).toNatClampNeg))).toNatClampNeg)) (f_X5_leave (100 + (σ 9 (((12 * (σ 14 (((σ 0 20) - 1).toNatClampNeg))) + (σ 15 (((σ 0 20) - 1).toNatClampNeg))).toNatClampNeg))) (up2 (up2 σ 15 (((σ 0 20) - 1).toNatClampNeg) ((σ 15 (((σ 0 20) - 1).toNatClampNeg)) + 1)) 0 13 ((σ 0 13) + 1))))))
/-- the reference's loop comes from σ to σ' in m turns -/
def Rch : Nat → Sg → Sg → Prop
  | 0, σ, σ' => σ = σ'
  | m + 1, σ, σ' => (∃ B, ITm B σ) ∧ Rch m (f_X5_it σ) σ'
set_option maxHeartbeats 4000000 in
theorem lp_X5_run {x : Cx} {ad : Nat → Nat} {pl v : Int32} {L : Nat} {σe : Sg} (hL : 7 ≤ L) (h : Ok x cX5_run "SafeDeskModel" (some .int)) (hR : RmOk x L 0 0) (e4 : xN x = 5) (hex : J x 0 0 (wM (xG x) ad σe) 51 [(0, .ref (ad 0)), (1, .int pl), (2, .int v)] []) : ∀ (m : Nat) (σ : Sg), Rch m σ σe → J x 0 0 (wM (xG x) ad σ) 51 [(0, .ref (ad 0)), (1, .int pl), (2, .int v)] [] := by
  intro m
  induction m with
  | zero => intro σ hx; rw [show σ = σe from hx]; exact hex
  | succ m ih =>
    intro σ hx
    obtain ⟨⟨B, hm, hat⟩, hx⟩ := hx
    have hpos := hm.npos
    unfold f_X5_it at hx
    refine J_aload_n (pc := 51) (n := 0) (i := 0) h 0 rfl rfl dX5_run_51 ?_
    refine J_Mg20 (pc := 52) h m_352 (σ 0 20) rfl dX5_run_52 ?_
    refine J_if_le (pc := 55) h 186 (by decide) dX5_run_55 (fun c1 => ?_) (fun c1 => ?_)
    · exact absurd c1 hpos
    · skip
      refine J_aload_n (pc := 58) (n := 0) (i := 0) h 0 rfl rfl dX5_run_58 ?_
      refine J_Mg20 (pc := 59) h m_352 (σ 0 20) rfl dX5_run_59 ?_
      refine J_iconst (pc := 62) h (1) rfl dX5_run_62 ?_
      refine J_isub (pc := 63) h dX5_run_63 ?_
      refine J_istore_n (pc := 64) (n := 3) (i := 3) h [(3, .int ((σ 0 20) - 1)), (0, .ref (ad 0)), (1, .int pl), (2, .int v)] rfl (by rw [e4]; decide) rfl dX5_run_64 ?_
      refine J_aload_n (pc := 65) (n := 0) (i := 0) h 1 rfl rfl dX5_run_65 ?_
      refine J_Mr23 (pc := 66) h m_355 dX5_run_66 ?_
      refine J_iload_n (pc := 69) (n := 3) (i := 3) h 0 rfl rfl dX5_run_69 ?_
      refine J_Ma (pc := 70) h 15 80 ⟨by decide, by decide⟩ rfl hm.1.vin (σ 15 (((σ 0 20) - 1).toNatClampNeg)) rfl dX5_run_70 ?_
      refine J_aload_n (pc := 71) (n := 0) (i := 0) h 1 rfl rfl dX5_run_71 ?_
      refine J_Mr24 (pc := 72) h m_356 dX5_run_72 ?_
      refine J_iload_n (pc := 75) (n := 3) (i := 3) h 0 rfl rfl dX5_run_75 ?_
      refine J_Ma (pc := 76) h 16 80 ⟨by decide, by decide⟩ rfl hm.1.vin (σ 16 (((σ 0 20) - 1).toNatClampNeg)) rfl dX5_run_76 ?_
      refine J_icmp_ne (pc := 77) h 87 (by decide) dX5_run_77 (fun c2 => ?_) (fun c2 => ?_)
      · rw [if_neg c2] at hx
        refine J_aload_n (pc := 87) (n := 0) (i := 0) h 1 rfl rfl dX5_run_87 ?_
        refine J_Mg13 (pc := 88) h m_345 (σ 0 13) rfl dX5_run_88 ?_
        refine J_sipush (pc := 91) h (200) rfl dX5_run_91 ?_
        refine J_icmp_ne (pc := 94) h 106 (by decide) dX5_run_94 (fun c3 => ?_) (fun c3 => ?_)
        · rw [if_neg c3] at hx
          refine J_bipush (pc := 106) h (12) rfl dX5_run_106 ?_
          refine J_aload_n (pc := 108) (n := 0) (i := 0) h 1 rfl rfl dX5_run_108 ?_
          refine J_Mr22 (pc := 109) h m_354 dX5_run_109 ?_
          refine J_iload_n (pc := 112) (n := 3) (i := 3) h 0 rfl rfl dX5_run_112 ?_
          refine J_Ma (pc := 113) h 14 80 ⟨by decide, by decide⟩ rfl hm.1.vin (σ 14 (((σ 0 20) - 1).toNatClampNeg)) rfl dX5_run_113 ?_
          refine J_imul (pc := 114) h dX5_run_114 ?_
          refine J_aload_n (pc := 115) (n := 0) (i := 0) h 1 rfl rfl dX5_run_115 ?_
          refine J_Mr23 (pc := 116) h m_355 dX5_run_116 ?_
          refine J_iload_n (pc := 119) (n := 3) (i := 3) h 0 rfl rfl dX5_run_119 ?_
          refine J_Ma (pc := 120) h 15 80 ⟨by decide, by decide⟩ rfl hm.1.vin (σ 15 (((σ 0 20) - 1).toNatClampNeg)) rfl dX5_run_120 ?_
          refine J_iadd (pc := 121) h dX5_run_121 ?_
          refine J_istore (pc := 122) h [(4, .int ((12 * (σ 14 (((σ 0 20) - 1).toNatClampNeg))) + (σ 15 (((σ 0 20) - 1).toNatClampNeg)))), (3, .int ((σ 0 20) - 1)), (0, .ref (ad 0)), (1, .int pl), (2, .int v)] (by rw [e4]; decide) rfl dX5_run_122 ?_
          refine J_aload_n (pc := 124) (n := 0) (i := 0) h 2 rfl rfl dX5_run_124 ?_
          refine J_Mr23 (pc := 125) h m_355 dX5_run_125 ?_
          refine J_iload_n (pc := 128) (n := 3) (i := 3) h 1 rfl rfl dX5_run_128 ?_
          refine J_dup2 (pc := 129) h rfl rfl dX5_run_129 ?_
          refine J_Ma (pc := 130) h 15 80 ⟨by decide, by decide⟩ rfl hm.1.vin (σ 15 (((σ 0 20) - 1).toNatClampNeg)) rfl dX5_run_130 ?_
          refine J_iconst (pc := 131) h (1) rfl dX5_run_131 ?_
          refine J_iadd (pc := 132) h dX5_run_132 ?_
          refine J_Ms (pc := 133) h 15 80 ⟨by decide, by decide⟩ rfl hm.1.vin dX5_run_133 ?_
          refine J_aload_n (pc := 134) (n := 0) (i := 0) h 2 rfl rfl dX5_run_134 ?_
          refine J_dup (pc := 135) h rfl dX5_run_135 ?_
          refine J_Mg13 (pc := 136) h m_345 (σ 0 13) (up2_off _ _ (by decide)) dX5_run_136 ?_
          refine J_iconst (pc := 139) h (1) rfl dX5_run_139 ?_
          refine J_iadd (pc := 140) h dX5_run_140 ?_
          refine J_Mp13 (pc := 141) h m_345 dX5_run_141 ?_
          refine J_aload_n (pc := 144) (n := 0) (i := 0) h 2 rfl rfl dX5_run_144 ?_
          refine J_bipush (pc := 145) h (100) rfl dX5_run_145 ?_
          refine J_aload_n (pc := 147) (n := 0) (i := 0) h 2 rfl rfl dX5_run_147 ?_
          refine J_Mr9 (pc := 148) h m_341 dX5_run_148 ?_
          refine J_iload (pc := 151) h 0 rfl dX5_run_151 ?_
          refine J_Ma (pc := 153) h 9 72 ⟨by decide, by decide⟩ rfl (hat (by assumption)).1 (σ 9 (((12 * (σ 14 (((σ 0 20) - 1).toNatClampNeg))) + (σ 15 (((σ 0 20) - 1).toNatClampNeg))).toNatClampNeg)) ((up2_off _ _ (by decide)).trans (up2_off _ _ (by decide))) dX5_run_153 ?_
          refine J_iadd (pc := 154) h dX5_run_154 ?_
          refine J_cM (pc := 155) h hR (by omega) (c_X5_leave _ _ _ (up2 (up2 σ 15 (((σ 0 20) - 1).toNatClampNeg) ((σ 15 (((σ 0 20) - 1).toNatClampNeg)) + 1)) 0 13 ((σ 0 13) + 1)) (100 + (σ 9 (((12 * (σ 14 (((σ 0 20) - 1).toNatClampNeg))) + (σ 15 (((σ 0 20) - 1).toNatClampNeg))).toNatClampNeg))) (by rw [up2_row _ _ _ (by decide), up2_off _ _ (by decide)]; exact hm.1.t)) (by decide) m_451 m_453 ms_16 m_454 ⟨rfl, hd_X5_leave⟩ rfl rfl (Nat.le_of_ble_eq_true rfl) [] rfl dX5_run_155 ?_
          refine J_aload_n (pc := 158) (n := 0) (i := 0) h 2 rfl rfl dX5_run_158 ?_
          refine J_aload_n (pc := 159) (n := 0) (i := 0) h 2 rfl rfl dX5_run_159 ?_
          refine J_Mr9 (pc := 160) h m_341 dX5_run_160 ?_
          refine J_iload (pc := 163) h 0 rfl dX5_run_163 ?_
          refine J_Ma (pc := 165) h 9 72 ⟨by decide, by decide⟩ rfl (hat (by assumption)).1 ((f_X5_leave (100 + (σ 9 (((12 * (σ 14 (((σ 0 20) - 1).toNatClampNeg))) + (σ 15 (((σ 0 20) - 1).toNatClampNeg))).toNatClampNeg))) (up2 (up2 σ 15 (((σ 0 20) - 1).toNatClampNeg) ((σ 15 (((σ 0 20) - 1).toNatClampNeg)) + 1)) 0 13 ((σ 0 13) + 1))) 9 (((12 * (σ 14 (((σ 0 20) - 1).toNatClampNeg))) + (σ 15 (((σ 0 20) - 1).toNatClampNeg))).toNatClampNeg)) rfl dX5_run_165 ?_
          refine J_aload_n (pc := 166) (n := 0) (i := 0) h 2 rfl rfl dX5_run_166 ?_
          refine J_Mr10 (pc := 167) h m_342 dX5_run_167 ?_
          refine J_iload (pc := 170) h 0 rfl dX5_run_170 ?_
          refine J_Ma (pc := 172) h 10 72 ⟨by decide, by decide⟩ rfl (hat (by assumption)).1 ((f_X5_leave (100 + (σ 9 (((12 * (σ 14 (((σ 0 20) - 1).toNatClampNeg))) + (σ 15 (((σ 0 20) - 1).toNatClampNeg))).toNatClampNeg))) (up2 (up2 σ 15 (((σ 0 20) - 1).toNatClampNeg) ((σ 15 (((σ 0 20) - 1).toNatClampNeg)) + 1)) 0 13 ((σ 0 13) + 1))) 10 (((12 * (σ 14 (((σ 0 20) - 1).toNatClampNeg))) + (σ 15 (((σ 0 20) - 1).toNatClampNeg))).toNatClampNeg)) rfl dX5_run_172 ?_
          refine J_aload_n (pc := 173) (n := 0) (i := 0) h 2 rfl rfl dX5_run_173 ?_
          refine J_Mr11 (pc := 174) h m_343 dX5_run_174 ?_
          refine J_iload (pc := 177) h 0 rfl dX5_run_177 ?_
          refine J_Ma (pc := 179) h 11 72 ⟨by decide, by decide⟩ rfl (hat (by assumption)).1 ((f_X5_leave (100 + (σ 9 (((12 * (σ 14 (((σ 0 20) - 1).toNatClampNeg))) + (σ 15 (((σ 0 20) - 1).toNatClampNeg))).toNatClampNeg))) (up2 (up2 σ 15 (((σ 0 20) - 1).toNatClampNeg) ((σ 15 (((σ 0 20) - 1).toNatClampNeg)) + 1)) 0 13 ((σ 0 13) + 1))) 11 (((12 * (σ 14 (((σ 0 20) - 1).toNatClampNeg))) + (σ 15 (((σ 0 20) - 1).toNatClampNeg))).toNatClampNeg)) rfl dX5_run_179 ?_
          refine J_cM (pc := 180) h hR (by omega) (c_X5_does _ _ _ (f_X5_leave (100 + (σ 9 (((12 * (σ 14 (((σ 0 20) - 1).toNatClampNeg))) + (σ 15 (((σ 0 20) - 1).toNatClampNeg))).toNatClampNeg))) (up2 (up2 σ 15 (((σ 0 20) - 1).toNatClampNeg) ((σ 15 (((σ 0 20) - 1).toNatClampNeg)) + 1)) 0 13 ((σ 0 13) + 1))) ((f_X5_leave (100 + (σ 9 (((12 * (σ 14 (((σ 0 20) - 1).toNatClampNeg))) + (σ 15 (((σ 0 20) - 1).toNatClampNeg))).toNatClampNeg))) (up2 (up2 σ 15 (((σ 0 20) - 1).toNatClampNeg) ((σ 15 (((σ 0 20) - 1).toNatClampNeg)) + 1)) 0 13 ((σ 0 13) + 1))) 9 (((12 * (σ 14 (((σ 0 20) - 1).toNatClampNeg))) + (σ 15 (((σ 0 20) - 1).toNatClampNeg))).toNatClampNeg)) ((f_X5_leave (100 + (σ 9 (((12 * (σ 14 (((σ 0 20) - 1).toNatClampNeg))) + (σ 15 (((σ 0 20) - 1).toNatClampNeg))).toNatClampNeg))) (up2 (up2 σ 15 (((σ 0 20) - 1).toNatClampNeg) ((σ 15 (((σ 0 20) - 1).toNatClampNeg)) + 1)) 0 13 ((σ 0 13) + 1))) 10 (((12 * (σ 14 (((σ 0 20) - 1).toNatClampNeg))) + (σ 15 (((σ 0 20) - 1).toNatClampNeg))).toNatClampNeg)) ((f_X5_leave (100 + (σ 9 (((12 * (σ 14 (((σ 0 20) - 1).toNatClampNeg))) + (σ 15 (((σ 0 20) - 1).toNatClampNeg))).toNatClampNeg))) (up2 (up2 σ 15 (((σ 0 20) - 1).toNatClampNeg) ((σ 15 (((σ 0 20) - 1).toNatClampNeg)) + 1)) 0 13 ((σ 0 13) + 1))) 11 (((12 * (σ 14 (((σ 0 20) - 1).toNatClampNeg))) + (σ 15 (((σ 0 20) - 1).toNatClampNeg))).toNatClampNeg)) B (show MV B (f_X5_leave (100 + (σ 9 (((12 * (σ 14 (((σ 0 20) - 1).toNatClampNeg))) + (σ 15 (((σ 0 20) - 1).toNatClampNeg))).toNatClampNeg))) (up2 (up2 σ 15 (((σ 0 20) - 1).toNatClampNeg) ((σ 15 (((σ 0 20) - 1).toNatClampNeg)) + 1)) 0 13 ((σ 0 13) + 1))) from MV.leave (hm.of (by rw [up2_row _ _ _ (by decide), up2_off _ _ (by decide)]) (by rw [up2_row _ _ _ (by decide), up2_off _ _ (by decide)]) (fun k hk => by funext j; rw [up2_off _ _ (by omega), up2_off _ _ (by omega)])) _) (by simp only [lv_rows (k := 9) (by decide) (by decide), lv_rows (k := 10) (by decide) (by decide), lv_rows (k := 11) (by decide) (by decide), up2_off _ _ (show (9 : Nat) ≠ 0 by decide), up2_off _ _ (show (10 : Nat) ≠ 0 by decide), up2_off _ _ (show (11 : Nat) ≠ 0 by decide), up2_off _ _ (show (9 : Nat) ≠ 15 by decide), up2_off _ _ (show (10 : Nat) ≠ 15 by decide), up2_off _ _ (show (11 : Nat) ≠ 15 by decide)]; exact (hat (by assumption)).2)) (by decide) m_459 m_461 ms_18 m_462 ⟨rfl, hd_X5_does⟩ rfl rfl (Nat.le_of_ble_eq_true rfl) [] rfl dX5_run_180 ?_
          refine J_goto (pc := 183) h 51 (by decide) dX5_run_183 ?_
          refine J_sub [(0, .ref (ad 0)), (1, .int pl), (2, .int v)] [2, 3, 4] rfl ?_
          exact ih _ hx
        · rw [if_pos c3] at hx
          refine J_aload_n (pc := 97) (n := 0) (i := 0) h 1 rfl rfl dX5_run_97 ?_
          refine J_bipush (pc := 98) h (40) rfl dX5_run_98 ?_
          refine J_cM (pc := 100) h hR (by omega) (c_X5_fails _ _ _ σ 40 (B + 1) hm.1) (by decide) m_455 m_457 ms_17 m_458 ⟨rfl, hd_X5_fails⟩ rfl rfl (Nat.le_of_ble_eq_true rfl) [] rfl dX5_run_100 ?_
          refine J_goto (pc := 103) h 183 (by decide) dX5_run_103 ?_
          refine J_goto (pc := 183) h 51 (by decide) dX5_run_183 ?_
          refine J_sub [(0, .ref (ad 0)), (1, .int pl), (2, .int v)] [1, 2, 3] rfl ?_
          exact ih _ hx
      · rw [if_pos c2] at hx
        refine J_aload_n (pc := 80) (n := 0) (i := 0) h 1 rfl rfl dX5_run_80 ?_
        refine J_cM (pc := 81) h hR (by omega) (c_X5_pop _ _ _ σ  hm.1.vin hm.1.ab hm.1.t) (by decide) m_447 m_449 ms_15 m_450 ⟨rfl, hd_X5_pop⟩ rfl rfl (Nat.le_of_ble_eq_true rfl) [] rfl dX5_run_81 ?_
        refine J_goto (pc := 84) h 183 (by decide) dX5_run_84 ?_
        refine J_goto (pc := 183) h 51 (by decide) dX5_run_183 ?_
        refine J_sub [(0, .ref (ad 0)), (1, .int pl), (2, .int v)] [1, 2, 3] rfl ?_
        exact ih _ hx
def f_X5_end (σ : Sg) : Int32 × Sg := (if σ 0 14 = 0 then (1, up2 σ 0 15 (σ 0 14)) else ((-10) - (σ 0 14), up2 σ 0 15 (σ 0 14)))
set_option maxHeartbeats 4000000 in
theorem le_X5_run {x : Cx} {ad : Nat → Nat} {pl v : Int32} {σ : Sg} (h : Ok x cX5_run "SafeDeskModel" (some .int)) (hz : σ 0 20 ≤ 0) {out : Int32 × Sg} (hr : Rt x 0 0 (Det (some (.int out.1)) (wM (xG x) ad out.2))) (ho : f_X5_end σ = out) : J x 0 0 (wM (xG x) ad σ) 51 [(0, .ref (ad 0)), (1, .int pl), (2, .int v)] [] := by
  unfold f_X5_end at ho
  refine J_aload_n (pc := 51) (n := 0) (i := 0) h 0 rfl rfl dX5_run_51 ?_
  refine J_Mg20 (pc := 52) h m_352 (σ 0 20) rfl dX5_run_52 ?_
  refine J_if_le (pc := 55) h 186 (by decide) dX5_run_55 (fun c1 => ?_) (fun c1 => ?_)
  · skip
    refine J_aload_n (pc := 186) (n := 0) (i := 0) h 0 rfl rfl dX5_run_186 ?_
    refine J_aload_n (pc := 187) (n := 0) (i := 0) h 0 rfl rfl dX5_run_187 ?_
    refine J_Mg14 (pc := 188) h m_346 (σ 0 14) rfl dX5_run_188 ?_
    refine J_Mp15 (pc := 191) h m_347 dX5_run_191 ?_
    refine J_aload_n (pc := 194) (n := 0) (i := 0) h 0 rfl rfl dX5_run_194 ?_
    refine J_Mg14 (pc := 195) h m_346 (σ 0 14) (up2_row _ _ _ (by decide)) dX5_run_195 ?_
    refine J_if_ne (pc := 198) h 205 (by decide) dX5_run_198 (fun c2 => ?_) (fun c2 => ?_)
    · replace ho := (if_neg c2).symm.trans ho
      refine J_bipush (pc := 205) h (-10) rfl dX5_run_205 ?_
      refine J_aload_n (pc := 207) (n := 0) (i := 0) h 0 rfl rfl dX5_run_207 ?_
      refine J_Mg14 (pc := 208) h m_346 (σ 0 14) (up2_row _ _ _ (by decide)) dX5_run_208 ?_
      refine J_isub (pc := 211) h dX5_run_211 ?_
      exact J_iret (pc := 212) h hr (by subst ho; exact ⟨rfl, rfl⟩) dX5_run_212
    · replace ho := (if_pos c2).symm.trans ho
      refine J_iconst (pc := 201) h (1) rfl dX5_run_201 ?_
      refine J_goto (pc := 202) h 212 (by decide) dX5_run_202 ?_
      exact J_iret (pc := 212) h hr (by subst ho; exact ⟨rfl, rfl⟩) dX5_run_212
  · exact absurd hz c1
def f_X5_run (σe : Sg) (pl : Int32) (v : Int32) (σ : Sg) : Int32 × Sg := (if f_X5_in pl 0 5 = 0 then ((-1), σ) else (f_X5_end σe))
theorem hd_X5_run : yX5_run.cls ≠ "java/lang/invoke/MethodHandle" ∧ yX5_run.cls ≠ "java/lang/invoke/VarHandle" ∧ (parseMethodDescriptor yX5_run.desc).map (fun d => d.parameters.length) = some 2 := by decide +kernel
set_option maxHeartbeats 4000000 in
set_option maxRecDepth 20000 in
theorem c_X5_run (l : Launch) (g : Gy) (ad : Nat → Nat) (σ : Sg) (σe : Sg) (pl : Int32) (v : Int32) (hrch : ¬ f_X5_in pl 0 5 = 0 → ∃ m, Rch m (f_X5_beginPlan pl (up2 (up2 (up2 (up2 (up2 (up2 (up2 σ 0 12 v) 0 13 0) 0 14 0) 0 16 0) 0 17 0) 0 18 0) 0 20 0)) σe ∧ σe 0 20 ≤ 0) : Con l g yX5_run cX5_run 5 (some .int) (rmL 7) [.ref (ad 0), .int pl, .int v] (wM g ad σ) (Det (some (.int (f_X5_run σe pl v σ).1)) (wM g ad ((f_X5_run σe pl v σ).2))) := by
  refine Con.of (by decide) (Nat.le_of_ble_eq_true rfl) ?_
  intro x h e1 e2 e3 e4 e5 hr
  subst e1 e2
  have h : Ok x cX5_run "SafeDeskModel" (some .int) := h
  have hR : RmOk x 7 0 0 := RmOk.of e3 (Nat.le_refl _) (Nat.le_refl _)
  obtain ⟨out, ho⟩ : ∃ o, f_X5_run σe pl v σ = o := ⟨_, rfl⟩
  rw [ho] at hr
  unfold f_X5_run at ho
  show J x 0 0 _ 0 [(0, .ref (ad 0)), (1, .int pl), (2, .int v)] []
  refine J_iload_n (pc := 0) (n := 1) (i := 1) h 1 rfl rfl dX5_run_0 ?_
  refine J_iconst (pc := 1) h (0) rfl dX5_run_1 ?_
  refine J_iconst (pc := 2) h (5) rfl dX5_run_2 ?_
  refine J_cS (pc := 3) h hR (by decide) (c_X5_in _ _ _ pl 0 5 ) (by decide) m_415 m_416 m_3 m_417 hd_X5_in rfl rfl (Nat.le_of_ble_eq_true rfl) [.int (f_X5_in pl 0 5)] rfl dX5_run_3 ?_
  refine J_if_ne (pc := 6) h 11 (by decide) dX5_run_6 (fun c1 => ?_) (fun c1 => ?_)
  · replace ho := (if_neg c1).symm.trans ho
    refine J_aload_n (pc := 11) (n := 0) (i := 0) h 0 rfl rfl dX5_run_11 ?_
    refine J_iload_n (pc := 12) (n := 2) (i := 2) h 2 rfl rfl dX5_run_12 ?_
    refine J_Mp12 (pc := 13) h m_344 dX5_run_13 ?_
    refine J_aload_n (pc := 16) (n := 0) (i := 0) h 0 rfl rfl dX5_run_16 ?_
    refine J_iconst (pc := 17) h (0) rfl dX5_run_17 ?_
    refine J_Mp13 (pc := 18) h m_345 dX5_run_18 ?_
    refine J_aload_n (pc := 21) (n := 0) (i := 0) h 0 rfl rfl dX5_run_21 ?_
    refine J_iconst (pc := 22) h (0) rfl dX5_run_22 ?_
    refine J_Mp14 (pc := 23) h m_346 dX5_run_23 ?_
    refine J_aload_n (pc := 26) (n := 0) (i := 0) h 0 rfl rfl dX5_run_26 ?_
    refine J_iconst (pc := 27) h (0) rfl dX5_run_27 ?_
    refine J_Mp16 (pc := 28) h m_348 dX5_run_28 ?_
    refine J_aload_n (pc := 31) (n := 0) (i := 0) h 0 rfl rfl dX5_run_31 ?_
    refine J_iconst (pc := 32) h (0) rfl dX5_run_32 ?_
    refine J_Mp17 (pc := 33) h m_349 dX5_run_33 ?_
    refine J_aload_n (pc := 36) (n := 0) (i := 0) h 0 rfl rfl dX5_run_36 ?_
    refine J_iconst (pc := 37) h (0) rfl dX5_run_37 ?_
    refine J_Mp18 (pc := 38) h m_350 dX5_run_38 ?_
    refine J_aload_n (pc := 41) (n := 0) (i := 0) h 0 rfl rfl dX5_run_41 ?_
    refine J_iconst (pc := 42) h (0) rfl dX5_run_42 ?_
    refine J_Mp20 (pc := 43) h m_352 dX5_run_43 ?_
    refine J_aload_n (pc := 46) (n := 0) (i := 0) h 0 rfl rfl dX5_run_46 ?_
    refine J_iload_n (pc := 47) (n := 1) (i := 1) h 1 rfl rfl dX5_run_47 ?_
    refine J_cM (pc := 48) h hR (by decide) (c_X5_beginPlan _ _ _ (up2 (up2 (up2 (up2 (up2 (up2 (up2 σ 0 12 v) 0 13 0) 0 14 0) 0 16 0) 0 17 0) 0 18 0) 0 20 0) pl (in_plan (by assumption)) (by rw [up2_self]; exact vp_in_nI (n := 0) (by decide) (by decide))) (by decide) m_439 m_441 ms_13 m_442 ⟨rfl, hd_X5_beginPlan⟩ rfl rfl (Nat.le_of_ble_eq_true rfl) [] rfl dX5_run_48 ?_
    obtain ⟨m, hx, hz⟩ := hrch (by assumption)
    exact lp_X5_run (by decide) h hR e4 (le_X5_run h hz hr ho) m _ hx
  · replace ho := (if_pos c1).symm.trans ho
    refine J_iconst (pc := 9) h (-1) rfl dX5_run_9 ?_
    exact J_iret (pc := 10) h hr (by subst ho; exact ⟨rfl, rfl⟩) dX5_run_10
def f_X5_safe (a : Int32) (kd : Int32) (c : Int32) (σ : Sg) : Int32 × Sg := (if f_X5_in a 0 7 = 0 then ((-1), σ) else (if f_X5_in kd 0 2 = 0 then ((-1), σ) else (if f_X5_in c 0 1000000 = 0 then ((-1), σ) else (1, up2 (up2 (up2 (up2 σ 1 ((σ 0 0).toNatClampNeg) kd) 2 ((σ 0 0).toNatClampNeg) c) 7 a.toNatClampNeg (σ 0 0)) 0 0 ((σ 0 0) + 1)))))
theorem hd_X5_safe : yX5_safe.cls ≠ "java/lang/invoke/MethodHandle" ∧ yX5_safe.cls ≠ "java/lang/invoke/VarHandle" ∧ (parseMethodDescriptor yX5_safe.desc).map (fun d => d.parameters.length) = some 3 := by decide +kernel
set_option maxHeartbeats 4000000 in
set_option maxRecDepth 20000 in
theorem c_X5_safe (l : Launch) (g : Gy) (ad : Nat → Nat) (σ : Sg) (a : Int32) (kd : Int32) (c : Int32) (hs : vp_in (σ 0 0) 4200) : Con l g yX5_safe cX5_safe 4 (some .int) (rmL 1) [.ref (ad 0), .int a, .int kd, .int c] (wM g ad σ) (Det (some (.int (f_X5_safe a kd c σ).1)) (wM g ad ((f_X5_safe a kd c σ).2))) := by
  refine Con.of (by decide) (Nat.le_of_ble_eq_true rfl) ?_
  intro x h e1 e2 e3 e4 e5 hr
  subst e1 e2
  have h : Ok x cX5_safe "SafeDeskModel" (some .int) := h
  have hR : RmOk x 1 0 0 := RmOk.of e3 (Nat.le_refl _) (Nat.le_refl _)
  obtain ⟨out, ho⟩ : ∃ o, f_X5_safe a kd c σ = o := ⟨_, rfl⟩
  rw [ho] at hr
  unfold f_X5_safe at ho
  show J x 0 0 _ 0 [(0, .ref (ad 0)), (1, .int a), (2, .int kd), (3, .int c)] []
  refine J_iload_n (pc := 0) (n := 1) (i := 1) h 1 rfl rfl dX5_safe_0 ?_
  refine J_iconst (pc := 1) h (0) rfl dX5_safe_1 ?_
  refine J_bipush (pc := 2) h (7) rfl dX5_safe_2 ?_
  refine J_cS (pc := 4) h hR (by decide) (c_X5_in _ _ _ a 0 7 ) (by decide) m_415 m_416 m_3 m_417 hd_X5_in rfl rfl (Nat.le_of_ble_eq_true rfl) [.int (f_X5_in a 0 7)] rfl dX5_safe_4 ?_
  refine J_if_eq (pc := 7) h 29 (by decide) dX5_safe_7 (fun c1 => ?_) (fun c1 => ?_)
  · replace ho := (if_pos c1).symm.trans ho
    refine J_iconst (pc := 29) h (-1) rfl dX5_safe_29 ?_
    exact J_iret (pc := 30) h hr (by subst ho; exact ⟨rfl, rfl⟩) dX5_safe_30
  · replace ho := (if_neg c1).symm.trans ho
    refine J_iload_n (pc := 10) (n := 2) (i := 2) h 2 rfl rfl dX5_safe_10 ?_
    refine J_iconst (pc := 11) h (0) rfl dX5_safe_11 ?_
    refine J_iconst (pc := 12) h (2) rfl dX5_safe_12 ?_
    refine J_cS (pc := 13) h hR (by decide) (c_X5_in _ _ _ kd 0 2 ) (by decide) m_415 m_416 m_3 m_417 hd_X5_in rfl rfl (Nat.le_of_ble_eq_true rfl) [.int (f_X5_in kd 0 2)] rfl dX5_safe_13 ?_
    refine J_if_eq (pc := 16) h 29 (by decide) dX5_safe_16 (fun c2 => ?_) (fun c2 => ?_)
    · replace ho := (if_pos c2).symm.trans ho
      refine J_iconst (pc := 29) h (-1) rfl dX5_safe_29 ?_
      exact J_iret (pc := 30) h hr (by subst ho; exact ⟨rfl, rfl⟩) dX5_safe_30
    · replace ho := (if_neg c2).symm.trans ho
      refine J_iload_n (pc := 19) (n := 3) (i := 3) h 3 rfl rfl dX5_safe_19 ?_
      refine J_iconst (pc := 20) h (0) rfl dX5_safe_20 ?_
      refine J_ldc (pc := 21) h m_418 dX5_safe_21 ?_
      refine J_cS (pc := 23) h hR (by decide) (c_X5_in _ _ _ c 0 1000000 ) (by decide) m_415 m_416 m_3 m_417 hd_X5_in rfl rfl (Nat.le_of_ble_eq_true rfl) [.int (f_X5_in c 0 1000000)] rfl dX5_safe_23 ?_
      refine J_if_ne (pc := 26) h 31 (by decide) dX5_safe_26 (fun c3 => ?_) (fun c3 => ?_)
      · replace ho := (if_neg c3).symm.trans ho
        refine J_aload_n (pc := 31) (n := 0) (i := 0) h 0 rfl rfl dX5_safe_31 ?_
        refine J_Mr1 (pc := 32) h m_333 dX5_safe_32 ?_
        refine J_aload_n (pc := 35) (n := 0) (i := 0) h 0 rfl rfl dX5_safe_35 ?_
        refine J_Mg0 (pc := 36) h m_332 (σ 0 0) rfl dX5_safe_36 ?_
        refine J_iload_n (pc := 39) (n := 2) (i := 2) h 2 rfl rfl dX5_safe_39 ?_
        refine J_Ms (pc := 40) h 1 4200 ⟨by decide, by decide⟩ rfl hs dX5_safe_40 ?_
        refine J_aload_n (pc := 41) (n := 0) (i := 0) h 0 rfl rfl dX5_safe_41 ?_
        refine J_Mr2 (pc := 42) h m_334 dX5_safe_42 ?_
        refine J_aload_n (pc := 45) (n := 0) (i := 0) h 0 rfl rfl dX5_safe_45 ?_
        refine J_Mg0 (pc := 46) h m_332 (σ 0 0) (up2_off _ _ (by decide)) dX5_safe_46 ?_
        refine J_iload_n (pc := 49) (n := 3) (i := 3) h 3 rfl rfl dX5_safe_49 ?_
        refine J_Ms (pc := 50) h 2 4200 ⟨by decide, by decide⟩ rfl hs dX5_safe_50 ?_
        refine J_aload_n (pc := 51) (n := 0) (i := 0) h 0 rfl rfl dX5_safe_51 ?_
        refine J_Mr7 (pc := 52) h m_339 dX5_safe_52 ?_
        refine J_iload_n (pc := 55) (n := 1) (i := 1) h 1 rfl rfl dX5_safe_55 ?_
        refine J_aload_n (pc := 56) (n := 0) (i := 0) h 0 rfl rfl dX5_safe_56 ?_
        refine J_Mg0 (pc := 57) h m_332 (σ 0 0) ((up2_off _ _ (by decide)).trans (up2_off _ _ (by decide))) dX5_safe_57 ?_
        refine J_Ms (pc := 60) h 7 8 ⟨by decide, by decide⟩ rfl (in_room (by assumption)) dX5_safe_60 ?_
        refine J_aload_n (pc := 61) (n := 0) (i := 0) h 0 rfl rfl dX5_safe_61 ?_
        refine J_dup (pc := 62) h rfl dX5_safe_62 ?_
        refine J_Mg0 (pc := 63) h m_332 (σ 0 0) ((up2_off _ _ (by decide)).trans ((up2_off _ _ (by decide)).trans (up2_off _ _ (by decide)))) dX5_safe_63 ?_
        refine J_iconst (pc := 66) h (1) rfl dX5_safe_66 ?_
        refine J_iadd (pc := 67) h dX5_safe_67 ?_
        refine J_Mp0 (pc := 68) h m_332 dX5_safe_68 ?_
        refine J_iconst (pc := 71) h (1) rfl dX5_safe_71 ?_
        exact J_iret (pc := 72) h hr (by subst ho; exact ⟨rfl, rfl⟩) dX5_safe_72
      · replace ho := (if_pos c3).symm.trans ho
        refine J_iconst (pc := 29) h (-1) rfl dX5_safe_29 ?_
        exact J_iret (pc := 30) h hr (by subst ho; exact ⟨rfl, rfl⟩) dX5_safe_30
end
section
theorem up2_eq (σ : Sg) (k i : Nat) (v : Int32) (k' i' : Nat) : up2 σ k i v k' i' = if k' = k ∧ i' = i then v else σ k' i' := by
  by_cases hk : k' = k
  · subst hk
    by_cases hi : i' = i
    · subst hi; simp [up2_self]
    · rw [up2_row _ _ _ hi, if_neg (fun q => hi q.2)]
  · rw [up2_off _ _ hk, if_neg (fun q => hk q.1)]
theorem up2_noop {σ : Sg} {k i : Nat} {v : Int32} (h : σ k i = v) : up2 σ k i v = σ := by
  funext a b
  rw [up2_eq]
  split
  · rename_i q; rw [q.1, q.2, h]
  · rfl
/-- the class's ints and the reference's, while a run goes on -/
def RR (σ τ : Sg) : Prop := (∀ i f, f < 6 → σ (28 + i) f = τ (f + 1) i) ∧ (∀ r, σ 1 r = τ 7 r) ∧ (∀ i, σ 3 i = τ 12 i) ∧ σ 0 3 = τ 0 18 ∧ σ 0 4 = τ 0 12 ∧ σ 0 5 = τ 0 13 ∧ σ 0 7 = τ 0 16 ∧ σ 0 8 = τ 0 17
theorem RR.s {σ τ : Sg} (h : RR σ τ) {i f : Nat} (hf : f < 6) (v : Int32) : RR (up2 σ (28 + i) f v) (up2 τ (f + 1) i v) := by
  have o1 : ∀ k j, k < 28 → up2 σ (28 + i) f v k j = σ k j := fun k j hk => up2_off _ _ (by omega)
  have o2 : ∀ k j, k ≠ f + 1 → up2 τ (f + 1) i v k j = τ k j := fun k j hk => up2_off _ _ hk
  refine ⟨fun i' f' hf' => ?_, fun r => ?_, fun j => ?_, ?_, ?_, ?_, ?_, ?_⟩
  · rw [up2_eq, up2_eq]
    by_cases c : i' = i ∧ f' = f
    · rw [if_pos (by omega), if_pos (by omega)]
    · rw [if_neg (by omega), if_neg (by omega)]; exact h.1 i' f' hf'
  · rw [o1 _ _ (by decide), o2 _ _ (by omega)]; exact h.2.1 r
  · rw [o1 _ _ (by decide), o2 _ _ (by omega)]; exact h.2.2.1 j
  · rw [o1 _ _ (by decide), o2 _ _ (by omega)]; exact h.2.2.2.1
  · rw [o1 _ _ (by decide), o2 _ _ (by omega)]; exact h.2.2.2.2.1
  · rw [o1 _ _ (by decide), o2 _ _ (by omega)]; exact h.2.2.2.2.2.1
  · rw [o1 _ _ (by decide), o2 _ _ (by omega)]; exact h.2.2.2.2.2.2.1
  · rw [o1 _ _ (by decide), o2 _ _ (by omega)]; exact h.2.2.2.2.2.2.2
theorem RR.g3 {σ τ : Sg} (h : RR σ τ) (v : Int32) : RR (up2 σ 0 3 v) (up2 τ 0 18 v) := by
  refine ⟨fun i' f' hf' => ?_, fun r => ?_, fun j => ?_, ?_, ?_, ?_, ?_, ?_⟩
  · rw [up2_off _ _ (by omega), up2_off _ _ (by omega)]; exact h.1 i' f' hf'
  · rw [up2_off _ _ (by decide), up2_off _ _ (by decide)]; exact h.2.1 r
  · rw [up2_off _ _ (by decide), up2_off _ _ (by decide)]; exact h.2.2.1 j
  · rw [up2_self, up2_self]
  · rw [up2_row _ _ _ (by decide), up2_row _ _ _ (by decide)]; exact h.2.2.2.2.1
  · rw [up2_row _ _ _ (by decide), up2_row _ _ _ (by decide)]; exact h.2.2.2.2.2.1
  · rw [up2_row _ _ _ (by decide), up2_row _ _ _ (by decide)]; exact h.2.2.2.2.2.2.1
  · rw [up2_row _ _ _ (by decide), up2_row _ _ _ (by decide)]; exact h.2.2.2.2.2.2.2
theorem RR.g4 {σ τ : Sg} (h : RR σ τ) (v : Int32) : RR (up2 σ 0 4 v) (up2 τ 0 12 v) := by
  refine ⟨fun i' f' hf' => ?_, fun r => ?_, fun j => ?_, ?_, ?_, ?_, ?_, ?_⟩
  · rw [up2_off _ _ (by omega), up2_off _ _ (by omega)]; exact h.1 i' f' hf'
  · rw [up2_off _ _ (by decide), up2_off _ _ (by decide)]; exact h.2.1 r
  · rw [up2_off _ _ (by decide), up2_off _ _ (by decide)]; exact h.2.2.1 j
  · rw [up2_row _ _ _ (by decide), up2_row _ _ _ (by decide)]; exact h.2.2.2.1
  · rw [up2_self, up2_self]
  · rw [up2_row _ _ _ (by decide), up2_row _ _ _ (by decide)]; exact h.2.2.2.2.2.1
  · rw [up2_row _ _ _ (by decide), up2_row _ _ _ (by decide)]; exact h.2.2.2.2.2.2.1
  · rw [up2_row _ _ _ (by decide), up2_row _ _ _ (by decide)]; exact h.2.2.2.2.2.2.2
theorem RR.g5 {σ τ : Sg} (h : RR σ τ) (v : Int32) : RR (up2 σ 0 5 v) (up2 τ 0 13 v) := by
  refine ⟨fun i' f' hf' => ?_, fun r => ?_, fun j => ?_, ?_, ?_, ?_, ?_, ?_⟩
  · rw [up2_off _ _ (by omega), up2_off _ _ (by omega)]; exact h.1 i' f' hf'
  · rw [up2_off _ _ (by decide), up2_off _ _ (by decide)]; exact h.2.1 r
  · rw [up2_off _ _ (by decide), up2_off _ _ (by decide)]; exact h.2.2.1 j
  · rw [up2_row _ _ _ (by decide), up2_row _ _ _ (by decide)]; exact h.2.2.2.1
  · rw [up2_row _ _ _ (by decide), up2_row _ _ _ (by decide)]; exact h.2.2.2.2.1
  · rw [up2_self, up2_self]
  · rw [up2_row _ _ _ (by decide), up2_row _ _ _ (by decide)]; exact h.2.2.2.2.2.2.1
  · rw [up2_row _ _ _ (by decide), up2_row _ _ _ (by decide)]; exact h.2.2.2.2.2.2.2
theorem RR.g7 {σ τ : Sg} (h : RR σ τ) (v : Int32) : RR (up2 σ 0 7 v) (up2 τ 0 16 v) := by
  refine ⟨fun i' f' hf' => ?_, fun r => ?_, fun j => ?_, ?_, ?_, ?_, ?_, ?_⟩
  · rw [up2_off _ _ (by omega), up2_off _ _ (by omega)]; exact h.1 i' f' hf'
  · rw [up2_off _ _ (by decide), up2_off _ _ (by decide)]; exact h.2.1 r
  · rw [up2_off _ _ (by decide), up2_off _ _ (by decide)]; exact h.2.2.1 j
  · rw [up2_row _ _ _ (by decide), up2_row _ _ _ (by decide)]; exact h.2.2.2.1
  · rw [up2_row _ _ _ (by decide), up2_row _ _ _ (by decide)]; exact h.2.2.2.2.1
  · rw [up2_row _ _ _ (by decide), up2_row _ _ _ (by decide)]; exact h.2.2.2.2.2.1
  · rw [up2_self, up2_self]
  · rw [up2_row _ _ _ (by decide), up2_row _ _ _ (by decide)]; exact h.2.2.2.2.2.2.2
theorem RR.g8 {σ τ : Sg} (h : RR σ τ) (v : Int32) : RR (up2 σ 0 8 v) (up2 τ 0 17 v) := by
  refine ⟨fun i' f' hf' => ?_, fun r => ?_, fun j => ?_, ?_, ?_, ?_, ?_, ?_⟩
  · rw [up2_off _ _ (by omega), up2_off _ _ (by omega)]; exact h.1 i' f' hf'
  · rw [up2_off _ _ (by decide), up2_off _ _ (by decide)]; exact h.2.1 r
  · rw [up2_off _ _ (by decide), up2_off _ _ (by decide)]; exact h.2.2.1 j
  · rw [up2_row _ _ _ (by decide), up2_row _ _ _ (by decide)]; exact h.2.2.2.1
  · rw [up2_row _ _ _ (by decide), up2_row _ _ _ (by decide)]; exact h.2.2.2.2.1
  · rw [up2_row _ _ _ (by decide), up2_row _ _ _ (by decide)]; exact h.2.2.2.2.2.1
  · rw [up2_row _ _ _ (by decide), up2_row _ _ _ (by decide)]; exact h.2.2.2.2.2.2.1
  · rw [up2_self, up2_self]
theorem RR.r {σ τ : Sg} (h : RR σ τ) (r : Nat) (v : Int32) : RR (up2 σ 1 r v) (up2 τ 7 r v) := by
  refine ⟨fun i' f' hf' => ?_, fun r' => ?_, fun j => ?_, ?_, ?_, ?_, ?_, ?_⟩
  · rw [up2_off _ _ (by omega), up2_off _ _ (by omega)]; exact h.1 i' f' hf'
  · rw [up2_eq, up2_eq]
    by_cases c : r' = r
    · rw [if_pos ⟨rfl, c⟩, if_pos ⟨rfl, c⟩]
    · rw [if_neg (fun q => c q.2), if_neg (fun q => c q.2)]; exact h.2.1 r'
  all_goals rw [up2_off _ _ (by decide), up2_off _ _ (by decide)]
  · exact h.2.2.1 j
  · exact h.2.2.2.1
  · exact h.2.2.2.2.1
  · exact h.2.2.2.2.2.1
  · exact h.2.2.2.2.2.2.1
  · exact h.2.2.2.2.2.2.2
theorem RR.t {σ τ : Sg} (h : RR σ τ) (r : Nat) (v : Int32) : RR (up2 σ 3 r v) (up2 τ 12 r v) := by
  refine ⟨fun i' f' hf' => ?_, fun r' => ?_, fun j => ?_, ?_, ?_, ?_, ?_, ?_⟩
  · rw [up2_off _ _ (by omega), up2_off _ _ (by omega)]; exact h.1 i' f' hf'
  · rw [up2_off _ _ (by decide), up2_off _ _ (by decide)]; exact h.2.1 r'
  · rw [up2_eq, up2_eq]
    by_cases c : j = r
    · rw [if_pos ⟨rfl, c⟩, if_pos ⟨rfl, c⟩]
    · rw [if_neg (fun q => c q.2), if_neg (fun q => c q.2)]; exact h.2.2.1 j
  all_goals rw [up2_off _ _ (by decide), up2_off _ _ (by decide)]
  · exact h.2.2.2.1
  · exact h.2.2.2.2.1
  · exact h.2.2.2.2.2.1
  · exact h.2.2.2.2.2.2.1
  · exact h.2.2.2.2.2.2.2
/-- what the relation reads of the reference -/
theorem RR.mo {σ τ τ' : Sg} (h : RR σ τ) (e : ∀ k i, 0 < k → k < 13 → τ' k i = τ k i) (e0 : ∀ i, i = 18 ∨ i = 12 ∨ i = 13 ∨ i = 16 ∨ i = 17 → τ' 0 i = τ 0 i) : RR σ τ' := by
  refine ⟨fun i' f' hf' => ?_, fun r' => ?_, fun j => ?_, ?_, ?_, ?_, ?_, ?_⟩
  · rw [e _ _ (by omega) (by omega)]; exact h.1 i' f' hf'
  · rw [e _ _ (by omega) (by omega)]; exact h.2.1 r'
  · rw [e _ _ (by omega) (by omega)]; exact h.2.2.1 j
  · rw [e0 _ (by omega)]; exact h.2.2.2.1
  · rw [e0 _ (by omega)]; exact h.2.2.2.2.1
  · rw [e0 _ (by omega)]; exact h.2.2.2.2.2.1
  · rw [e0 _ (by omega)]; exact h.2.2.2.2.2.2.1
  · rw [e0 _ (by omega)]; exact h.2.2.2.2.2.2.2
theorem RR.mr {σ τ : Sg} (h : RR σ τ) {k i : Nat} {v : Int32} (hk : 13 ≤ k) : RR σ (up2 τ k i v) := h.mo (fun k' i' h1 h2 => up2_off _ _ (by omega)) (fun i' h1 => up2_off _ _ (by omega))
theorem RR.m0 {σ τ : Sg} (h : RR σ τ) {i : Nat} {v : Int32} (hi : i = 20 ∨ i = 14) : RR σ (up2 τ 0 i v) := h.mo (fun k' i' h1 h2 => up2_off _ _ (by omega)) (fun i' h1 => up2_row _ _ _ (by omega))
section SAFE
variable {σ τ : Sg} {i : Nat} {s v : Int32}
theorem RR.enter (h : RR σ τ) (hs : s.toNatClampNeg = i) : RR (f_X1_enter (28 + i) σ) (f_X5_enter s τ) := by
  have e3 := h.1 i 3 (by decide)
  have e4 := h.1 i 4 (by decide)
  have e5 := h.1 i 5 (by decide)
  unfold f_X1_enter f_X5_enter
  rw [hs, e3, e4, e5]
  have h2 := (h.s (i := i) (f := 4) (by decide) ((τ 5 i) + 1)).s (i := i) (f := 3) (by decide) ((τ 4 i) + 1)
  by_cases c : (τ 5 i) + 1 ≤ τ 6 i
  · rw [if_pos c, if_pos c, up2_noop (v := τ 6 i) (by rw [up2_off _ _ (by decide), up2_off _ _ (by decide)])]
    exact h2
  · rw [if_neg c, if_neg c]
    exact h2.s (by decide) _
theorem RR.lv (h : RR σ τ) {q : Int32} (hq : τ 5 i = q) : RR (f_X1_leave (28 + i) σ) (up2 τ 5 i (q - 1)) := by
  unfold f_X1_leave
  rw [h.1 i 4 (by decide), hq]
  exact h.s (by decide) _
/-- done, or short -/
def RP (c m : Int32) : Prop := (c = 0 ∧ m = 1) ∨ (c = 30 ∧ m = 0)
theorem RR.put1 (h : RR σ τ) (hs : s.toNatClampNeg = i) : RP (f_X1_put (28 + i) v σ).1 (f_X5_putPlain s v τ).1 ∧ RR (f_X1_put (28 + i) v σ).2 (f_X5_putPlain s v τ).2 := by
  have h1 := h.enter hs
  unfold f_X1_put f_X5_putPlain
  rw [hs]
  generalize f_X1_enter (28 + i) σ = σ1 at h1
  generalize f_X5_enter s τ = τ1 at h1
  rw [h1.1 i 1 (by decide)]
  by_cases c1 : lg_cmp (((τ1 2 i).toInt64) + v.toInt64) 0 < 0
  · rw [if_pos c1, if_pos c1, up2_noop (rfl)]
    exact ⟨Or.inr ⟨rfl, rfl⟩, h1.lv rfl⟩
  · rw [if_neg c1, if_neg c1]
    by_cases c2 : 0 < lg_cmp (((τ1 2 i).toInt64) + v.toInt64) 1000000
    · rw [if_pos c2, if_pos c2, up2_noop (rfl)]
      exact ⟨Or.inr ⟨rfl, rfl⟩, h1.lv rfl⟩
    · rw [if_neg c2, if_neg c2]
      exact ⟨Or.inl ⟨rfl, rfl⟩, (h1.s (f := 1) (by decide) _).lv (up2_off _ _ (by decide))⟩
theorem RR.put2 (h : RR σ τ) (hs : s.toNatClampNeg = i) : RP (f_X2_put (28 + i) v σ).1 (f_X5_putTimed s v τ).1 ∧ RR (f_X2_put (28 + i) v σ).2 (f_X5_putTimed s v τ).2 := by
  have h1 := h.enter hs
  unfold f_X2_put f_X5_putTimed
  rw [hs]
  generalize f_X1_enter (28 + i) σ = σ1 at h1
  generalize f_X5_enter s τ = τ1 at h1
  rw [h1.1 i 2 (by decide)]
  have h2 := (h1.s (i := i) (f := 2) (by decide) ((τ1 3 i) + 1)).put1 (v := v) hs
  exact ⟨h2.1, h2.2.lv rfl⟩
theorem RP.z {c m : Int32} (h : RP c m) : c = 0 ↔ ¬ m = 0 := by
  rcases h with ⟨rfl, rfl⟩ | ⟨rfl, rfl⟩ <;> decide
theorem RR.put3 (h : RR σ τ) (hs : s.toNatClampNeg = i) (h0 : ¬ τ 1 i = 0) (h1' : ¬ τ 1 i = 1) : RP (f_X3_put (28 + i) v σ).1 (f_X5_put s v τ).1 ∧ RR (f_X3_put (28 + i) v σ).2 (f_X5_put s v τ).2 := by
  have h1 := h.enter hs
  unfold f_X3_put f_X5_put
  rw [hs, if_neg h0, if_neg h1']
  generalize f_X1_enter (28 + i) σ = σ1 at h1
  generalize f_X5_enter s τ = τ1 at h1
  have h2 := h1.put2 (v := v) hs
  by_cases c : (f_X2_put (28 + i) v σ1).1 = 0
  · rw [if_pos c, if_neg (h2.1.z.mp c)]
    have h3 := h2.2.put2 (v := v) hs
    by_cases c3 : (f_X5_putTimed s v (f_X5_putTimed s v τ1).2).1 = 0
    · rw [if_pos c3]
      refine ⟨?_, h3.2.lv rfl⟩
      have h4 := h3.1
      rw [c3] at h4
      exact h4
    · rw [if_neg c3]
      refine ⟨?_, h3.2.lv rfl⟩
      rcases h3.1 with q | q
      · exact Or.inl ⟨q.1, rfl⟩
      · exact absurd q.2 c3
  · have c2 : (f_X5_putTimed s v τ1).1 = 0 := Decidable.byContradiction fun q => c (h2.1.z.mpr q)
    rw [if_neg c, if_pos c2]
    refine ⟨?_, h2.2.lv rfl⟩
    have h4 := h2.1
    rw [c2] at h4
    exact h4
theorem RR.vput (h : RR σ τ) (hs : s.toNatClampNeg = i) : RP (f_vput (28 + i) v σ).1 (f_X5_put s v τ).1 ∧ RR (f_vput (28 + i) v σ).2 (f_X5_put s v τ).2 := by
  have e0 := h.1 i 0 (by decide)
  by_cases c0 : τ 1 i = 0
  · have e1 : f_vput (28 + i) v σ = f_X1_put (28 + i) v σ := if_pos (by rw [e0]; exact c0)
    have e2 : f_X5_put s v τ = f_X5_putPlain s v τ := if_pos (by rw [hs]; exact c0)
    rw [e1, e2]
    exact h.put1 hs
  · by_cases c1 : τ 1 i = 1
    · have e1 : f_vput (28 + i) v σ = f_X2_put (28 + i) v σ := (if_neg (by rw [e0]; exact c0)).trans (if_pos (by rw [e0]; exact c1))
      have e2 : f_X5_put s v τ = f_X5_putTimed s v τ := (if_neg (by rw [hs]; exact c0)).trans (if_pos (by rw [hs]; exact c1))
      rw [e1, e2]
      exact h.put2 hs
    · have e1 : f_vput (28 + i) v σ = f_X3_put (28 + i) v σ := (if_neg (by rw [e0]; exact c0)).trans (if_neg (by rw [e0]; exact c1))
      rw [e1]
      exact h.put3 hs c0 c1
theorem RR.give (h : RR σ τ) (hs : s.toNatClampNeg = i) (w : Int32) : (f_X1_give (28 + i) v w σ).1 = (f_X5_give s w v τ).1 ∧ RR (f_X1_give (28 + i) v w σ).2 (f_X5_give s w v τ).2 := by
  have h1 := h.enter hs
  unfold f_X1_give f_X5_give
  rw [hs]
  generalize f_X1_enter (28 + i) σ = σ1 at h1
  generalize f_X5_enter s τ = τ1 at h1
  have h2 := h1.vput (v := -v) hs
  generalize f_vput (28 + i) (-v) σ1 = a2 at h2
  generalize f_X5_put s (-v) τ1 = b2 at h2
  by_cases c : a2.1 = 0
  · rw [if_pos c, if_neg (h2.1.z.mp c)]
    by_cases cw : w = -1
    · rw [if_pos cw, if_pos cw]
      have h3 := h2.2.vput (v := v) hs
      exact ⟨rfl, h3.2.lv rfl⟩
    · rw [if_neg cw, if_neg cw]
      have h3 := h2.2.vput (v := v) (s := w) (i := w.toNatClampNeg) rfl
      generalize f_vput (28 + w.toNatClampNeg) v a2.2 = a3 at h3
      generalize f_X5_put w v b2.2 = b3 at h3
      by_cases c3 : a3.1 = 0
      · rw [if_pos c3, if_neg (h3.1.z.mp c3)]
        exact ⟨c3, h3.2.lv rfl⟩
      · have c4 : b3.1 = 0 := Decidable.byContradiction fun q => c3 (h3.1.z.mpr q)
        rw [if_neg c3, if_pos c4]
        have h4 := h3.2.vput (v := v) hs
        refine ⟨?_, h4.2.lv rfl⟩
        rcases h3.1 with q | q
        · exact absurd q.1 c3
        · exact q.1
  · have c4 : b2.1 = 0 := Decidable.byContradiction fun q => c (h2.1.z.mpr q)
    rw [if_neg c, if_pos c4]
    refine ⟨?_, h2.2.lv rfl⟩
    rcases h2.1 with q | q
    · exact absurd q.1 c
    · exact q.1
end SAFE
theorem RR.trace {σ τ : Sg} (h : RR σ τ) (a : Int32) : RR (f_X4_leaveInTrace a σ) (f_X5_leave a τ) := by
  unfold f_X4_leaveInTrace f_X5_leave
  rw [h.2.2.2.1]
  by_cases c : (120 : Int32) ≤ τ 0 18
  · rw [if_pos c, if_pos c]; exact h
  · rw [if_neg c, if_neg c]
    exact (h.t _ _).g3 _
end
section
theorem up2_up2 (σ : Sg) (k i : Nat) (v w : Int32) : up2 (up2 σ k i v) k i w = up2 σ k i w := by
  funext a b
  rw [up2_eq, up2_eq, up2_eq]
  by_cases c : a = k ∧ b = i
  · rw [if_pos c, if_pos c]
  · rw [if_neg c, if_neg c, if_neg c]
theorem sub11 (a : Int32) : a - 1 - 1 = a - (1 + 1) := by
  rw [Int32.sub_eq_add_neg, Int32.sub_eq_add_neg, Int32.sub_eq_add_neg, Int32.add_assoc]
  rfl
theorem sub111 (a : Int32) : a - 1 - 1 - 1 = a - (2 + 1) := by
  rw [Int32.sub_eq_add_neg, Int32.sub_eq_add_neg, Int32.sub_eq_add_neg, Int32.sub_eq_add_neg, Int32.add_assoc, Int32.add_assoc]
  rfl
theorem lfw_n {m k : Nat} {s : Int32} {σ : Sg} (h : ¬ σ 1 s.toNatClampNeg < nI k) : lf_X5_worth (m + 1) k s σ = lf_X5_worth m (k + 1) s (f_X5_enter s σ) := if_neg h
theorem lfw_0 {m k : Nat} {s : Int32} {σ : Sg} (h : σ 1 s.toNatClampNeg < nI k) (h0 : σ 1 s.toNatClampNeg = 0) : lf_X5_worth (m + 1) k s σ = (σ 2 s.toNatClampNeg, up2 σ 5 s.toNatClampNeg ((σ 5 s.toNatClampNeg) - ((σ 1 s.toNatClampNeg) + 1))) := (if_pos h).trans ((if_pos (by rw [h0]; decide)).trans (if_neg (by rw [h0]; decide)))
theorem lfw_1 {m k : Nat} {s : Int32} {σ : Sg} (h : σ 1 s.toNatClampNeg < nI k) (h0 : σ 1 s.toNatClampNeg = 1) : lf_X5_worth (m + 1) k s σ = ((σ 2 s.toNatClampNeg) + (σ 3 s.toNatClampNeg), up2 σ 5 s.toNatClampNeg ((σ 5 s.toNatClampNeg) - ((σ 1 s.toNatClampNeg) + 1))) := (if_pos h).trans ((if_neg (by rw [h0]; decide)).trans (if_neg (by rw [h0]; decide)))
theorem lfw_2 {m k : Nat} {s : Int32} {σ : Sg} (h : σ 1 s.toNatClampNeg < nI k) (h0 : σ 1 s.toNatClampNeg = 2) : lf_X5_worth (m + 1) k s σ = (2 * ((σ 2 s.toNatClampNeg) + (σ 3 s.toNatClampNeg)), up2 σ 5 s.toNatClampNeg ((σ 5 s.toNatClampNeg) - ((σ 1 s.toNatClampNeg) + 1))) := (if_pos h).trans ((if_neg (by rw [h0]; decide)).trans (if_pos h0))
section WORTH
variable {σ τ : Sg} {i : Nat} {s : Int32}
theorem RR.worth (h : RR σ τ) (hs : s.toNatClampNeg = i) (hk : τ 1 i = 0 ∨ τ 1 i = 1 ∨ τ 1 i = 2) : (f_vworth (28 + i) σ).1 = (f_X5_worth s τ).1 ∧ RR (f_vworth (28 + i) σ).2 (f_X5_worth s τ).2 := by
  have r1 : ∀ ρ : Sg, (f_X5_enter s ρ) 1 s.toNatClampNeg = ρ 1 s.toNatClampNeg := fun ρ => by rw [fr5_enter (by decide)]
  have e0 := h.1 i 0 (by decide)
  have h1 := h.enter hs
  have h2 := h1.enter hs
  have h3 := h2.enter hs
  have rd : ∀ (ρ : Sg) (f : Nat), f ≠ 4 → (f_X1_leave (28 + i) ρ) (28 + i) f = ρ (28 + i) f := fun ρ f hf => by
    unfold f_X1_leave
    rw [up2_row _ _ _ hf]
  rcases hk with k0 | k0 | k0
  · have e1 : f_vworth (28 + i) σ = f_X1_worth (28 + i) σ := if_pos (by rw [e0]; exact k0)
    have z0 : τ 1 s.toNatClampNeg = 0 := by rw [hs]; exact k0
    have e2 : f_X5_worth s τ = _ := (lfw_n (by rw [z0]; decide)).trans (lfw_0 (by rw [r1, z0]; decide) (by rw [r1]; exact z0))
    rw [e1, e2]
    refine ⟨by rw [hs]; exact h1.1 i 1 (by decide), ?_⟩
    rw [r1, z0, hs]
    exact h1.lv rfl
  · have e1 : f_vworth (28 + i) σ = f_X2_worth (28 + i) σ := (if_neg (by rw [e0, k0]; decide)).trans (if_pos (by rw [e0]; exact k0))
    have z0 : τ 1 s.toNatClampNeg = 1 := by rw [hs]; exact k0
    have e2 : f_X5_worth s τ = _ := (lfw_n (by rw [z0]; decide)).trans ((lfw_n (by rw [r1, z0]; decide)).trans (lfw_1 (by rw [r1, r1, z0]; decide) (by rw [r1, r1]; exact z0)))
    rw [e1, e2]
    constructor
    · show (f_X1_worth (28 + i) (f_X1_enter (28 + i) σ)).1 + (f_X1_worth (28 + i) (f_X1_enter (28 + i) σ)).2 (28 + i) 2 = _
      show (f_X1_enter (28 + i) (f_X1_enter (28 + i) σ)) (28 + i) 1 + (f_X1_leave (28 + i) (f_X1_enter (28 + i) (f_X1_enter (28 + i) σ))) (28 + i) 2 = _
      rw [rd _ 2 (by decide), h2.1 i 1 (by decide), h2.1 i 2 (by decide), hs]
    · rw [r1, r1, z0, hs]
      have h4 := ((h2.lv rfl).lv (q := (f_X5_enter s (f_X5_enter s τ)) 5 i - 1) (up2_self _ _ _ _))
      rw [up2_up2, sub11] at h4
      exact h4
  · have e1 : f_vworth (28 + i) σ = f_X3_worth (28 + i) σ := (if_neg (by rw [e0, k0]; decide)).trans (if_neg (by rw [e0, k0]; decide))
    have z0 : τ 1 s.toNatClampNeg = 2 := by rw [hs]; exact k0
    have e2 : f_X5_worth s τ = _ := (lfw_n (by rw [z0]; decide)).trans ((lfw_n (by rw [r1, z0]; decide)).trans ((lfw_n (by rw [r1, r1, z0]; decide)).trans (lfw_2 (by rw [r1, r1, r1, z0]; decide) (by rw [r1, r1, r1]; exact z0))))
    rw [e1, e2]
    constructor
    · show 2 * ((f_X1_enter (28 + i) (f_X1_enter (28 + i) (f_X1_enter (28 + i) σ))) (28 + i) 1 + (f_X1_leave (28 + i) (f_X1_enter (28 + i) (f_X1_enter (28 + i) (f_X1_enter (28 + i) σ)))) (28 + i) 2) = _
      rw [rd _ 2 (by decide), h3.1 i 1 (by decide), h3.1 i 2 (by decide), hs]
    · rw [r1, r1, r1, z0, hs]
      have h4 := ((h3.lv rfl).lv (q := (f_X5_enter s (f_X5_enter s (f_X5_enter s τ))) 5 i - 1) (up2_self _ _ _ _)).lv (q := (f_X5_enter s (f_X5_enter s (f_X5_enter s τ))) 5 i - 1 - 1) (up2_self _ _ _ _)
      rw [up2_up2, up2_up2, sub111] at h4
      exact h4
end WORTH
theorem isRoom_1 {a : Int32} (h : vp_in a 8) : ¬ f_X4_isRoom a = 0 := by
  have h2 := vp_in_iff.mp h
  have c1 : ¬ a < 0 := by rw [i_lt, ti0]; omega
  have c2 : ¬ (8 : Int32) ≤ a := by rw [i_le, show (8 : Int32).toInt = 8 from rfl]; omega
  unfold f_X4_isRoom
  rw [if_neg c1, if_neg c2]
  decide
theorem safeIn_at {a : Int32} {σ : Sg} (h : vp_in a 8) : f_X4_safeIn a σ = σ 1 a.toNatClampNeg := if_neg (isRoom_1 h)
theorem sk_done {b : Int32} {τ : Sg} (h : 0 ≤ τ 0 12) : ∀ (m k : Nat), lf_X5_seek m k b τ = τ := by
  intro m k
  cases m with
  | zero => rfl
  | succ m =>
    unfold lf_X5_seek
    by_cases c : (8 : Int32) ≤ nI k
    · rw [if_pos c]
    · rw [if_neg c, if_pos h]
theorem RR.seek {b : Int32} : ∀ (m k : Nat) (σ τ : Sg), RR σ τ → σ 0 4 = -1 → k ≤ 8 → k + m = 9 → RR (up2 (lf_X4_seek m k b σ).2 0 4 (lf_X4_seek m k b σ).1) (lf_X5_seek m k b τ) := by
  intro m
  induction m with
  | zero => intro k σ τ h hv hk hm; omega
  | succ m ih =>
    intro k σ τ h hv hk hm
    have t12 : τ 0 12 = -1 := by rw [← h.2.2.2.2.1]; exact hv
    unfold lf_X4_seek lf_X5_seek
    by_cases c : (8 : Int32) ≤ nI k
    · rw [if_pos c, if_pos c]
      show RR (up2 σ 0 4 (-1)) τ
      rw [up2_noop hv]
      exact h
    · have hk8 := ltn (k := k) (b := 8) (N := 8) rfl (by omega) c
      have hin : vp_in (nI k) 8 := vp_in_nI hk8 (by decide)
      have t0 : ¬ (0 : Int32) ≤ τ 0 12 := by rw [t12]; decide
      rw [if_neg c, if_neg c, if_neg t0, safeIn_at hin, h.2.1]
      generalize hw : τ 7 (nI k).toNatClampNeg = w
      by_cases cw : w = -1
      · rw [if_pos cw, if_pos cw]
        exact ih (k + 1) σ τ h hv (by omega) (by omega)
      · rw [if_neg cw, if_neg cw]
        have h1 := h.enter (s := w) (i := w.toNatClampNeg) rfl
        have v1 : (f_X1_enter (28 + w.toNatClampNeg) σ) 0 4 = -1 := by rw [fr_enter (by omega)]; exact hv
        have v2 : (f_X1_leave (28 + w.toNatClampNeg) (f_X1_enter (28 + w.toNatClampNeg) σ)) 0 4 = -1 := by rw [fr_leave (by omega)]; exact v1
        have h2 := h1.lv (i := w.toNatClampNeg) rfl
        rw [h1.1 w.toNatClampNeg 1 (by decide)]
        by_cases cb : (f_X5_enter w τ) 2 w.toNatClampNeg < b
        · rw [if_pos cb, if_pos cb, up2_noop (show _ = (-1 : Int32) from by rw [← h2.2.2.2.2.1]; exact v2)]
          exact ih (k + 1) _ _ h2 v2 (by omega) (by omega)
        · rw [if_neg cb, if_neg cb]
          have h3 := h2.g4 (nI k)
          rw [sk_done (by rw [up2_self]; exact nI_pos' (by omega))]
          exact h3
end
section
theorem bm32 {z : Int} (h1 : -2147483648 ≤ z) (h2 : z < 2147483648) : z.bmod (2 ^ 32) = z := Int.bmod_eq_of_le (by omega) (by omega)
theorem flm8 (b : Int32) : f_J9_floorMod_7cf53 b 8 = b &&& 7 := by
  have hz1 := Int32.le_toInt b
  have hz2 := Int32.toInt_lt b
  have t8 : (8 : Int32).toInt = 8 := rfl
  have hd : (b / 8).toInt = b.toInt.tdiv 8 := Int32.toInt_div_of_ne_right b 8 (by decide)
  have hq : b.toInt.tdiv 8 * 8 = if 0 ≤ b.toInt then b.toInt / 8 * 8 else -((-b.toInt) / 8 * 8) := by
    split
    · rename_i c
      rw [Int.tdiv_eq_ediv_of_nonneg c]
    · rename_i c
      have e : b.toInt.tdiv 8 = -((-b.toInt).tdiv 8) := by rw [Int.neg_tdiv]; omega
      rw [e, Int.tdiv_eq_ediv_of_nonneg (by omega)]
      omega
  have hm : (b / 8 * 8).toInt = b.toInt.tdiv 8 * 8 := by
    rw [Int32.toInt_mul, hd, t8]
    apply bm32
    · rw [hq]; split <;> omega
    · rw [hq]; split <;> omega
  have hr : (b - b / 8 * 8).toInt = b.toInt - b.toInt.tdiv 8 * 8 := by
    rw [Int32.toInt_sub, hm]
    apply bm32
    · rw [hq]; split <;> omega
    · rw [hq]; split <;> omega
  have hx : (0 : Int32) ≤ b ^^^ 8 ↔ 0 ≤ b.toInt := by
    rw [i_le, ti0]
    have e1 : (b ^^^ 8).toInt = (b.toBitVec ^^^ (8 : Int32).toBitVec).toInt := rfl
    have m1 : (b.toBitVec ^^^ (8 : Int32).toBitVec).msb = b.toBitVec.msb := by
      rw [BitVec.msb_xor]
      have : (8 : Int32).toBitVec.msb = false := by decide
      rw [this]
      simp
    rw [BitVec.msb_eq_toInt, BitVec.msb_eq_toInt] at m1
    have m2 := decide_eq_decide.mp m1
    rw [e1]
    have e2 : b.toInt = b.toBitVec.toInt := rfl
    rw [e2]
    omega
  have hnat : (b.toBitVec.toNat : Int) = if 0 ≤ b.toInt then b.toInt else b.toInt + 4294967296 := by
    have e2 : b.toInt = b.toBitVec.toInt := rfl
    have e3 := BitVec.toInt_eq_toNat_cond b.toBitVec
    have e4 := b.toBitVec.isLt
    rw [e2, e3]
    split <;> split <;> omega
  have ha : b &&& 7 = nI (b.toBitVec.toNat % 2 ^ 3) := pk_and b 3 rfl
  have hat : (b &&& 7).toInt = ((b.toBitVec.toNat % 8 : Nat) : Int) := by
    rw [ha]
    exact nI_toInt (by omega)
  apply Int32.toInt_inj.mp
  rw [hat]
  unfold f_J9_floorMod_7cf53
  by_cases c : 0 ≤ b.toInt
  · rw [if_pos (hx.mpr c), hr, hq, if_pos c]
    rw [if_pos c] at hnat
    omega
  · rw [if_neg (fun q => c (hx.mp q))]
    rw [if_neg c] at hnat
    by_cases c2 : b - b / 8 * 8 = 0
    · have hr0 := hr
      rw [c2, ti0, hq, if_neg c] at hr0
      rw [if_pos c2, c2, ti0]
      omega
    · have hr0 : ¬ (b - b / 8 * 8).toInt = 0 := fun q => c2 (Int32.toInt_inj.mp (q.trans ti0.symm))
      rw [hr, hq, if_neg c] at hr0
      rw [if_neg c2, Int32.toInt_add, hr, hq, if_neg c, t8, bm32 (by omega) (by omega)]
      omega
theorem safeIn_fm {b : Int32} {σ : Sg} : f_X4_safeIn (f_J9_floorMod_7cf53 b 8) σ = σ 1 (b &&& 7).toNatClampNeg := by
  rw [flm8]
  exact safeIn_at (and7 b)
/-- doStep, put in order -/
def dsp (rec : RecT) (p : Nat) (a b kd u v : Int32) (σ : Sg) : Int32 × Sg :=
  if kd = 0 then F_X4_doInside rec (f_X4_safeIn u σ) p (a + 1) b σ else if kd = 1 then F_X4_doTry rec u p (a + 1) b σ else if kd = 2 then f_X4_doWithSafe kd (f_X4_safeIn u σ) v σ else if kd = 3 then f_X4_doWithSafe kd (f_X4_safeIn u σ) v σ else if kd = 4 then f_X4_doWithSafe kd (f_X4_safeIn u σ) v σ
  else if kd = 5 then f_X4_doWithRooms kd u v σ else if kd = 6 then f_X4_doWithRooms kd u v σ else if kd = 7 then f_X4_doWithSafe kd (f_X4_safeIn u σ) v σ else if kd = 8 then f_X4_doWithValue kd u σ else if kd = 9 then f_X4_doWithValue kd u σ else if kd = 10 then f_X4_doWithValue kd u σ else if kd = 11 then f_X4_doWithValue kd u σ
  else if kd = 12 then F_X4_doPlan rec u σ else if kd = 13 then f_X4_doWithRooms kd u v σ else f_X4_doWithSafe kd (f_X4_safeIn u σ) v σ
abbrev sgS (p : Nat) (a : Int32) (σ : Sg) : Sg := f_X4_leaveInTrace (100 + (σ (10 + 3 * p + 0) a.toNatClampNeg)) (up2 σ 0 5 ((σ 0 5) + 1))
theorem doStep_eq (rec : RecT) (p : Nat) (a b : Int32) (σ : Sg) : F_X4_doStep rec p a b σ = if σ 0 5 < 200 then dsp rec p a b (σ (10 + 3 * p + 0) a.toNatClampNeg) (σ (10 + 3 * p + 1) a.toNatClampNeg) (sgS p a σ (10 + 3 * p + 2) a.toNatClampNeg) (sgS p a σ) else (40, σ) := rfl
end
section
/-- the reference's plans are those of σ0 -/
def PM (σ0 τ : Sg) : Prop := ∀ p, p < 6 → τ 8 p = σ0 (4 + p) 3 ∧ ∀ x, x < 12 → τ 9 (12 * p + x) = σ0 (10 + 3 * p + 0) x ∧ τ 10 (12 * p + x) = σ0 (10 + 3 * p + 1) x ∧ τ 11 (12 * p + x) = σ0 (10 + 3 * p + 2) x
def MI (σ0 : Sg) (B : Nat) (τ : Sg) : Prop := SV (B + 1) τ ∧ τ 13 0 = 0 ∧ (∀ r, r < 8 → τ 7 r = -1 ∨ vp_in (τ 7 r) 4200) ∧ (∀ i, τ 1 i = 0 ∨ τ 1 i = 1 ∨ τ 1 i = 2) ∧ PM σ0 τ ∧ 0 ≤ (τ 0 13).toInt ∧ (τ 0 13).toInt ≤ 200
section MIS
variable {σ0 τ τ' : Sg} {B : Nat}
theorem MI.mv (h : MI σ0 B τ) (hB : B + 1 < 80) : MV B τ := ⟨h.1, hB, h.2.1, h.2.2.1, fun i => by rcases h.2.2.2.1 i with q | q | q <;> rw [q] <;> decide⟩
theorem MI.of (h : MI σ0 B τ) (ek : ∀ k, k = 1 ∨ (7 ≤ k ∧ k ≤ 11) ∨ k = 13 ∨ k = 17 → τ' k = τ k) (e20 : τ' 0 20 = τ 0 20) (e18 : τ' 0 18 = τ 0 18) (e13 : τ' 0 13 = τ 0 13) : MI σ0 B τ' := by
  refine ⟨h.1.of e20 e18 (ek 13 (by omega)) (ek 17 (by omega)), by rw [ek 13 (by omega)]; exact h.2.1, by rw [ek 7 (by omega)]; exact h.2.2.1, by rw [ek 1 (by omega)]; exact h.2.2.2.1, ?_, by rw [e13]; exact h.2.2.2.2.2⟩
  unfold PM
  rw [ek 8 (by omega), ek 9 (by omega), ek 10 (by omega), ek 11 (by omega)]
  exact h.2.2.2.2.1
theorem MI.leave (h : MI σ0 B τ) (a : Int32) : MI σ0 B (f_X5_leave a τ) := by
  refine ⟨h.1.leave a, by rw [lv_rows (by decide) (by decide)]; exact h.2.1, by rw [lv_rows (by decide) (by decide)]; exact h.2.2.1, by rw [lv_rows (by decide) (by decide)]; exact h.2.2.2.1, ?_, by rw [lv_0 (by decide)]; exact h.2.2.2.2.2⟩
  unfold PM
  rw [lv_rows (by decide) (by decide), lv_rows (by decide) (by decide), lv_rows (by decide) (by decide), lv_rows (by decide) (by decide)]
  exact h.2.2.2.2.1
theorem row_off {k k' i : Nat} {v : Int32} (h : k' ≠ k) : up2 τ k i v k' = τ k' := by
  funext j
  exact up2_off _ _ h
theorem MI.up0 (h : MI σ0 B τ) {i : Nat} (hi : i ≠ 13 ∧ i ≠ 18 ∧ i ≠ 20) (v : Int32) : MI σ0 B (up2 τ 0 i v) := h.of (fun k hk => row_off (by omega)) (up2_row _ _ _ (Ne.symm hi.2.2)) (up2_row _ _ _ (Ne.symm hi.2.1)) (up2_row _ _ _ (Ne.symm hi.1))
theorem MI.st (h : MI σ0 B τ) (hs : ¬ τ 0 13 = 200) : MI σ0 B (up2 τ 0 13 ((τ 0 13) + 1)) := by
  have e : (τ 0 13 + 1).toInt = (τ 0 13).toInt + 1 := toInt_succ h.2.2.2.2.2.1 (by have := h.2.2.2.2.2.2; omega)
  have n : ¬ (τ 0 13).toInt = 200 := fun q => hs (Int32.toInt_inj.mp (q.trans rfl))
  refine ⟨h.1.of (up2_row _ _ _ (by decide)) (up2_row _ _ _ (by decide)) (row_off (by decide)) (row_off (by decide)), by rw [row_off (by decide)]; exact h.2.1, by rw [row_off (by decide)]; exact h.2.2.1, by rw [row_off (by decide)]; exact h.2.2.2.1, ?_, ?_⟩
  · unfold PM
    rw [row_off (by decide), row_off (by decide), row_off (by decide), row_off (by decide)]
    exact h.2.2.2.2.1
  · rw [up2_self, e]
    have := h.2.2.2.2.2
    omega
theorem MI.row (h : MI σ0 B τ) {k i : Nat} {v : Int32} (hk : (2 ≤ k ∧ k ≤ 6) ∨ k = 12 ∨ k = 14 ∨ k = 15 ∨ k = 16) : MI σ0 B (up2 τ k i v) := h.of (fun k' hk' => row_off (by omega)) (up2_off _ _ (by omega)) (up2_off _ _ (by omega)) (up2_off _ _ (by omega))
theorem MI.room (h : MI σ0 B τ) {r : Nat} {v : Int32} (hv : v = -1 ∨ vp_in v 4200) : MI σ0 B (up2 τ 7 r v) := by
  refine ⟨h.1.of (up2_off _ _ (by decide)) (up2_off _ _ (by decide)) (row_off (by decide)) (row_off (by decide)), by rw [row_off (by decide)]; exact h.2.1, fun q hq => ?_, by rw [row_off (by decide)]; exact h.2.2.2.1, ?_, by rw [up2_off _ _ (by decide)]; exact h.2.2.2.2.2⟩
  · rw [up2_eq]
    split
    · exact hv
    · exact h.2.2.1 q hq
  · unfold PM
    rw [row_off (by decide), row_off (by decide), row_off (by decide), row_off (by decide)]
    exact h.2.2.2.2.1
theorem MI.nat (h : MI σ0 B τ) : (τ 0 20).toNatClampNeg = B + 1 := by
  rw [h.1.1, nI_clamp (by have := h.1.2.1; omega)]
theorem push_row {wt pl a b oo : Int32} {k : Nat} (hk : k ≠ 0 ∧ (k < 13 ∨ 17 < k)) : f_X5_push wt pl a b oo τ k = τ k := by
  unfold f_X5_push
  rw [row_off (by omega), row_off (by omega), row_off (by omega), row_off (by omega), row_off (by omega), row_off (by omega)]
theorem push_0 {wt pl a b oo : Int32} {i : Nat} (hi : i ≠ 20) : f_X5_push wt pl a b oo τ 0 i = τ 0 i := by
  unfold f_X5_push
  rw [up2_row _ _ _ hi, up2_off _ _ (by decide), up2_off _ _ (by decide), up2_off _ _ (by decide), up2_off _ _ (by decide), up2_off _ _ (by decide)]
theorem push_at (h : MI σ0 B τ) (wt pl a b oo : Int32) (k : Nat) : f_X5_push wt pl a b oo τ 13 k = (if k = B + 1 then wt else τ 13 k) ∧ f_X5_push wt pl a b oo τ 14 k = (if k = B + 1 then pl else τ 14 k) ∧ f_X5_push wt pl a b oo τ 15 k = (if k = B + 1 then a else τ 15 k) ∧ f_X5_push wt pl a b oo τ 16 k = (if k = B + 1 then b else τ 16 k) ∧ f_X5_push wt pl a b oo τ 17 k = (if k = B + 1 then oo else τ 17 k) := by
  unfold f_X5_push
  rw [h.nat]
  simp only [up2_eq]
  by_cases c : k = B + 1 <;> simp [c]
theorem MI.push (h : MI σ0 B τ) (hB : B + 2 < 80) {wt pl a b oo : Int32} (ha : wt = 1 → vp_in oo 4200) : MI σ0 (B + 1) (f_X5_push wt pl a b oo τ) := by
  refine ⟨⟨?_, by omega, fun k hk => ?_, ?_⟩, ?_, by rw [push_row (by decide)]; exact h.2.2.1, by rw [push_row (by decide)]; exact h.2.2.2.1, ?_, by rw [push_0 (by decide)]; exact h.2.2.2.2.2⟩
  · unfold f_X5_push
    rw [up2_self, h.1.1, nI_1]
  · rw [(push_at h wt pl a b oo k).1, (push_at h wt pl a b oo k).2.2.2.2]
    by_cases c : k = B + 1
    · rw [if_pos c, if_pos c]; exact ha
    · rw [if_neg c, if_neg c]; exact h.1.2.2.1 k (by omega)
  · rw [push_0 (by decide)]; exact h.1.2.2.2
  · rw [(push_at h wt pl a b oo 0).1, if_neg (by omega)]; exact h.2.1
  · unfold PM
    rw [push_row (by decide), push_row (by decide), push_row (by decide), push_row (by decide)]
    exact h.2.2.2.2.1
theorem pop_row {k : Nat} (hk : k ≠ 0 ∧ k ≠ 5 ∧ k ≠ 12) : f_X5_pop τ k = τ k := by
  unfold f_X5_pop
  split
  · rw [lv_rows hk.1 hk.2.2, row_off hk.2.1, row_off hk.1]
  · split
    · rw [row_off hk.1, row_off hk.1]
    · rw [row_off hk.1]
theorem pop_0 {i : Nat} (hi : i ≠ 16 ∧ i ≠ 18 ∧ i ≠ 20) : f_X5_pop τ 0 i = τ 0 i := by
  unfold f_X5_pop
  split
  · rw [lv_0 hi.2.1, up2_off _ _ (by decide), up2_row _ _ _ hi.2.2]
  · split
    · rw [up2_row _ _ _ hi.1, up2_row _ _ _ hi.2.2]
    · rw [up2_row _ _ _ hi.2.2]
theorem MI.pop (h : MI σ0 (B + 1) τ) : MI σ0 B (f_X5_pop τ) := by
  refine ⟨h.1.popd, by rw [pop_row (by decide)]; exact h.2.1, by rw [pop_row (by decide)]; exact h.2.2.1, by rw [pop_row (by decide)]; exact h.2.2.2.1, ?_, by rw [pop_0 (by decide)]; exact h.2.2.2.2.2⟩
  unfold PM
  rw [pop_row (by decide), pop_row (by decide), pop_row (by decide), pop_row (by decide)]
  exact h.2.2.2.2.1
end MIS
/-- the stack up to block B is as it was, but for where block B goes on -/
def Stk (B : Nat) (τ τ' : Sg) : Prop := (∀ k, k ≤ B → τ' 13 k = τ 13 k ∧ τ' 14 k = τ 14 k ∧ τ' 16 k = τ 16 k ∧ τ' 17 k = τ 17 k) ∧ ∀ k, k < B → τ' 15 k = τ 15 k
theorem Stk.trans {B : Nat} {τ τ1 τ2 : Sg} (h : Stk B τ τ1) (h2 : Stk B τ1 τ2) : Stk B τ τ2 := ⟨fun k hk => ⟨((h2.1 k hk).1).trans (h.1 k hk).1, ((h2.1 k hk).2.1).trans (h.1 k hk).2.1, ((h2.1 k hk).2.2.1).trans (h.1 k hk).2.2.1, ((h2.1 k hk).2.2.2).trans (h.1 k hk).2.2.2⟩, fun k hk => (h2.2 k hk).trans (h.2 k hk)⟩
theorem Stk.rows {B : Nat} {τ τ' : Sg} (e : ∀ k, 13 ≤ k → k ≤ 17 → τ' k = τ k) : Stk B τ τ' := ⟨fun k _ => ⟨by rw [e 13 (by decide) (by decide)], by rw [e 14 (by decide) (by decide)], by rw [e 16 (by decide) (by decide)], by rw [e 17 (by decide) (by decide)]⟩, fun k _ => by rw [e 15 (by decide) (by decide)]⟩
theorem Stk.refl {B : Nat} {τ : Sg} : Stk B τ τ := Stk.rows (fun _ _ _ => rfl)
theorem Stk.down {B : Nat} {τ τ' : Sg} (h : Stk (B + 1) τ τ') : Stk B τ τ' := ⟨fun k hk => h.1 k (by omega), fun k hk => h.2 k (by omega)⟩
theorem Stk.nx {B : Nat} {τ : Sg} {v : Int32} : Stk B τ (up2 τ 15 B v) := ⟨fun k _ => ⟨up2_off _ _ (by decide), up2_off _ _ (by decide), up2_off _ _ (by decide), up2_off _ _ (by decide)⟩, fun k hk => up2_row _ _ _ (by omega)⟩
theorem Stk.push {σ0 τ : Sg} {B : Nat} (h : MI σ0 B τ) (wt pl a b oo : Int32) : Stk B τ (f_X5_push wt pl a b oo τ) := ⟨fun k hk => ⟨by rw [(push_at h wt pl a b oo k).1, if_neg (by omega)], by rw [(push_at h wt pl a b oo k).2.1, if_neg (by omega)], by rw [(push_at h wt pl a b oo k).2.2.2.1, if_neg (by omega)], by rw [(push_at h wt pl a b oo k).2.2.2.2, if_neg (by omega)]⟩, fun k hk => by rw [(push_at h wt pl a b oo k).2.2.1, if_neg (by omega)]⟩
theorem Stk.pop {B : Nat} {τ : Sg} : Stk B τ (f_X5_pop τ) := Stk.rows (fun k h1 _ => pop_row (by omega))
theorem Stk.leave {B : Nat} {τ : Sg} {a : Int32} : Stk B τ (f_X5_leave a τ) := Stk.rows (fun k h1 _ => lv_rows (by omega) (by omega))
theorem Stk.up {B : Nat} {τ : Sg} {k i : Nat} {v : Int32} (hk : k < 13) : Stk B τ (up2 τ k i v) := Stk.rows (fun k' h1 _ => row_off (by omega))
-- unwinding
section UNW
variable {σ0 τ : Sg} {B : Nat} {e : Int32}
theorem nle20 (h : MI σ0 B τ) : ¬ τ 0 20 ≤ 0 := by
  rw [h.1.1]
  exact nI_nle (by omega) (by have := h.1.2.1; omega)
theorem fails_lf (h : MI σ0 B τ) : f_X5_fails e τ = lf_X5_fails (B + 2) e τ := by
  show lf_X5_fails ((τ 0 20).toNatClampNeg + 1) e τ = _
  rw [h.nat]
theorem pop_n (h : MI σ0 (B + 1) τ) : f_X5_fails e (f_X5_pop τ) = lf_X5_fails (B + 2) e (f_X5_pop τ) := fails_lf h.pop
theorem pop_n0 (h : MI σ0 0 τ) : f_X5_fails e (f_X5_pop τ) = lf_X5_fails 1 e (f_X5_pop τ) := by
  show lf_X5_fails ((f_X5_pop τ 0 20).toNatClampNeg + 1) e _ = _
  rw [h.1.popd.1]
  rfl
theorem fails_pop (h : MI σ0 (B + 1) τ) (hs : ¬ τ 13 (B + 1) = 2) : f_X5_fails e τ = f_X5_fails e (f_X5_pop τ) := by
  rw [fails_lf h, pop_n h]
  exact (if_neg (nle20 h)).trans (if_neg (by rw [h.1.nat]; exact hs))
theorem fails_pop0 (h : MI σ0 0 τ) : f_X5_fails e τ = f_X5_fails e (f_X5_pop τ) := by
  rw [fails_lf h, pop_n0 h]
  exact (if_neg (nle20 h)).trans (if_neg (by rw [h.1.nat, h.2.1]; decide))
theorem fails_40 (h : MI σ0 (B + 1) τ) (hs : τ 13 (B + 1) = 2) : f_X5_fails 40 τ = f_X5_fails 40 (f_X5_pop τ) := by
  rw [fails_lf h, pop_n h]
  exact (if_neg (nle20 h)).trans ((if_pos (by rw [h.1.nat]; exact hs)).trans (if_pos rfl))
theorem fails_hold (h : MI σ0 (B + 1) τ) (hs : τ 13 (B + 1) = 2) (he : ¬ e = 40) (ha : τ 17 (B + 1) = 0 ∨ τ 17 (B + 1) = e) : f_X5_fails e τ = up2 (f_X5_pop τ) 0 12 e := by
  rw [fails_lf h]
  refine (if_neg (nle20 h)).trans ((if_pos (by rw [h.1.nat]; exact hs)).trans ((if_neg he).trans ?_))
  rw [h.1.nat]
  by_cases c : τ 17 (B + 1) = 0
  · rw [if_pos c]
  · rw [if_neg c, if_pos (ha.resolve_left c)]
theorem fails_pass (h : MI σ0 (B + 1) τ) (hs : τ 13 (B + 1) = 2) (he : ¬ e = 40) (h0 : ¬ τ 17 (B + 1) = 0) (h1 : ¬ τ 17 (B + 1) = e) : f_X5_fails e τ = f_X5_fails e (f_X5_pop τ) := by
  rw [fails_lf h, pop_n h]
  refine (if_neg (nle20 h)).trans ((if_pos (by rw [h.1.nat]; exact hs)).trans ((if_neg he).trans ?_))
  rw [h.1.nat, if_neg h0, if_neg h1]
def BK (τ : Sg) : Sg := lf_X5_back (τ 0 20).toNatClampNeg τ
theorem back_pop (h : MI σ0 (B + 1) τ) (hs : ¬ τ 13 (B + 1) = 0) : BK τ = BK (f_X5_pop τ) := by
  unfold BK
  rw [h.nat, h.pop.nat]
  exact if_neg (by rw [h.1.nat]; exact hs)
theorem back_plan (h : MI σ0 B τ) (hs : τ 13 B = 0) : BK τ = f_X5_pop τ := by
  unfold BK
  rw [h.nat]
  exact if_pos (by rw [h.1.nat]; exact hs)
end UNW
theorem Rch_trans : ∀ (m k : Nat) (τ τ1 τ2 : Sg), Rch m τ τ1 → Rch k τ1 τ2 → Rch (m + k) τ τ2 := by
  intro m
  induction m with
  | zero => intro k τ τ1 τ2 h h2; rw [Nat.zero_add, show τ = τ1 from h]; exact h2
  | succ m ih => intro k τ τ1 τ2 h h2; rw [Nat.succ_add]; exact ⟨h.1, ih k _ _ _ h.2 h2⟩
theorem Rch_one {B : Nat} {τ : Sg} (h : ITm B τ) : Rch 1 τ (f_X5_it τ) := ⟨⟨B, h⟩, rfl⟩
end
section
def Tp (B p : Nat) (i b : Int32) (τ : Sg) : Prop := τ 14 B = nI p ∧ τ 15 B = i ∧ τ 16 B = b
theorem at_eq {p : Nat} {i : Int32} (h0 : 0 ≤ i.toInt) : (12 * nI p) + i = nI (12 * p + i.toNatClampNeg) := by
  have hn : ¬ i < 0 := by rw [i_lt, ti0]; omega
  obtain ⟨j, hj, rfl⟩ := nI_of hn
  rw [show (12 : Int32) = nI 12 from rfl, pk_mul, nI_add, nI_clamp hj]
theorem nat12 {i : Int32} (h0 : 0 ≤ i.toInt) (h : i.toInt < 12) : i.toNatClampNeg < 12 := by
  have := nat_toInt h0
  omega
section ITS
variable {σ0 τ : Sg} {B p : Nat} {i b : Int32}
theorem IT_of (h : MI σ0 B τ) (hB : B + 1 < 80) (ht : Tp B p i b τ) (hp : p < 6) (hv : ¬ i = b → (0 ≤ i.toInt ∧ i.toInt < 12) ∧ ¬ f_X4_isStep (σ0 (10 + 3 * p + 0) i.toNatClampNeg) (σ0 (10 + 3 * p + 1) i.toNatClampNeg) (σ0 (10 + 3 * p + 2) i.toNatClampNeg) = 0) : ITm B τ := by
  refine ⟨h.mv hB, ?_⟩
  rw [h.1.nat, ht.1, ht.2.1, ht.2.2]
  intro ne
  obtain ⟨⟨h0, h1⟩, v⟩ := hv ne
  have hx := nat12 h0 h1
  have e := (h.2.2.2.2.1 p hp).2 i.toNatClampNeg hx
  rw [at_eq h0, nI_clamp (by omega), e.1, e.2.1, e.2.2]
  exact ⟨vp_in_nI (by omega) (by decide), v⟩
theorem it_pop (h : MI σ0 B τ) (e : τ 15 B = τ 16 B) : f_X5_it τ = f_X5_pop τ := if_pos (by rw [h.1.nat]; exact e)
theorem it_spent (h : MI σ0 B τ) (ne : ¬ τ 15 B = τ 16 B) (e : τ 0 13 = 200) : f_X5_it τ = f_X5_fails 40 τ := (if_neg (by rw [h.1.nat]; exact ne)).trans (if_pos e)
abbrev tgS (B : Nat) (i kd : Int32) (τ : Sg) : Sg := f_X5_leave (100 + kd) (up2 (up2 τ 15 B (i + 1)) 0 13 ((τ 0 13) + 1))
theorem it_step (h : MI σ0 B τ) (ht : Tp B p i b τ) (hp : p < 6) (ne : ¬ i = b) (n2 : ¬ τ 0 13 = 200) (h0 : 0 ≤ i.toInt) (h1 : i.toInt < 12) : f_X5_it τ = f_X5_does (σ0 (10 + 3 * p + 0) i.toNatClampNeg) (σ0 (10 + 3 * p + 1) i.toNatClampNeg) (σ0 (10 + 3 * p + 2) i.toNatClampNeg) (tgS B i (σ0 (10 + 3 * p + 0) i.toNatClampNeg) τ) := by
  have hx := nat12 h0 h1
  have e := (h.2.2.2.2.1 p hp).2 i.toNatClampNeg hx
  refine (if_neg (by rw [h.1.nat, ht.2.1, ht.2.2]; exact ne)).trans ((if_neg n2).trans ?_)
  rw [h.1.nat, ht.1, ht.2.1, at_eq h0, nI_clamp (by omega)]
  have r9 : ∀ a : Int32, ∀ k, 9 ≤ k → k ≤ 11 → (f_X5_leave a (up2 (up2 τ 15 B (i + 1)) 0 13 ((τ 0 13) + 1))) k = τ k := fun a k h1 h2 => by
    rw [lv_rows (by omega) (by omega), row_off (by omega), row_off (by omega)]
  rw [r9 _ 9 (by decide) (by decide), r9 _ 10 (by decide) (by decide), r9 _ 11 (by decide) (by decide), e.1, e.2.1, e.2.2]
end ITS
/-- what comes of a block, or of a step, in the reference: r is what the class does -/
def OUT (σ0 : Sg) (B : Nat) (τ : Sg) (r : Int32 × Sg) (nx : Int32) : Prop :=
  (r.1 = 0 → ∃ m τ', Rch m τ τ' ∧ RR r.2 τ' ∧ MI σ0 B τ' ∧ Stk B τ τ' ∧ τ' 15 B = nx) ∧
  (r.1 = -1 → ∃ m τ1 τ3, Rch m τ τ1 ∧ (∃ B', ITm B' τ1) ∧ f_X5_it τ1 = BK τ3 ∧ RR r.2 τ3 ∧ MI σ0 B τ3 ∧ Stk B τ τ3) ∧
  (¬ r.1 = 0 → ¬ r.1 = -1 → ∃ m τ1 τ3, Rch m τ τ1 ∧ (∃ B', ITm B' τ1) ∧ f_X5_it τ1 = f_X5_fails r.1 τ3 ∧ RR r.2 τ3 ∧ MI σ0 B τ3 ∧ Stk B τ τ3)
section OUTS
variable {σ0 τ τ' : Sg} {B : Nat} {r : Int32 × Sg} {nx : Int32}
theorem OUT.done (hI : ITm B τ) (e : f_X5_it τ = τ') (h0 : r.1 = 0) (hr : RR r.2 τ') (hm : MI σ0 B τ') (hs : Stk B τ τ') (hn : τ' 15 B = nx) : OUT σ0 B τ r nx := ⟨fun _ => ⟨1, τ', ⟨⟨B, hI⟩, e⟩, hr, hm, hs, hn⟩, fun q => absurd (h0.symm.trans q) (by decide), fun q => absurd h0 q⟩
theorem OUT.fail (hI : ITm B τ) (e : f_X5_it τ = f_X5_fails r.1 τ') (h0 : ¬ r.1 = 0) (h1 : ¬ r.1 = -1) (hr : RR r.2 τ') (hm : MI σ0 B τ') (hs : Stk B τ τ') : OUT σ0 B τ r nx := ⟨fun q => absurd q h0, fun q => absurd q h1, fun _ _ => ⟨0, τ, τ', rfl, ⟨B, hI⟩, e, hr, hm, hs⟩⟩
theorem OUT.back (hI : ITm B τ) (e : f_X5_it τ = BK τ') (h1 : r.1 = -1) (hr : RR r.2 τ') (hm : MI σ0 B τ') (hs : Stk B τ τ') : OUT σ0 B τ r nx := ⟨fun q => absurd (h1.symm.trans q) (by decide), fun _ => ⟨0, τ, τ', rfl, ⟨B, hI⟩, e, hr, hm, hs⟩, fun _ q => absurd h1 q⟩
theorem OUT.pre {m : Nat} (hx : Rch m τ τ') (hs : Stk B τ τ') (h : OUT σ0 B τ' r nx) : OUT σ0 B τ r nx := by
  refine ⟨fun q => ?_, fun q => ?_, fun q1 q2 => ?_⟩
  · obtain ⟨k, t, a, b, c, d, e⟩ := h.1 q
    exact ⟨m + k, t, Rch_trans _ _ _ _ _ hx a, b, c, hs.trans d, e⟩
  · obtain ⟨k, t1, t3, a, b, c, d, e, f⟩ := h.2.1 q
    exact ⟨m + k, t1, t3, Rch_trans _ _ _ _ _ hx a, b, c, d, e, hs.trans f⟩
  · obtain ⟨k, t1, t3, a, b, c, d, e, f⟩ := h.2.2 q1 q2
    exact ⟨m + k, t1, t3, Rch_trans _ _ _ _ _ hx a, b, c, d, e, hs.trans f⟩
end OUTS
-- rows of the class's trace
theorem tr_rows {a : Int32} {σ : Sg} {k : Nat} (h0 : k ≠ 0) (h3 : k ≠ 3) : f_X4_leaveInTrace a σ k = σ k := by
  unfold f_X4_leaveInTrace
  split
  · rfl
  · rw [row_off h0, row_off h3]
theorem RR.step {σ τ : Sg} {B : Nat} {i kd : Int32} (h : RR σ τ) : RR (f_X4_leaveInTrace (100 + kd) (up2 σ 0 5 ((σ 0 5) + 1))) (tgS B i kd τ) := by
  rw [h.2.2.2.2.2.1]
  exact ((h.mr (by decide)).g5 _).trace _
section TGS
variable {σ0 τ : Sg} {B p : Nat} {i b kd : Int32}
theorem MI.step (h : MI σ0 B τ) (n2 : ¬ τ 0 13 = 200) : MI σ0 B (tgS B i kd τ) := by
  have h1 : MI σ0 B (up2 τ 15 B (i + 1)) := h.row (by omega)
  have h2 := h1.st (by rw [up2_off _ _ (by decide)]; exact n2)
  rw [up2_off _ _ (by decide)] at h2
  exact h2.leave _
theorem Stk.step : Stk B τ (tgS B i kd τ) := (Stk.nx.trans (Stk.up (by decide))).trans Stk.leave
theorem Tp.step (h : Tp B p i b τ) : Tp B p (i + 1) b (tgS B i kd τ) := by
  unfold tgS
  refine ⟨?_, ?_, ?_⟩
  · rw [lv_rows (by decide) (by decide), row_off (by decide), row_off (by decide)]; exact h.1
  · rw [lv_rows (by decide) (by decide), row_off (by decide), up2_self]
  · rw [lv_rows (by decide) (by decide), row_off (by decide), row_off (by decide)]; exact h.2.2
theorem within_eq (h : MI σ0 B τ) (ht : Tp B p i b τ) (wt v oo : Int32) : f_X5_within wt v oo τ = f_X5_push wt (nI p) i (f_J9_min_7cf53 (i + v) b) oo (up2 τ 15 B (f_J9_min_7cf53 (i + v) b)) := by
  unfold f_X5_within f_J9_min_7cf53
  rw [h.1.nat, ht.1, ht.2.1, ht.2.2]
  by_cases c : b ≤ i + v
  · rw [if_pos c]
    by_cases c2 : b < i + v
    · rw [if_pos c2]
    · have e : b = i + v := by
        rw [i_le] at c
        rw [i_lt] at c2
        exact Int32.toInt_inj.mp (by omega)
      rw [if_neg c2, ← e]
  · rw [if_neg c, if_neg (fun q => c (by rw [i_le]; rw [i_lt] at q; omega))]
theorem behind_blk {σ : Sg} (h : σ (10 + 3 * p + 0) i.toNatClampNeg = 0 ∨ σ (10 + 3 * p + 0) i.toNatClampNeg = 1) : f_X0_behind p i b σ = f_J9_min_7cf53 ((i + 1) + (σ (10 + 3 * p + 2) i.toNatClampNeg)) b := by
  unfold f_X0_behind
  by_cases c : σ (10 + 3 * p + 0) i.toNatClampNeg = 0
  · rw [if_pos c]
  · rw [if_neg c, if_pos (h.resolve_left c)]
theorem behind_one {σ : Sg} (h0 : ¬ σ (10 + 3 * p + 0) i.toNatClampNeg = 0) (h1 : ¬ σ (10 + 3 * p + 0) i.toNatClampNeg = 1) : f_X0_behind p i b σ = i + 1 := (if_neg h0).trans (if_neg h1)
end TGS
theorem kd_cases {kd a b : Int32} (hv : ¬ f_X4_isStep kd a b = 0) : kd = 0 ∨ kd = 1 ∨ kd = 2 ∨ kd = 3 ∨ kd = 4 ∨ kd = 5 ∨ kd = 6 ∨ kd = 7 ∨ kd = 8 ∨ kd = 9 ∨ kd = 10 ∨ kd = 11 ∨ kd = 12 ∨ kd = 13 := by
  apply Decidable.byContradiction
  intro q
  simp only [not_or] at q
  apply hv
  unfold f_X4_isStep
  rw [if_neg q.1, if_neg q.2.1, if_neg q.2.2.1, if_neg q.2.2.2.1, if_neg q.2.2.2.2.1, if_neg q.2.2.2.2.2.1, if_neg q.2.2.2.2.2.2.1, if_neg q.2.2.2.2.2.2.2.1, if_neg q.2.2.2.2.2.2.2.2.1, if_neg q.2.2.2.2.2.2.2.2.2.1, if_neg q.2.2.2.2.2.2.2.2.2.2.1, if_neg q.2.2.2.2.2.2.2.2.2.2.2.1, if_neg q.2.2.2.2.2.2.2.2.2.2.2.2.1, if_neg q.2.2.2.2.2.2.2.2.2.2.2.2.2]
-- seek: the class's value plays no part
theorem up2_comm (σ : Sg) {k k' : Nat} (h : k ≠ k') (i i' : Nat) (v v' : Int32) : up2 (up2 σ k i v) k' i' v' = up2 (up2 σ k' i' v') k i v := by
  funext a b
  rw [up2_eq, up2_eq, up2_eq, up2_eq]
  by_cases c : a = k ∧ b = i
  · rw [if_pos c, if_pos c, if_neg (by omega)]
  · rw [if_neg c, if_neg c]
theorem en_v {j : Nat} (hj : j ≠ 0) (σ : Sg) (x : Int32) : f_X1_enter j (up2 σ 0 4 x) = up2 (f_X1_enter j σ) 0 4 x := by
  unfold f_X1_enter
  rw [up2_off _ _ hj, up2_off _ _ hj, up2_off _ _ hj]
  split
  · rw [up2_comm _ hj.symm, up2_comm _ hj.symm]
  · rw [up2_comm _ hj.symm, up2_comm _ hj.symm, up2_comm _ hj.symm]
theorem le_v {j : Nat} (hj : j ≠ 0) (σ : Sg) (x : Int32) : f_X1_leave j (up2 σ 0 4 x) = up2 (f_X1_leave j σ) 0 4 x := by
  unfold f_X1_leave
  rw [up2_off _ _ hj, up2_comm _ hj.symm]
theorem si_v (a : Int32) (σ : Sg) (x : Int32) : f_X4_safeIn a (up2 σ 0 4 x) = f_X4_safeIn a σ := by
  unfold f_X4_safeIn
  rw [up2_off _ _ (by decide)]
theorem sk_v (b x : Int32) : ∀ (m k : Nat) (σ : Sg), lf_X4_seek m k b (up2 σ 0 4 x) = ((lf_X4_seek m k b σ).1, up2 (lf_X4_seek m k b σ).2 0 4 x) := by
  intro m
  induction m with
  | zero => intro k σ; rfl
  | succ m ih =>
    intro k σ
    have hj : 28 + (f_X4_safeIn (nI k) σ).toNatClampNeg ≠ 0 := by omega
    unfold lf_X4_seek
    rw [si_v, en_v hj, le_v hj, up2_off _ _ hj]
    by_cases c : (8 : Int32) ≤ nI k
    · rw [if_pos c, if_pos c]
    · rw [if_neg c, if_neg c]
      by_cases c2 : f_X4_safeIn (nI k) σ = -1
      · rw [if_pos c2, if_pos c2]; exact ih _ _
      · rw [if_neg c2, if_neg c2]
        by_cases c3 : f_X1_enter (28 + (f_X4_safeIn (nI k) σ).toNatClampNeg) σ (28 + (f_X4_safeIn (nI k) σ).toNatClampNeg) 1 < b
        · rw [if_pos c3, if_pos c3]; exact ih _ _
        · rw [if_neg c3, if_neg c3]
theorem fr5_sk {b : Int32} {r : Nat} (hr : r ≠ 0 ∧ r ≠ 4 ∧ r ≠ 5 ∧ r ≠ 6) : ∀ (m k : Nat) (τ : Sg), lf_X5_seek m k b τ r = τ r := by
  intro m
  induction m with
  | zero => intro k τ; rfl
  | succ m ih =>
    intro k τ
    unfold lf_X5_seek
    repeat' split
    all_goals first | rfl | (rw [ih]; done) | (rw [ih, row_off hr.1, row_off hr.2.2.1, fr5_enter hr.2])
theorem fr5_sk0 {b : Int32} {i : Nat} (hi : i ≠ 12) : ∀ (m k : Nat) (τ : Sg), lf_X5_seek m k b τ 0 i = τ 0 i := by
  intro m
  induction m with
  | zero => intro k τ; rfl
  | succ m ih =>
    intro k τ
    unfold lf_X5_seek
    repeat' split
    all_goals first | rfl | (rw [ih]; done) | (rw [ih, up2_row _ _ _ hi, up2_off _ _ (by decide), fr5_enter (by decide)])
end
section
theorem MI.fr {σ0 τ τ' : Sg} {B : Nat} (h : MI σ0 B τ) (e : ∀ k, k ≠ 2 ∧ k ≠ 3 ∧ k ≠ 4 ∧ k ≠ 5 ∧ k ≠ 6 → τ' k = τ k) : MI σ0 B τ' := h.of (fun k hk => e k (by omega)) (by rw [e 0 (by decide)]) (by rw [e 0 (by decide)]) (by rw [e 0 (by decide)])
theorem Stk.fr {τ τ' : Sg} {B : Nat} (e : ∀ k, k ≠ 2 ∧ k ≠ 3 ∧ k ≠ 4 ∧ k ≠ 5 ∧ k ≠ 6 → τ' k = τ k) : Stk B τ τ' := Stk.rows (fun k h1 _ => e k (by omega))
/-- a plan's steps, d levels deep: the reference does what the class does -/
def SIM (n : Nat) (σ0 : Sg) (d : Nat) : Prop := ∀ (w p : Nat) (a b : Int32) (σ τ : Sg) (B : Nat), CR n σ0 d w p a b σ → RR σ τ → MI σ0 B τ → Tp B p a b τ → B + d < 78 → a.toInt ≤ b.toInt → OUT σ0 B τ (gS d p a b σ) b
section STEP
variable {n : Nat} {σ0 σ τ τs : Sg} {d w p B : Nat} {i b nx : Int32}
/-- kinds 2, 3, 4, 7 -/
theorem sim_safe {kd u v : Int32} (hI : ITm B τ) (hk : kd = 2 ∨ kd = 3 ∨ kd = 4 ∨ kd = 7) (hu : vp_in u 8) (hr : RR σ τs) (hm : MI σ0 B τs) (hs : Stk B τ τs) (hn : τs 15 B = nx) (e : f_X5_it τ = f_X5_withSafe kd (τs 7 u.toNatClampNeg) v τs) : OUT σ0 B τ (f_X4_doWithSafe kd (f_X4_safeIn u σ) v σ) nx := by
  have hw : f_X4_safeIn u σ = τs 7 u.toNatClampNeg := (safeIn_at hu).trans (hr.2.1 _)
  rw [hw]
  generalize τs 7 u.toNatClampNeg = x at e
  by_cases c : x = -1
  · have e1 : f_X4_doWithSafe kd x v σ = (1, σ) := if_pos c
    rw [e1]
    exact OUT.fail hI (e.trans (if_pos c)) (show ¬ (1 : Int32) = 0 by decide) (show ¬ (1 : Int32) = -1 by decide) hr hm hs
  · rcases hk with rfl | rfl | rfl | rfl
    · have e1 : f_X4_doWithSafe 2 x v σ = f_vput (28 + x.toNatClampNeg) v σ := if_neg c
      have e2 : f_X5_withSafe 2 x v τs = if (f_X5_put x v τs).1 = 0 then f_X5_fails 30 (f_X5_put x v τs).2 else (f_X5_put x v τs).2 := if_neg c
      rw [e1]
      rw [e2] at e
      have h1 := hr.vput (s := x) (v := v) (i := x.toNatClampNeg) rfl
      have f1 : ∀ k, k ≠ 2 ∧ k ≠ 3 ∧ k ≠ 4 ∧ k ≠ 5 ∧ k ≠ 6 → (f_X5_put x v τs).2 k = τs k := fun k hk => fr5_put hk
      rcases h1.1 with q | q
      · exact OUT.done hI (e.trans (if_neg (by rw [q.2]; decide))) q.1 h1.2 (hm.fr f1) (hs.trans (Stk.fr f1)) (by rw [f1 15 (by decide)]; exact hn)
      · refine OUT.fail hI ?_ (by rw [q.1]; decide) (by rw [q.1]; decide) h1.2 (hm.fr f1) (hs.trans (Stk.fr f1))
        rw [q.1]
        exact e.trans (if_pos q.2)
    · have e1 : f_X4_doWithSafe 3 x v σ = (0, up2 (f_vworth (28 + x.toNatClampNeg) σ).2 0 4 (f_vworth (28 + x.toNatClampNeg) σ).1) := if_neg c
      have e2 : f_X5_withSafe 3 x v τs = up2 (f_X5_worth x τs).2 0 12 (f_X5_worth x τs).1 := if_neg c
      rw [e1]
      have h1 := hr.worth (s := x) (i := x.toNatClampNeg) rfl (hm.2.2.2.1 _)
      have f1 : ∀ k, k ≠ 2 ∧ k ≠ 3 ∧ k ≠ 4 ∧ k ≠ 5 ∧ k ≠ 6 → (f_X5_worth x τs).2 k = τs k := fun k hk => fr5_worth hk.2.2
      refine OUT.done hI (e.trans e2) rfl ?_ ((hm.fr f1).up0 (by decide) _) ((hs.trans (Stk.fr f1)).trans (Stk.up (by decide))) (by rw [row_off (by decide), f1 15 (by decide)]; exact hn)
      rw [← h1.1]
      exact h1.2.g4 _
    · have e1 : f_X4_doWithSafe 4 x v σ = f_X1_give (28 + x.toNatClampNeg) (σ 0 4) (f_X4_safeIn (f_J9_floorMod_7cf53 v 8) σ) σ := if_neg c
      have e2 : f_X5_withSafe 4 x v τs = if (f_X5_give x (τs 7 ((v &&& 7).toNatClampNeg)) (τs 0 12) τs).1 = 0 then (f_X5_give x (τs 7 ((v &&& 7).toNatClampNeg)) (τs 0 12) τs).2 else f_X5_fails (f_X5_give x (τs 7 ((v &&& 7).toNatClampNeg)) (τs 0 12) τs).1 (f_X5_give x (τs 7 ((v &&& 7).toNatClampNeg)) (τs 0 12) τs).2 := if_neg c
      rw [e1, safeIn_fm, hr.2.1, hr.2.2.2.2.1]
      rw [e2] at e
      generalize τs 7 ((v &&& 7).toNatClampNeg) = y at e
      generalize τs 0 12 = z at e
      have h1 := hr.give (s := x) (v := z) (i := x.toNatClampNeg) rfl y
      have f1 : ∀ k, k ≠ 2 ∧ k ≠ 3 ∧ k ≠ 4 ∧ k ≠ 5 ∧ k ≠ 6 → (f_X5_give x y z τs).2 k = τs k := fun k hk => fr5_give hk
      have hv3 : (f_X5_give x y z τs).1 = 0 ∨ (f_X5_give x y z τs).1 = 1 ∨ (f_X5_give x y z τs).1 = 30 := by
        unfold f_X5_give
        repeat' split
        · exact Or.inr (Or.inr rfl)
        · exact Or.inr (Or.inl rfl)
        · exact Or.inr (Or.inr rfl)
        · exact Or.inl rfl
      by_cases c0 : (f_X5_give x y z τs).1 = 0
      · exact OUT.done hI (e.trans (if_pos c0)) (h1.1.trans c0) h1.2 (hm.fr f1) (hs.trans (Stk.fr f1)) (by rw [f1 15 (by decide)]; exact hn)
      · refine OUT.fail hI ?_ (by rw [h1.1]; exact c0) ?_ h1.2 (hm.fr f1) (hs.trans (Stk.fr f1))
        · rw [h1.1]; exact e.trans (if_neg c0)
        · rw [h1.1]
          rcases hv3 with q | q | q
          · exact absurd q c0
          · rw [q]; decide
          · rw [q]; decide
    · have e1 : f_X4_doWithSafe 7 x v σ = (0, up2 σ 0 4 (σ (28 + x.toNatClampNeg) 4)) := if_neg c
      have e2 : f_X5_withSafe 7 x v τs = up2 τs 0 12 (τs 5 x.toNatClampNeg) := if_neg c
      rw [e1]
      refine OUT.done hI (e.trans e2) rfl ?_ (hm.up0 (by decide) _) (hs.trans (Stk.up (by decide))) (by rw [row_off (by decide)]; exact hn)
      rw [← hr.1 x.toNatClampNeg 4 (by decide)]
      exact hr.g4 _
/-- kinds 5, 6, 13 -/
theorem sim_rooms {kd u v : Int32} (hI : ITm B τ) (hk : kd = 5 ∨ kd = 6 ∨ kd = 13) (hu : vp_in u 8) (hr : RR σ τs) (hm : MI σ0 B τs) (hs : Stk B τ τs) (hn : τs 15 B = nx) (e : f_X5_it τ = f_X5_does kd u v τs) : OUT σ0 B τ (f_X4_doWithRooms kd u v σ) nx := by
  have hset : ∀ (x : Int32) (ρ : Sg), f_X4_setRoom u x ρ = up2 ρ 1 u.toNatClampNeg x := fun x ρ => if_neg (isRoom_1 hu)
  rcases hk with rfl | rfl | rfl
  · have e1 : f_X4_doWithRooms 5 u v σ = (0, f_X4_setRoom u (f_X4_safeIn (f_J9_floorMod_7cf53 v 8) σ) σ) := rfl
    have e2 : f_X5_does 5 u v τs = up2 τs 7 u.toNatClampNeg (τs 7 ((v &&& 7).toNatClampNeg)) := rfl
    rw [e1, safeIn_fm, hset, hr.2.1]
    exact OUT.done hI (e.trans e2) rfl (hr.r _ _) (hm.room (hm.2.2.1 _ (vp_lt (and7 v)))) (hs.trans (Stk.up (by decide))) (by rw [row_off (by decide)]; exact hn)
  · have e1 : f_X4_doWithRooms 6 u v σ = (0, f_X4_setRoom u (-1) σ) := rfl
    have e2 : f_X5_does 6 u v τs = up2 τs 7 u.toNatClampNeg (-1) := rfl
    rw [e1, hset]
    exact OUT.done hI (e.trans e2) rfl (hr.r _ _) (hm.room (Or.inl rfl)) (hs.trans (Stk.up (by decide))) (by rw [row_off (by decide)]; exact hn)
  · have e1 : f_X4_doWithRooms 13 u v σ = (0, up2 (f_X4_seek u v σ).2 0 4 (f_X4_seek u v σ).1) := rfl
    have e2 : f_X5_does 13 u v τs = f_X5_seek u v τs := rfl
    have e3 : f_X5_seek u v τs = lf_X5_seek (9 - u.toNatClampNeg) u.toNatClampNeg v (up2 τs 0 12 (-1)) := rfl
    have e4 : f_X4_seek u v σ = lf_X4_seek (9 - u.toNatClampNeg) u.toNatClampNeg v σ := rfl
    have hu8 := vp_lt hu
    have h1 := RR.seek (b := v) (9 - u.toNatClampNeg) u.toNatClampNeg _ _ (hr.g4 (-1)) (up2_self _ _ _ _) (by omega) (by omega)
    rw [sk_v] at h1
    have h2 : RR (up2 (up2 (lf_X4_seek (9 - u.toNatClampNeg) u.toNatClampNeg v σ).2 0 4 (-1)) 0 4 (lf_X4_seek (9 - u.toNatClampNeg) u.toNatClampNeg v σ).1) (lf_X5_seek (9 - u.toNatClampNeg) u.toNatClampNeg v (up2 τs 0 12 (-1))) := h1
    rw [up2_up2] at h2
    rw [e1, e4]
    refine OUT.done hI (e.trans (e2.trans e3)) rfl h2 ?_ ?_ ?_
    · refine (hm.up0 (i := 12) (by decide) (-1)).of (fun k hk => fr5_sk (by omega) _ _ _) (fr5_sk0 (by decide) _ _ _) (fr5_sk0 (by decide) _ _ _) (fr5_sk0 (by decide) _ _ _)
    · exact (hs.trans (Stk.up (by decide))).trans (Stk.rows (fun k h1 _ => fr5_sk (by omega) _ _ _))
    · rw [fr5_sk (by decide), row_off (by decide)]; exact hn
/-- kinds 8 .. 11 -/
theorem sim_value {kd u v : Int32} (hI : ITm B τ) (hk : kd = 8 ∨ kd = 9 ∨ kd = 10 ∨ kd = 11) (h9 : kd = 9 → ¬ u = 0 ∧ ¬ u = -1) (hr : RR σ τs) (hm : MI σ0 B τs) (hs : Stk B τ τs) (hn : τs 15 B = nx) (e : f_X5_it τ = f_X5_does kd u v τs) : OUT σ0 B τ (f_X4_doWithValue kd u σ) nx := by
  rcases hk with rfl | rfl | rfl | rfl
  · have e1 : f_X4_doWithValue 8 u σ = if u = 0 then (6, σ) else (0, up2 σ 0 4 ((σ 0 4) / u)) := rfl
    have e2 : f_X5_does 8 u v τs = if u = 0 then f_X5_fails 6 τs else up2 τs 0 12 ((τs 0 12) / u) := rfl
    rw [e1]
    rw [e2] at e
    by_cases c : u = 0
    · rw [if_pos c]
      rw [if_pos c] at e
      exact OUT.fail hI e (show ¬ (6 : Int32) = 0 by decide) (show ¬ (6 : Int32) = -1 by decide) hr hm hs
    · rw [if_neg c, hr.2.2.2.2.1]
      rw [if_neg c] at e
      exact OUT.done hI e rfl (hr.g4 _) (hm.up0 (by decide) _) (hs.trans (Stk.up (by decide))) (by rw [row_off (by decide)]; exact hn)
  · have e1 : f_X4_doWithValue 9 u σ = (u, σ) := rfl
    have e2 : f_X5_does 9 u v τs = f_X5_fails u τs := rfl
    rw [e1]
    exact OUT.fail hI (e.trans e2) (h9 rfl).1 (h9 rfl).2 hr hm hs
  · have e1 : f_X4_doWithValue 10 u σ = (-1, up2 σ 0 4 u) := rfl
    have e2 : f_X5_does 10 u v τs = BK (up2 τs 0 12 u) := by
      have e3 : f_X5_does 10 u v τs = lf_X5_back (τs 0 20).toNatClampNeg (up2 τs 0 12 u) := rfl
      rw [e3]
      unfold BK
      rw [up2_row _ _ _ (by decide)]
    rw [e1]
    exact OUT.back hI (e.trans e2) rfl (hr.g4 _) (hm.up0 (by decide) _) (hs.trans (Stk.up (by decide)))
  · have e1 : f_X4_doWithValue 11 u σ = (0, up2 σ 0 4 ((σ 0 4) + u)) := rfl
    have e2 : f_X5_does 11 u v τs = up2 τs 0 12 ((τs 0 12) + u) := rfl
    rw [e1, hr.2.2.2.2.1]
    exact OUT.done hI (e.trans e2) rfl (hr.g4 _) (hm.up0 (by decide) _) (hs.trans (Stk.up (by decide))) (by rw [row_off (by decide)]; exact hn)
end STEP
end
