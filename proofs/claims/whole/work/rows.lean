section
-- ===== PART A: goes FIRST, ahead of the names: the tables' words, and 'selects' of the private methods out of them =====
/-- a private method of a class that the tables say can be made, by its rows of tables_1 -/
def lw_okq (q : MethodName × Nat) : Prop := (q.1.cls ≠ "java/lang/invoke/MethodHandle" ∧ q.1.cls ≠ "java/lang/invoke/VarHandle") ∧ Cond.instantiable q.1.cls q.2 ∈ tables_1 ∧ Cond.privateMethod q.1 ∈ tables_1 ∧ Cond.instanceMethod q.1 ∈ tables_1
theorem lw_p0 : lw_okq (⟨"SafeDesk", "doPlan", "(I)I"⟩, 9) := ⟨⟨by decide +kernel, by decide +kernel⟩, List.mem_of_getElem? (i := 9) (by decide +kernel), List.mem_of_getElem? (i := 179) (by decide +kernel), List.mem_of_getElem? (i := 180) (by decide +kernel)⟩
theorem lw_p1 : lw_okq (⟨"SafeDesk", "doSteps", "(LSafeDesk$Plan;II)I"⟩, 9) := ⟨⟨by decide +kernel, by decide +kernel⟩, List.mem_of_getElem? (i := 9) (by decide +kernel), List.mem_of_getElem? (i := 186) (by decide +kernel), List.mem_of_getElem? (i := 187) (by decide +kernel)⟩
theorem lw_p2 : lw_okq (⟨"SafeDesk", "doStep", "(LSafeDesk$Plan;II)I"⟩, 9) := ⟨⟨by decide +kernel, by decide +kernel⟩, List.mem_of_getElem? (i := 9) (by decide +kernel), List.mem_of_getElem? (i := 197) (by decide +kernel), List.mem_of_getElem? (i := 198) (by decide +kernel)⟩
theorem lw_p3 : lw_okq (⟨"SafeDesk", "leaveInTrace", "(I)V"⟩, 9) := ⟨⟨by decide +kernel, by decide +kernel⟩, List.mem_of_getElem? (i := 9) (by decide +kernel), List.mem_of_getElem? (i := 201) (by decide +kernel), List.mem_of_getElem? (i := 202) (by decide +kernel)⟩
theorem lw_p4 : lw_okq (⟨"SafeDesk", "safeIn", "(I)LSafeDesk$Safe;"⟩, 9) := ⟨⟨by decide +kernel, by decide +kernel⟩, List.mem_of_getElem? (i := 9) (by decide +kernel), List.mem_of_getElem? (i := 205) (by decide +kernel), List.mem_of_getElem? (i := 206) (by decide +kernel)⟩
theorem lw_p5 : lw_okq (⟨"SafeDesk", "doInside", "(LSafeDesk$Safe;LSafeDesk$Plan;II)I"⟩, 9) := ⟨⟨by decide +kernel, by decide +kernel⟩, List.mem_of_getElem? (i := 9) (by decide +kernel), List.mem_of_getElem? (i := 209) (by decide +kernel), List.mem_of_getElem? (i := 210) (by decide +kernel)⟩
theorem lw_p6 : lw_okq (⟨"SafeDesk", "doTry", "(ILSafeDesk$Plan;II)I"⟩, 9) := ⟨⟨by decide +kernel, by decide +kernel⟩, List.mem_of_getElem? (i := 9) (by decide +kernel), List.mem_of_getElem? (i := 227) (by decide +kernel), List.mem_of_getElem? (i := 228) (by decide +kernel)⟩
theorem lw_p7 : lw_okq (⟨"SafeDesk", "doWithValue", "(II)I"⟩, 9) := ⟨⟨by decide +kernel, by decide +kernel⟩, List.mem_of_getElem? (i := 9) (by decide +kernel), List.mem_of_getElem? (i := 231) (by decide +kernel), List.mem_of_getElem? (i := 232) (by decide +kernel)⟩
theorem lw_p8 : lw_okq (⟨"SafeDesk", "doWithRooms", "(III)I"⟩, 9) := ⟨⟨by decide +kernel, by decide +kernel⟩, List.mem_of_getElem? (i := 9) (by decide +kernel), List.mem_of_getElem? (i := 235) (by decide +kernel), List.mem_of_getElem? (i := 236) (by decide +kernel)⟩
theorem lw_p9 : lw_okq (⟨"SafeDesk", "setRoom", "(ILSafeDesk$Safe;)V"⟩, 9) := ⟨⟨by decide +kernel, by decide +kernel⟩, List.mem_of_getElem? (i := 9) (by decide +kernel), List.mem_of_getElem? (i := 242) (by decide +kernel), List.mem_of_getElem? (i := 243) (by decide +kernel)⟩
theorem lw_p10 : lw_okq (⟨"SafeDesk", "seek", "(II)I"⟩, 9) := ⟨⟨by decide +kernel, by decide +kernel⟩, List.mem_of_getElem? (i := 9) (by decide +kernel), List.mem_of_getElem? (i := 246) (by decide +kernel), List.mem_of_getElem? (i := 247) (by decide +kernel)⟩
theorem lw_p11 : lw_okq (⟨"SafeDesk", "doWithSafe", "(ILSafeDesk$Safe;I)I"⟩, 9) := ⟨⟨by decide +kernel, by decide +kernel⟩, List.mem_of_getElem? (i := 9) (by decide +kernel), List.mem_of_getElem? (i := 250) (by decide +kernel), List.mem_of_getElem? (i := 251) (by decide +kernel)⟩
theorem lw_p12 : lw_okq (⟨"SafeDesk", "roomsWithSafe", "()I"⟩, 9) := ⟨⟨by decide +kernel, by decide +kernel⟩, List.mem_of_getElem? (i := 9) (by decide +kernel), List.mem_of_getElem? (i := 323) (by decide +kernel), List.mem_of_getElem? (i := 324) (by decide +kernel)⟩
theorem lw_p13 : lw_okq (⟨"SafeDeskModel", "beginPlan", "(I)V"⟩, 26) := ⟨⟨by decide +kernel, by decide +kernel⟩, List.mem_of_getElem? (i := 327) (by decide +kernel), List.mem_of_getElem? (i := 440) (by decide +kernel), List.mem_of_getElem? (i := 441) (by decide +kernel)⟩
theorem lw_p14 : lw_okq (⟨"SafeDeskModel", "push", "(IIIII)V"⟩, 26) := ⟨⟨by decide +kernel, by decide +kernel⟩, List.mem_of_getElem? (i := 327) (by decide +kernel), List.mem_of_getElem? (i := 444) (by decide +kernel), List.mem_of_getElem? (i := 445) (by decide +kernel)⟩
theorem lw_p15 : lw_okq (⟨"SafeDeskModel", "pop", "()V"⟩, 26) := ⟨⟨by decide +kernel, by decide +kernel⟩, List.mem_of_getElem? (i := 327) (by decide +kernel), List.mem_of_getElem? (i := 448) (by decide +kernel), List.mem_of_getElem? (i := 449) (by decide +kernel)⟩
def lw_privs_1 : List (MethodName × Nat) := [(⟨"SafeDesk", "doPlan", "(I)I"⟩, 9), (⟨"SafeDesk", "doSteps", "(LSafeDesk$Plan;II)I"⟩, 9), (⟨"SafeDesk", "doStep", "(LSafeDesk$Plan;II)I"⟩, 9), (⟨"SafeDesk", "leaveInTrace", "(I)V"⟩, 9), (⟨"SafeDesk", "safeIn", "(I)LSafeDesk$Safe;"⟩, 9), (⟨"SafeDesk", "doInside", "(LSafeDesk$Safe;LSafeDesk$Plan;II)I"⟩, 9), (⟨"SafeDesk", "doTry", "(ILSafeDesk$Plan;II)I"⟩, 9), (⟨"SafeDesk", "doWithValue", "(II)I"⟩, 9), (⟨"SafeDesk", "doWithRooms", "(III)I"⟩, 9), (⟨"SafeDesk", "setRoom", "(ILSafeDesk$Safe;)V"⟩, 9), (⟨"SafeDesk", "seek", "(II)I"⟩, 9), (⟨"SafeDesk", "doWithSafe", "(ILSafeDesk$Safe;I)I"⟩, 9), (⟨"SafeDesk", "roomsWithSafe", "()I"⟩, 9), (⟨"SafeDeskModel", "beginPlan", "(I)V"⟩, 26), (⟨"SafeDeskModel", "push", "(IIIII)V"⟩, 26), (⟨"SafeDeskModel", "pop", "()V"⟩, 26)]
theorem lw_r1 : ∀ q ∈ lw_privs_1, lw_okq q := List.forall_mem_cons.mpr ⟨lw_p0, List.forall_mem_cons.mpr ⟨lw_p1, List.forall_mem_cons.mpr ⟨lw_p2, List.forall_mem_cons.mpr ⟨lw_p3, List.forall_mem_cons.mpr ⟨lw_p4, List.forall_mem_cons.mpr ⟨lw_p5, List.forall_mem_cons.mpr ⟨lw_p6, List.forall_mem_cons.mpr ⟨lw_p7, List.forall_mem_cons.mpr ⟨lw_p8, List.forall_mem_cons.mpr ⟨lw_p9, List.forall_mem_cons.mpr ⟨lw_p10, List.forall_mem_cons.mpr ⟨lw_p11, List.forall_mem_cons.mpr ⟨lw_p12, List.forall_mem_cons.mpr ⟨lw_p13, List.forall_mem_cons.mpr ⟨lw_p14, List.forall_mem_cons.mpr ⟨lw_p15, fun _ h => absurd h List.not_mem_nil⟩⟩⟩⟩⟩⟩⟩⟩⟩⟩⟩⟩⟩⟩⟩⟩
theorem lw_p16 : lw_okq (⟨"SafeDeskModel", "leave", "(I)V"⟩, 26) := ⟨⟨by decide +kernel, by decide +kernel⟩, List.mem_of_getElem? (i := 327) (by decide +kernel), List.mem_of_getElem? (i := 452) (by decide +kernel), List.mem_of_getElem? (i := 453) (by decide +kernel)⟩
theorem lw_p17 : lw_okq (⟨"SafeDeskModel", "fails", "(I)V"⟩, 26) := ⟨⟨by decide +kernel, by decide +kernel⟩, List.mem_of_getElem? (i := 327) (by decide +kernel), List.mem_of_getElem? (i := 456) (by decide +kernel), List.mem_of_getElem? (i := 457) (by decide +kernel)⟩
theorem lw_p18 : lw_okq (⟨"SafeDeskModel", "does", "(III)V"⟩, 26) := ⟨⟨by decide +kernel, by decide +kernel⟩, List.mem_of_getElem? (i := 327) (by decide +kernel), List.mem_of_getElem? (i := 460) (by decide +kernel), List.mem_of_getElem? (i := 461) (by decide +kernel)⟩
theorem lw_p19 : lw_okq (⟨"SafeDeskModel", "within", "(III)V"⟩, 26) := ⟨⟨by decide +kernel, by decide +kernel⟩, List.mem_of_getElem? (i := 327) (by decide +kernel), List.mem_of_getElem? (i := 464) (by decide +kernel), List.mem_of_getElem? (i := 465) (by decide +kernel)⟩
theorem lw_p20 : lw_okq (⟨"SafeDeskModel", "back", "(I)V"⟩, 26) := ⟨⟨by decide +kernel, by decide +kernel⟩, List.mem_of_getElem? (i := 327) (by decide +kernel), List.mem_of_getElem? (i := 468) (by decide +kernel), List.mem_of_getElem? (i := 469) (by decide +kernel)⟩
theorem lw_p21 : lw_okq (⟨"SafeDeskModel", "seek", "(II)V"⟩, 26) := ⟨⟨by decide +kernel, by decide +kernel⟩, List.mem_of_getElem? (i := 327) (by decide +kernel), List.mem_of_getElem? (i := 472) (by decide +kernel), List.mem_of_getElem? (i := 473) (by decide +kernel)⟩
theorem lw_p22 : lw_okq (⟨"SafeDeskModel", "enter", "(I)V"⟩, 26) := ⟨⟨by decide +kernel, by decide +kernel⟩, List.mem_of_getElem? (i := 327) (by decide +kernel), List.mem_of_getElem? (i := 476) (by decide +kernel), List.mem_of_getElem? (i := 477) (by decide +kernel)⟩
theorem lw_p23 : lw_okq (⟨"SafeDeskModel", "withSafe", "(III)V"⟩, 26) := ⟨⟨by decide +kernel, by decide +kernel⟩, List.mem_of_getElem? (i := 327) (by decide +kernel), List.mem_of_getElem? (i := 480) (by decide +kernel), List.mem_of_getElem? (i := 481) (by decide +kernel)⟩
theorem lw_p24 : lw_okq (⟨"SafeDeskModel", "put", "(II)Z"⟩, 26) := ⟨⟨by decide +kernel, by decide +kernel⟩, List.mem_of_getElem? (i := 327) (by decide +kernel), List.mem_of_getElem? (i := 484) (by decide +kernel), List.mem_of_getElem? (i := 485) (by decide +kernel)⟩
theorem lw_p25 : lw_okq (⟨"SafeDeskModel", "putPlain", "(II)Z"⟩, 26) := ⟨⟨by decide +kernel, by decide +kernel⟩, List.mem_of_getElem? (i := 327) (by decide +kernel), List.mem_of_getElem? (i := 488) (by decide +kernel), List.mem_of_getElem? (i := 489) (by decide +kernel)⟩
theorem lw_p26 : lw_okq (⟨"SafeDeskModel", "putTimed", "(II)Z"⟩, 26) := ⟨⟨by decide +kernel, by decide +kernel⟩, List.mem_of_getElem? (i := 327) (by decide +kernel), List.mem_of_getElem? (i := 493) (by decide +kernel), List.mem_of_getElem? (i := 494) (by decide +kernel)⟩
theorem lw_p27 : lw_okq (⟨"SafeDeskModel", "worth", "(I)I"⟩, 26) := ⟨⟨by decide +kernel, by decide +kernel⟩, List.mem_of_getElem? (i := 327) (by decide +kernel), List.mem_of_getElem? (i := 497) (by decide +kernel), List.mem_of_getElem? (i := 498) (by decide +kernel)⟩
theorem lw_p28 : lw_okq (⟨"SafeDeskModel", "give", "(III)I"⟩, 26) := ⟨⟨by decide +kernel, by decide +kernel⟩, List.mem_of_getElem? (i := 327) (by decide +kernel), List.mem_of_getElem? (i := 501) (by decide +kernel), List.mem_of_getElem? (i := 502) (by decide +kernel)⟩
def lw_privs_2 : List (MethodName × Nat) := [(⟨"SafeDeskModel", "leave", "(I)V"⟩, 26), (⟨"SafeDeskModel", "fails", "(I)V"⟩, 26), (⟨"SafeDeskModel", "does", "(III)V"⟩, 26), (⟨"SafeDeskModel", "within", "(III)V"⟩, 26), (⟨"SafeDeskModel", "back", "(I)V"⟩, 26), (⟨"SafeDeskModel", "seek", "(II)V"⟩, 26), (⟨"SafeDeskModel", "enter", "(I)V"⟩, 26), (⟨"SafeDeskModel", "withSafe", "(III)V"⟩, 26), (⟨"SafeDeskModel", "put", "(II)Z"⟩, 26), (⟨"SafeDeskModel", "putPlain", "(II)Z"⟩, 26), (⟨"SafeDeskModel", "putTimed", "(II)Z"⟩, 26), (⟨"SafeDeskModel", "worth", "(I)I"⟩, 26), (⟨"SafeDeskModel", "give", "(III)I"⟩, 26)]
theorem lw_r2 : ∀ q ∈ lw_privs_2, lw_okq q := List.forall_mem_cons.mpr ⟨lw_p16, List.forall_mem_cons.mpr ⟨lw_p17, List.forall_mem_cons.mpr ⟨lw_p18, List.forall_mem_cons.mpr ⟨lw_p19, List.forall_mem_cons.mpr ⟨lw_p20, List.forall_mem_cons.mpr ⟨lw_p21, List.forall_mem_cons.mpr ⟨lw_p22, List.forall_mem_cons.mpr ⟨lw_p23, List.forall_mem_cons.mpr ⟨lw_p24, List.forall_mem_cons.mpr ⟨lw_p25, List.forall_mem_cons.mpr ⟨lw_p26, List.forall_mem_cons.mpr ⟨lw_p27, List.forall_mem_cons.mpr ⟨lw_p28, fun _ h => absurd h List.not_mem_nil⟩⟩⟩⟩⟩⟩⟩⟩⟩⟩⟩⟩⟩
def lw_privs : List (MethodName × Nat) := lw_privs_1 ++ (lw_privs_2)
def lw_tbl : List Cond := k2_sels lw_privs ++ tables_1
theorem lw_privs_ok : ∀ q ∈ lw_privs, lw_okq q := by
  show ∀ q ∈ lw_privs_1 ++ (lw_privs_2), lw_okq q
  exact List.forall_mem_append.mpr ⟨lw_r1, lw_r2⟩
/-- the words that ride along to a callee -/
def gd_tbl : List Cond := lw_tbl.filter goodWord
theorem gd_in {w : Cond} (i : Nat) (h : lw_tbl[i]? = some w) (hg : goodWord w = true) : w ∈ gd_tbl := List.mem_filter.mpr ⟨List.mem_of_getElem? h, hg⟩
theorem gd_good : ∀ w ∈ gd_tbl, w ∈ gd_tbl ∧ ((w.onTables && w.keeps) = true ∨ ∃ ty, w = .arrayClass ty) := fun w h => ⟨h, good_of_word (List.mem_filter.mp h).2⟩
theorem gd_lw : ∀ w ∈ gd_tbl, w ∈ lw_tbl := fun _ h => (List.mem_filter.mp h).1
end
section
/-! ===== BEGIN printed: names, fields, word lists, decode rows ===== -/
def RX0 : String := "SafeDesk$Plan"
def TX0 : u_T := fun k => match k with
  | 0 => ("SafeDesk$Plan", "kinds", "[I", true)
  | 1 => ("SafeDesk$Plan", "as", "[I", true)
  | 2 => ("SafeDesk$Plan", "bs", "[I", true)
  | _ => ("SafeDesk$Plan", "size", "I", false)
def tyX0 : Nat → FieldType := fun k => match k with
  | 0 => .array .int
  | 1 => .array .int
  | 2 => .array .int
  | _ => .int
abbrev wsX00 : List Cond := u_ws RX0 TX0 4
theorem nmX0 : ∀ a, a < 4 → ∀ b, b < 4 → a ≠ b → (TX0 a).2.1 ≠ (TX0 b).2.1 := by decide +kernel
theorem tyX0_ok : ∀ k, k < 4 → parseFieldDescriptor (TX0 k).2.2.1 = some (tyX0 k) := by decide +kernel
abbrev cX0_init : ByteArray := prog_2_method_1_code
def yX0_init : MethodName := ⟨RX0, "<init>", "()V"⟩
abbrev cX0_add : ByteArray := prog_2_method_2_code
def yX0_add : MethodName := ⟨RX0, "add", "(III)V"⟩
abbrev cX0_behind : ByteArray := prog_2_method_3_code
def yX0_behind : MethodName := ⟨RX0, "behind", "(II)I"⟩
def RX1 : String := "SafeDesk$Safe"
def TX1 : u_T := fun k => match k with
  | 0 => ("SafeDesk$Safe", "kind", "I", true)
  | 1 => ("SafeDesk$Safe", "coins", "I", false)
  | 2 => ("SafeDesk$Safe", "turn", "I", false)
  | 3 => ("SafeDesk$Safe", "entries", "I", false)
  | 4 => ("SafeDesk$Safe", "depth", "I", false)
  | _ => ("SafeDesk$Safe", "most", "I", false)
def tyX1 : Nat → FieldType := fun k => match k with
  | 0 => .int
  | 1 => .int
  | 2 => .int
  | 3 => .int
  | 4 => .int
  | _ => .int
abbrev wsX10 : List Cond := u_ws RX1 TX1 6
theorem nmX1 : ∀ a, a < 6 → ∀ b, b < 6 → a ≠ b → (TX1 a).2.1 ≠ (TX1 b).2.1 := by decide +kernel
theorem tyX1_ok : ∀ k, k < 6 → parseFieldDescriptor (TX1 k).2.2.1 = some (tyX1 k) := by decide +kernel
abbrev cX1_init : ByteArray := prog_3_method_1_code
def yX1_init : MethodName := ⟨RX1, "<init>", "(II)V"⟩
abbrev cX1_enter : ByteArray := prog_3_method_2_code
def yX1_enter : MethodName := ⟨RX1, "enter", "()V"⟩
abbrev cX1_leave : ByteArray := prog_3_method_3_code
def yX1_leave : MethodName := ⟨RX1, "leave", "()V"⟩
abbrev cX1_put : ByteArray := prog_3_method_4_code
def yX1_put : MethodName := ⟨RX1, "put", "(I)I"⟩
abbrev cX1_worth : ByteArray := prog_3_method_5_code
def yX1_worth : MethodName := ⟨RX1, "worth", "()I"⟩
abbrev cX1_give : ByteArray := prog_3_method_6_code
def yX1_give : MethodName := ⟨RX1, "give", "(ILSafeDesk$Safe;)I"⟩
def RX2 : String := "SafeDesk$Timed"
def TX2 : u_T := fun k => match k with
  | 0 => ("SafeDesk$Safe", "kind", "I", true)
  | 1 => ("SafeDesk$Safe", "coins", "I", false)
  | 2 => ("SafeDesk$Safe", "turn", "I", false)
  | 3 => ("SafeDesk$Safe", "entries", "I", false)
  | 4 => ("SafeDesk$Safe", "depth", "I", false)
  | _ => ("SafeDesk$Safe", "most", "I", false)
def tyX2 : Nat → FieldType := fun k => match k with
  | 0 => .int
  | 1 => .int
  | 2 => .int
  | 3 => .int
  | 4 => .int
  | _ => .int
abbrev wsX20 : List Cond := u_ws RX2 TX2 6
theorem nmX2 : ∀ a, a < 6 → ∀ b, b < 6 → a ≠ b → (TX2 a).2.1 ≠ (TX2 b).2.1 := by decide +kernel
theorem tyX2_ok : ∀ k, k < 6 → parseFieldDescriptor (TX2 k).2.2.1 = some (tyX2 k) := by decide +kernel
abbrev cX2_init : ByteArray := prog_4_method_1_code
def yX2_init : MethodName := ⟨RX2, "<init>", "(II)V"⟩
abbrev cX2_put : ByteArray := prog_4_method_2_code
def yX2_put : MethodName := ⟨RX2, "put", "(I)I"⟩
abbrev cX2_worth : ByteArray := prog_4_method_3_code
def yX2_worth : MethodName := ⟨RX2, "worth", "()I"⟩
def RX3 : String := "SafeDesk$Vault"
def TX3 : u_T := fun k => match k with
  | 0 => ("SafeDesk$Safe", "kind", "I", true)
  | 1 => ("SafeDesk$Safe", "coins", "I", false)
  | 2 => ("SafeDesk$Safe", "turn", "I", false)
  | 3 => ("SafeDesk$Safe", "entries", "I", false)
  | 4 => ("SafeDesk$Safe", "depth", "I", false)
  | _ => ("SafeDesk$Safe", "most", "I", false)
def tyX3 : Nat → FieldType := fun k => match k with
  | 0 => .int
  | 1 => .int
  | 2 => .int
  | 3 => .int
  | 4 => .int
  | _ => .int
abbrev wsX30 : List Cond := u_ws RX3 TX3 6
theorem nmX3 : ∀ a, a < 6 → ∀ b, b < 6 → a ≠ b → (TX3 a).2.1 ≠ (TX3 b).2.1 := by decide +kernel
theorem tyX3_ok : ∀ k, k < 6 → parseFieldDescriptor (TX3 k).2.2.1 = some (tyX3 k) := by decide +kernel
abbrev cX3_init : ByteArray := prog_5_method_1_code
def yX3_init : MethodName := ⟨RX3, "<init>", "(II)V"⟩
abbrev cX3_put : ByteArray := prog_5_method_2_code
def yX3_put : MethodName := ⟨RX3, "put", "(I)I"⟩
abbrev cX3_worth : ByteArray := prog_5_method_3_code
def yX3_worth : MethodName := ⟨RX3, "worth", "()I"⟩
def RX4 : String := "SafeDesk"
def TX4 : u_T := fun k => match k with
  | 0 => ("SafeDesk", "rooms", "[LSafeDesk$Safe;", true)
  | 1 => ("SafeDesk", "plans", "[LSafeDesk$Plan;", true)
  | 2 => ("SafeDesk", "traceNumbers", "[I", true)
  | 3 => ("SafeDesk", "traced", "I", false)
  | 4 => ("SafeDesk", "valueNow", "I", false)
  | 5 => ("SafeDesk", "begun", "I", false)
  | 6 => ("SafeDesk", "failure", "I", false)
  | 7 => ("SafeDesk", "plansAtWork", "I", false)
  | _ => ("SafeDesk", "mostPlansAtWork", "I", false)
def tyX4 : Nat → FieldType := fun k => match k with
  | 0 => .array (.object "SafeDesk$Safe")
  | 1 => .array (.object "SafeDesk$Plan")
  | 2 => .array .int
  | 3 => .int
  | 4 => .int
  | 5 => .int
  | 6 => .int
  | 7 => .int
  | _ => .int
abbrev wsX40 : List Cond := u_ws RX4 TX4 9
theorem nmX4 : ∀ a, a < 9 → ∀ b, b < 9 → a ≠ b → (TX4 a).2.1 ≠ (TX4 b).2.1 := by decide +kernel
theorem tyX4_ok : ∀ k, k < 9 → parseFieldDescriptor (TX4 k).2.2.1 = some (tyX4 k) := by decide +kernel
abbrev cX4_init : ByteArray := prog_1_method_1_code
def yX4_init : MethodName := ⟨RX4, "<init>", "()V"⟩
abbrev cX4_safe : ByteArray := prog_1_method_2_code
def yX4_safe : MethodName := ⟨RX4, "safe", "(III)I"⟩
abbrev cX4_share : ByteArray := prog_1_method_3_code
def yX4_share : MethodName := ⟨RX4, "share", "(II)I"⟩
abbrev cX4_same : ByteArray := prog_1_method_4_code
def yX4_same : MethodName := ⟨RX4, "same", "(II)I"⟩
abbrev cX4_step : ByteArray := prog_1_method_5_code
def yX4_step : MethodName := ⟨RX4, "step", "(IIII)I"⟩
abbrev cX4_clear : ByteArray := prog_1_method_6_code
def yX4_clear : MethodName := ⟨RX4, "clear", "(I)I"⟩
abbrev cX4_run : ByteArray := prog_1_method_7_code
def yX4_run : MethodName := ⟨RX4, "run", "(II)I"⟩
abbrev cX4_value : ByteArray := prog_1_method_8_code
def yX4_value : MethodName := ⟨RX4, "value", "()I"⟩
abbrev cX4_trace : ByteArray := prog_1_method_9_code
def yX4_trace : MethodName := ⟨RX4, "trace", "(I)I"⟩
abbrev cX4_told : ByteArray := prog_1_method_10_code
def yX4_told : MethodName := ⟨RX4, "told", "(II)I"⟩
abbrev cX4_count : ByteArray := prog_1_method_11_code
def yX4_count : MethodName := ⟨RX4, "count", "(I)I"⟩
abbrev cX4_isRoom : ByteArray := prog_1_method_12_code
def yX4_isRoom : MethodName := ⟨RX4, "isRoom", "(I)Z"⟩
abbrev cX4_isPlan : ByteArray := prog_1_method_13_code
def yX4_isPlan : MethodName := ⟨RX4, "isPlan", "(I)Z"⟩
abbrev cX4_isBlock : ByteArray := prog_1_method_14_code
def yX4_isBlock : MethodName := ⟨RX4, "isBlock", "(I)Z"⟩
abbrev cX4_isOwnFailure : ByteArray := prog_1_method_15_code
def yX4_isOwnFailure : MethodName := ⟨RX4, "isOwnFailure", "(I)Z"⟩
abbrev cX4_canBeHeld : ByteArray := prog_1_method_16_code
def yX4_canBeHeld : MethodName := ⟨RX4, "canBeHeld", "(I)Z"⟩
abbrev cX4_isStep : ByteArray := prog_1_method_17_code
def yX4_isStep : MethodName := ⟨RX4, "isStep", "(III)Z"⟩
abbrev cX4_newSafe : ByteArray := prog_1_method_18_code
def yX4_newSafe : MethodName := ⟨RX4, "newSafe", "(II)LSafeDesk$Safe;"⟩
abbrev cX4_safeIn : ByteArray := prog_1_method_19_code
def yX4_safeIn : MethodName := ⟨RX4, "safeIn", "(I)LSafeDesk$Safe;"⟩
abbrev cX4_setRoom : ByteArray := prog_1_method_20_code
def yX4_setRoom : MethodName := ⟨RX4, "setRoom", "(ILSafeDesk$Safe;)V"⟩
abbrev cX4_roomsWithSafe : ByteArray := prog_1_method_21_code
def yX4_roomsWithSafe : MethodName := ⟨RX4, "roomsWithSafe", "()I"⟩
abbrev cX4_leaveInTrace : ByteArray := prog_1_method_22_code
def yX4_leaveInTrace : MethodName := ⟨RX4, "leaveInTrace", "(I)V"⟩
abbrev cX4_doPlan : ByteArray := prog_1_method_23_code
def yX4_doPlan : MethodName := ⟨RX4, "doPlan", "(I)I"⟩
abbrev cX4_doSteps : ByteArray := prog_1_method_24_code
def yX4_doSteps : MethodName := ⟨RX4, "doSteps", "(LSafeDesk$Plan;II)I"⟩
abbrev cX4_doStep : ByteArray := prog_1_method_25_code
def yX4_doStep : MethodName := ⟨RX4, "doStep", "(LSafeDesk$Plan;II)I"⟩
abbrev cX4_doInside : ByteArray := prog_1_method_26_code
def yX4_doInside : MethodName := ⟨RX4, "doInside", "(LSafeDesk$Safe;LSafeDesk$Plan;II)I"⟩
abbrev cX4_doTry : ByteArray := prog_1_method_27_code
def yX4_doTry : MethodName := ⟨RX4, "doTry", "(ILSafeDesk$Plan;II)I"⟩
abbrev cX4_doWithValue : ByteArray := prog_1_method_28_code
def yX4_doWithValue : MethodName := ⟨RX4, "doWithValue", "(II)I"⟩
abbrev cX4_doWithRooms : ByteArray := prog_1_method_29_code
def yX4_doWithRooms : MethodName := ⟨RX4, "doWithRooms", "(III)I"⟩
abbrev cX4_seek : ByteArray := prog_1_method_30_code
def yX4_seek : MethodName := ⟨RX4, "seek", "(II)I"⟩
abbrev cX4_doWithSafe : ByteArray := prog_1_method_31_code
def yX4_doWithSafe : MethodName := ⟨RX4, "doWithSafe", "(ILSafeDesk$Safe;I)I"⟩
def RX5 : String := "SafeDeskModel"
def TX5 : u_T := fun k => match k with
  | 0 => ("SafeDeskModel", "safes", "I", false)
  | 1 => ("SafeDeskModel", "kinds", "[I", true)
  | 2 => ("SafeDeskModel", "coins", "[I", true)
  | 3 => ("SafeDeskModel", "turns", "[I", true)
  | 4 => ("SafeDeskModel", "entries", "[I", true)
  | 5 => ("SafeDeskModel", "depths", "[I", true)
  | 6 => ("SafeDeskModel", "mosts", "[I", true)
  | 7 => ("SafeDeskModel", "rooms", "[I", true)
  | 8 => ("SafeDeskModel", "many", "[I", true)
  | 9 => ("SafeDeskModel", "stepKind", "[I", true)
  | 10 => ("SafeDeskModel", "stepA", "[I", true)
  | 11 => ("SafeDeskModel", "stepB", "[I", true)
  | 12 => ("SafeDeskModel", "value", "I", false)
  | 13 => ("SafeDeskModel", "steps", "I", false)
  | 14 => ("SafeDeskModel", "failure", "I", false)
  | 15 => ("SafeDeskModel", "ended", "I", false)
  | 16 => ("SafeDeskModel", "atWork", "I", false)
  | 17 => ("SafeDeskModel", "mostPlans", "I", false)
  | 18 => ("SafeDeskModel", "traces", "I", false)
  | 19 => ("SafeDeskModel", "traced", "[I", true)
  | 20 => ("SafeDeskModel", "blocks", "I", false)
  | 21 => ("SafeDeskModel", "sort", "[I", true)
  | 22 => ("SafeDeskModel", "planOf", "[I", true)
  | 23 => ("SafeDeskModel", "next", "[I", true)
  | 24 => ("SafeDeskModel", "end", "[I", true)
  | _ => ("SafeDeskModel", "about", "[I", true)
def tyX5 : Nat → FieldType := fun k => match k with
  | 0 => .int
  | 1 => .array .int
  | 2 => .array .int
  | 3 => .array .int
  | 4 => .array .int
  | 5 => .array .int
  | 6 => .array .int
  | 7 => .array .int
  | 8 => .array .int
  | 9 => .array .int
  | 10 => .array .int
  | 11 => .array .int
  | 12 => .int
  | 13 => .int
  | 14 => .int
  | 15 => .int
  | 16 => .int
  | 17 => .int
  | 18 => .int
  | 19 => .array .int
  | 20 => .int
  | 21 => .array .int
  | 22 => .array .int
  | 23 => .array .int
  | 24 => .array .int
  | _ => .array .int
abbrev wsX50 : List Cond := u_ws RX5 TX5 26
theorem nmX5 : ∀ a, a < 26 → ∀ b, b < 26 → a ≠ b → (TX5 a).2.1 ≠ (TX5 b).2.1 := by decide +kernel
theorem tyX5_ok : ∀ k, k < 26 → parseFieldDescriptor (TX5 k).2.2.1 = some (tyX5 k) := by decide +kernel
abbrev cX5_init : ByteArray := prog_7_method_1_code
def yX5_init : MethodName := ⟨RX5, "<init>", "()V"⟩
abbrev cX5_in : ByteArray := prog_7_method_2_code
def yX5_in : MethodName := ⟨RX5, "in", "(III)Z"⟩
abbrev cX5_safe : ByteArray := prog_7_method_3_code
def yX5_safe : MethodName := ⟨RX5, "safe", "(III)I"⟩
abbrev cX5_share : ByteArray := prog_7_method_4_code
def yX5_share : MethodName := ⟨RX5, "share", "(II)I"⟩
abbrev cX5_same : ByteArray := prog_7_method_5_code
def yX5_same : MethodName := ⟨RX5, "same", "(II)I"⟩
abbrev cX5_enter : ByteArray := prog_7_method_6_code
def yX5_enter : MethodName := ⟨RX5, "enter", "(I)V"⟩
abbrev cX5_putPlain : ByteArray := prog_7_method_7_code
def yX5_putPlain : MethodName := ⟨RX5, "putPlain", "(II)Z"⟩
abbrev cX5_putTimed : ByteArray := prog_7_method_8_code
def yX5_putTimed : MethodName := ⟨RX5, "putTimed", "(II)Z"⟩
abbrev cX5_put : ByteArray := prog_7_method_9_code
def yX5_put : MethodName := ⟨RX5, "put", "(II)Z"⟩
abbrev cX5_worth : ByteArray := prog_7_method_10_code
def yX5_worth : MethodName := ⟨RX5, "worth", "(I)I"⟩
abbrev cX5_give : ByteArray := prog_7_method_11_code
def yX5_give : MethodName := ⟨RX5, "give", "(III)I"⟩
abbrev cX5_step : ByteArray := prog_7_method_12_code
def yX5_step : MethodName := ⟨RX5, "step", "(IIII)I"⟩
abbrev cX5_clear : ByteArray := prog_7_method_13_code
def yX5_clear : MethodName := ⟨RX5, "clear", "(I)I"⟩
abbrev cX5_leave : ByteArray := prog_7_method_14_code
def yX5_leave : MethodName := ⟨RX5, "leave", "(I)V"⟩
abbrev cX5_push : ByteArray := prog_7_method_15_code
def yX5_push : MethodName := ⟨RX5, "push", "(IIIII)V"⟩
abbrev cX5_beginPlan : ByteArray := prog_7_method_16_code
def yX5_beginPlan : MethodName := ⟨RX5, "beginPlan", "(I)V"⟩
abbrev cX5_pop : ByteArray := prog_7_method_17_code
def yX5_pop : MethodName := ⟨RX5, "pop", "()V"⟩
abbrev cX5_fails : ByteArray := prog_7_method_18_code
def yX5_fails : MethodName := ⟨RX5, "fails", "(I)V"⟩
abbrev cX5_within : ByteArray := prog_7_method_19_code
def yX5_within : MethodName := ⟨RX5, "within", "(III)V"⟩
abbrev cX5_back : ByteArray := prog_7_method_20_code
def yX5_back : MethodName := ⟨RX5, "back", "(I)V"⟩
abbrev cX5_seek : ByteArray := prog_7_method_21_code
def yX5_seek : MethodName := ⟨RX5, "seek", "(II)V"⟩
abbrev cX5_withSafe : ByteArray := prog_7_method_22_code
def yX5_withSafe : MethodName := ⟨RX5, "withSafe", "(III)V"⟩
abbrev cX5_does : ByteArray := prog_7_method_23_code
def yX5_does : MethodName := ⟨RX5, "does", "(III)V"⟩
abbrev cX5_run : ByteArray := prog_7_method_24_code
def yX5_run : MethodName := ⟨RX5, "run", "(II)I"⟩
abbrev cX5_value : ByteArray := prog_7_method_25_code
def yX5_value : MethodName := ⟨RX5, "value", "()I"⟩
abbrev cX5_trace : ByteArray := prog_7_method_26_code
def yX5_trace : MethodName := ⟨RX5, "trace", "(I)I"⟩
abbrev cX5_told : ByteArray := prog_7_method_27_code
def yX5_told : MethodName := ⟨RX5, "told", "(II)I"⟩
abbrev cX5_count : ByteArray := prog_7_method_28_code
def yX5_count : MethodName := ⟨RX5, "count", "(I)I"⟩
def RJ9 : String := "java/lang/Math"
def TJ9 : u_T := fun k => match k with
  | _ => ("", "", "", false)
def tyJ9 : Nat → FieldType := fun k => match k with
  | _ => .int
abbrev wsJ90 : List Cond := u_ws RJ9 TJ9 0
theorem nmJ9 : ∀ a, a < 0 → ∀ b, b < 0 → a ≠ b → (TJ9 a).2.1 ≠ (TJ9 b).2.1 := by decide +kernel
theorem tyJ9_ok : ∀ k, k < 0 → parseFieldDescriptor (TJ9 k).2.2.1 = some (tyJ9 k) := by decide +kernel
abbrev cJ9_floorMod_7cf53 : ByteArray := prog_8_method_50_code
def yJ9_floorMod_7cf53 : MethodName := ⟨RJ9, "floorMod", "(II)I"⟩
abbrev cJ9_max_7cf53 : ByteArray := prog_8_method_65_code
def yJ9_max_7cf53 : MethodName := ⟨RJ9, "max", "(II)I"⟩
abbrev cJ9_min_7cf53 : ByteArray := prog_8_method_69_code
def yJ9_min_7cf53 : MethodName := ⟨RJ9, "min", "(II)I"⟩
def RL : String := "SafeDeskLaw"
abbrev cL_law : ByteArray := code
def yL_law : MethodName := ⟨RL, "law", "([I)Z"⟩
end
section
theorem m_0 : (Jvm.Cond.initialized "SafeDeskLaw") ∈ gd_tbl := gd_in 29 (by decide +kernel) rfl
theorem m_1 : (Jvm.Cond.initialized "SafeDesk") ∈ gd_tbl := gd_in 30 (by decide +kernel) rfl
theorem m_2 : (Jvm.Cond.initialized "SafeDesk$Plan") ∈ gd_tbl := gd_in 31 (by decide +kernel) rfl
theorem m_3 : (Jvm.Cond.initialized "SafeDeskModel") ∈ gd_tbl := gd_in 32 (by decide +kernel) rfl
theorem m_4 : (Jvm.Cond.initialized "SafeDesk$Safe") ∈ gd_tbl := gd_in 33 (by decide +kernel) rfl
theorem m_5 : (Jvm.Cond.initialized "SafeDesk$Timed") ∈ gd_tbl := gd_in 34 (by decide +kernel) rfl
theorem m_6 : (Jvm.Cond.initialized "SafeDesk$Vault") ∈ gd_tbl := gd_in 35 (by decide +kernel) rfl
theorem m_7 : (Jvm.Cond.initialized "java/lang/Math") ∈ gd_tbl := gd_in 36 (by decide +kernel) rfl
theorem m_8 : (Jvm.Cond.classLink "SafeDeskLaw" (7 : Nat) "SafeDesk") ∈ gd_tbl := gd_in 37 (by decide +kernel) rfl
theorem m_9 : (Jvm.Cond.instantiable "SafeDesk" (9 : Nat)) ∈ gd_tbl := gd_in 38 (by decide +kernel) rfl
theorem m_10 : (Jvm.Cond.methodLink "SafeDeskLaw" (9 : Nat) ({ cls := "SafeDesk", name := "<init>", desc := "()V" } : Jvm.MethodName)) ∈ gd_tbl := gd_in 39 (by decide +kernel) rfl
theorem m_11 : (Jvm.Cond.instanceMethod ({ cls := "SafeDesk", name := "<init>", desc := "()V" } : Jvm.MethodName)) ∈ gd_tbl := gd_in 40 (by decide +kernel) rfl
theorem m_12 : (Jvm.Cond.code ({ cls := "SafeDesk", name := "<init>", desc := "()V" } : Jvm.MethodName) prog_1_method_1_code (2 : Nat) (Option.none : Option Jvm.ClassFile.FieldType)) ∈ gd_tbl := gd_in 41 (by decide +kernel) rfl
theorem m_13 : (Jvm.Cond.methodLink "SafeDesk" (1 : Nat) ({ cls := "java/lang/Object", name := "<init>", desc := "()V" } : Jvm.MethodName)) ∈ gd_tbl := gd_in 42 (by decide +kernel) rfl
theorem m_14 : (Jvm.Cond.instanceMethod ({ cls := "java/lang/Object", name := "<init>", desc := "()V" } : Jvm.MethodName)) ∈ gd_tbl := gd_in 43 (by decide +kernel) rfl
theorem m_15 : (Jvm.Cond.code ({ cls := "java/lang/Object", name := "<init>", desc := "()V" } : Jvm.MethodName) object_method_1_code (1 : Nat) (Option.none : Option Jvm.ClassFile.FieldType)) ∈ gd_tbl := gd_in 44 (by decide +kernel) rfl
theorem m_16 : (Jvm.Cond.classLink "SafeDesk" (9 : Nat) "SafeDesk$Safe") ∈ gd_tbl := gd_in 45 (by decide +kernel) rfl
theorem m_18 : (Jvm.Cond.classLink "SafeDesk" (15 : Nat) "SafeDesk$Plan") ∈ gd_tbl := gd_in 47 (by decide +kernel) rfl
theorem m_20 : (Jvm.Cond.instantiable "SafeDesk$Plan" (4 : Nat)) ∈ gd_tbl := gd_in 49 (by decide +kernel) rfl
theorem m_22 : (Jvm.Cond.instanceMethod ({ cls := "SafeDesk$Plan", name := "<init>", desc := "()V" } : Jvm.MethodName)) ∈ gd_tbl := gd_in 51 (by decide +kernel) rfl
theorem m_23 : (Jvm.Cond.code ({ cls := "SafeDesk$Plan", name := "<init>", desc := "()V" } : Jvm.MethodName) prog_2_method_1_code (1 : Nat) (Option.none : Option Jvm.ClassFile.FieldType)) ∈ gd_tbl := gd_in 52 (by decide +kernel) rfl
theorem m_24 : (Jvm.Cond.methodLink "SafeDesk$Plan" (3 : Nat) ({ cls := "java/lang/Object", name := "<init>", desc := "()V" } : Jvm.MethodName)) ∈ gd_tbl := gd_in 53 (by decide +kernel) rfl
theorem m_25 : (Jvm.Cond.fieldLink "SafeDesk$Plan" (9 : Nat) "SafeDesk$Plan" "kinds" "[I") ∈ gd_tbl := gd_in 54 (by decide +kernel) rfl
theorem m_26 : (Jvm.Cond.fieldLink "SafeDesk" (132 : Nat) "SafeDesk$Plan" "kinds" "[I") ∈ gd_tbl := gd_in 55 (by decide +kernel) rfl
theorem m_27 : (Jvm.Cond.fieldLink "SafeDesk$Plan" (15 : Nat) "SafeDesk$Plan" "as" "[I") ∈ gd_tbl := gd_in 56 (by decide +kernel) rfl
theorem m_28 : (Jvm.Cond.fieldLink "SafeDesk" (135 : Nat) "SafeDesk$Plan" "as" "[I") ∈ gd_tbl := gd_in 57 (by decide +kernel) rfl
theorem m_29 : (Jvm.Cond.fieldLink "SafeDesk$Plan" (18 : Nat) "SafeDesk$Plan" "bs" "[I") ∈ gd_tbl := gd_in 58 (by decide +kernel) rfl
theorem m_30 : (Jvm.Cond.fieldLink "SafeDesk" (153 : Nat) "SafeDesk$Plan" "bs" "[I") ∈ gd_tbl := gd_in 59 (by decide +kernel) rfl
theorem m_31 : (Jvm.Cond.fieldLink "SafeDesk$Plan" (21 : Nat) "SafeDesk$Plan" "size" "I") ∈ gd_tbl := gd_in 60 (by decide +kernel) rfl
theorem m_32 : (Jvm.Cond.fieldLink "SafeDesk" (42 : Nat) "SafeDesk$Plan" "size" "I") ∈ gd_tbl := gd_in 61 (by decide +kernel) rfl
theorem m_33 : (Jvm.Cond.laysFinal "SafeDesk$Plan" "SafeDesk$Plan" "kinds" "[I") ∈ gd_tbl := gd_in 62 (by decide +kernel) rfl
theorem m_34 : (Jvm.Cond.soleField "SafeDesk$Plan" "kinds") ∈ gd_tbl := gd_in 63 (by decide +kernel) rfl
theorem m_35 : (Jvm.Cond.laysFinal "SafeDesk$Plan" "SafeDesk$Plan" "as" "[I") ∈ gd_tbl := gd_in 64 (by decide +kernel) rfl
theorem m_36 : (Jvm.Cond.soleField "SafeDesk$Plan" "as") ∈ gd_tbl := gd_in 65 (by decide +kernel) rfl
theorem m_37 : (Jvm.Cond.laysFinal "SafeDesk$Plan" "SafeDesk$Plan" "bs" "[I") ∈ gd_tbl := gd_in 66 (by decide +kernel) rfl
theorem m_38 : (Jvm.Cond.soleField "SafeDesk$Plan" "bs") ∈ gd_tbl := gd_in 67 (by decide +kernel) rfl
theorem m_39 : (Jvm.Cond.lays "SafeDesk$Plan" "SafeDesk$Plan" "size" "I") ∈ gd_tbl := gd_in 68 (by decide +kernel) rfl
theorem m_40 : (Jvm.Cond.soleField "SafeDesk$Plan" "size") ∈ gd_tbl := gd_in 69 (by decide +kernel) rfl
theorem m_41 : (Jvm.Cond.superclass "SafeDesk$Plan" "java/lang/Object") ∈ gd_tbl := gd_in 70 (by decide +kernel) rfl
theorem m_42 : (Jvm.Cond.arrayClass Jvm.ClassFile.FieldType.int) ∈ gd_tbl := gd_in 71 (by decide +kernel) rfl
theorem m_43 : (Jvm.Cond.fieldLink "SafeDesk" (11 : Nat) "SafeDesk" "rooms" "[LSafeDesk$Safe;") ∈ gd_tbl := gd_in 72 (by decide +kernel) rfl
theorem m_44 : (Jvm.Cond.fieldLink "SafeDesk" (17 : Nat) "SafeDesk" "plans" "[LSafeDesk$Plan;") ∈ gd_tbl := gd_in 73 (by decide +kernel) rfl
theorem m_45 : (Jvm.Cond.fieldLink "SafeDesk" (21 : Nat) "SafeDesk" "traceNumbers" "[I") ∈ gd_tbl := gd_in 74 (by decide +kernel) rfl
theorem m_46 : (Jvm.Cond.fieldLink "SafeDesk" (56 : Nat) "SafeDesk" "traced" "I") ∈ gd_tbl := gd_in 75 (by decide +kernel) rfl
theorem m_47 : (Jvm.Cond.fieldLink "SafeDesk" (50 : Nat) "SafeDesk" "valueNow" "I") ∈ gd_tbl := gd_in 76 (by decide +kernel) rfl
theorem m_48 : (Jvm.Cond.fieldLink "SafeDesk" (53 : Nat) "SafeDesk" "begun" "I") ∈ gd_tbl := gd_in 77 (by decide +kernel) rfl
theorem m_49 : (Jvm.Cond.fieldLink "SafeDesk" (66 : Nat) "SafeDesk" "failure" "I") ∈ gd_tbl := gd_in 78 (by decide +kernel) rfl
theorem m_50 : (Jvm.Cond.fieldLink "SafeDesk" (113 : Nat) "SafeDesk" "plansAtWork" "I") ∈ gd_tbl := gd_in 79 (by decide +kernel) rfl
theorem m_51 : (Jvm.Cond.fieldLink "SafeDesk" (59 : Nat) "SafeDesk" "mostPlansAtWork" "I") ∈ gd_tbl := gd_in 80 (by decide +kernel) rfl
theorem m_52 : (Jvm.Cond.laysFinal "SafeDesk" "SafeDesk" "rooms" "[LSafeDesk$Safe;") ∈ gd_tbl := gd_in 81 (by decide +kernel) rfl
theorem m_53 : (Jvm.Cond.soleField "SafeDesk" "rooms") ∈ gd_tbl := gd_in 82 (by decide +kernel) rfl
theorem m_54 : (Jvm.Cond.laysFinal "SafeDesk" "SafeDesk" "plans" "[LSafeDesk$Plan;") ∈ gd_tbl := gd_in 83 (by decide +kernel) rfl
theorem m_55 : (Jvm.Cond.soleField "SafeDesk" "plans") ∈ gd_tbl := gd_in 84 (by decide +kernel) rfl
theorem m_56 : (Jvm.Cond.laysFinal "SafeDesk" "SafeDesk" "traceNumbers" "[I") ∈ gd_tbl := gd_in 85 (by decide +kernel) rfl
theorem m_57 : (Jvm.Cond.soleField "SafeDesk" "traceNumbers") ∈ gd_tbl := gd_in 86 (by decide +kernel) rfl
theorem m_58 : (Jvm.Cond.lays "SafeDesk" "SafeDesk" "traced" "I") ∈ gd_tbl := gd_in 87 (by decide +kernel) rfl
theorem m_59 : (Jvm.Cond.soleField "SafeDesk" "traced") ∈ gd_tbl := gd_in 88 (by decide +kernel) rfl
theorem m_60 : (Jvm.Cond.lays "SafeDesk" "SafeDesk" "valueNow" "I") ∈ gd_tbl := gd_in 89 (by decide +kernel) rfl
theorem m_61 : (Jvm.Cond.soleField "SafeDesk" "valueNow") ∈ gd_tbl := gd_in 90 (by decide +kernel) rfl
theorem m_62 : (Jvm.Cond.lays "SafeDesk" "SafeDesk" "begun" "I") ∈ gd_tbl := gd_in 91 (by decide +kernel) rfl
theorem m_63 : (Jvm.Cond.soleField "SafeDesk" "begun") ∈ gd_tbl := gd_in 92 (by decide +kernel) rfl
theorem m_64 : (Jvm.Cond.lays "SafeDesk" "SafeDesk" "failure" "I") ∈ gd_tbl := gd_in 93 (by decide +kernel) rfl
theorem m_65 : (Jvm.Cond.soleField "SafeDesk" "failure") ∈ gd_tbl := gd_in 94 (by decide +kernel) rfl
theorem m_66 : (Jvm.Cond.lays "SafeDesk" "SafeDesk" "plansAtWork" "I") ∈ gd_tbl := gd_in 95 (by decide +kernel) rfl
theorem m_67 : (Jvm.Cond.soleField "SafeDesk" "plansAtWork") ∈ gd_tbl := gd_in 96 (by decide +kernel) rfl
theorem m_68 : (Jvm.Cond.lays "SafeDesk" "SafeDesk" "mostPlansAtWork" "I") ∈ gd_tbl := gd_in 97 (by decide +kernel) rfl
theorem m_69 : (Jvm.Cond.soleField "SafeDesk" "mostPlansAtWork") ∈ gd_tbl := gd_in 98 (by decide +kernel) rfl
theorem m_70 : (Jvm.Cond.superclass "SafeDesk" "java/lang/Object") ∈ gd_tbl := gd_in 99 (by decide +kernel) rfl
theorem m_71 : (Jvm.Cond.methodLink "SafeDeskLaw" (13 : Nat) ({ cls := "SafeDesk", name := "safe", desc := "(III)I" } : Jvm.MethodName)) ∈ gd_tbl := gd_in 100 (by decide +kernel) rfl
theorem m_72 : (Jvm.Cond.instanceMethod ({ cls := "SafeDesk", name := "safe", desc := "(III)I" } : Jvm.MethodName)) ∈ gd_tbl := gd_in 101 (by decide +kernel) rfl
theorem m_73 : (Jvm.Cond.selects "SafeDesk" ({ cls := "SafeDesk", name := "safe", desc := "(III)I" } : Jvm.MethodName) ({ cls := "SafeDesk", name := "safe", desc := "(III)I" } : Jvm.MethodName)) ∈ gd_tbl := gd_in 102 (by decide +kernel) rfl
theorem m_74 : (Jvm.Cond.code ({ cls := "SafeDesk", name := "safe", desc := "(III)I" } : Jvm.MethodName) prog_1_method_2_code (4 : Nat) (Option.some Jvm.ClassFile.FieldType.int)) ∈ gd_tbl := gd_in 103 (by decide +kernel) rfl
theorem m_75 : (Jvm.Cond.methodLink "SafeDesk" (26 : Nat) ({ cls := "SafeDesk", name := "isRoom", desc := "(I)Z" } : Jvm.MethodName)) ∈ gd_tbl := gd_in 104 (by decide +kernel) rfl
theorem m_76 : (Jvm.Cond.static ({ cls := "SafeDesk", name := "isRoom", desc := "(I)Z" } : Jvm.MethodName)) ∈ gd_tbl := gd_in 105 (by decide +kernel) rfl
theorem m_77 : (Jvm.Cond.code ({ cls := "SafeDesk", name := "isRoom", desc := "(I)Z" } : Jvm.MethodName) prog_1_method_12_code (1 : Nat) (Option.some Jvm.ClassFile.FieldType.boolean)) ∈ gd_tbl := gd_in 106 (by decide +kernel) rfl
theorem m_78 : (Jvm.Cond.constant "SafeDesk" (30 : Nat) (1000000 : Int32)) ∈ gd_tbl := gd_in 107 (by decide +kernel) rfl
theorem m_79 : (Jvm.Cond.methodLink "SafeDesk" (31 : Nat) ({ cls := "SafeDesk", name := "newSafe", desc := "(II)LSafeDesk$Safe;" } : Jvm.MethodName)) ∈ gd_tbl := gd_in 108 (by decide +kernel) rfl
theorem m_80 : (Jvm.Cond.static ({ cls := "SafeDesk", name := "newSafe", desc := "(II)LSafeDesk$Safe;" } : Jvm.MethodName)) ∈ gd_tbl := gd_in 109 (by decide +kernel) rfl
theorem m_81 : (Jvm.Cond.code ({ cls := "SafeDesk", name := "newSafe", desc := "(II)LSafeDesk$Safe;" } : Jvm.MethodName) prog_1_method_18_code (2 : Nat) (Option.some (Jvm.ClassFile.FieldType.object "SafeDesk$Safe"))) ∈ gd_tbl := gd_in 110 (by decide +kernel) rfl
theorem m_82 : (Jvm.Cond.classLink "SafeDesk" (104 : Nat) "SafeDesk$Vault") ∈ gd_tbl := gd_in 111 (by decide +kernel) rfl
theorem m_83 : (Jvm.Cond.instantiable "SafeDesk$Vault" (6 : Nat)) ∈ gd_tbl := gd_in 112 (by decide +kernel) rfl
theorem m_84 : (Jvm.Cond.methodLink "SafeDesk" (106 : Nat) ({ cls := "SafeDesk$Vault", name := "<init>", desc := "(II)V" } : Jvm.MethodName)) ∈ gd_tbl := gd_in 113 (by decide +kernel) rfl
theorem m_85 : (Jvm.Cond.instanceMethod ({ cls := "SafeDesk$Vault", name := "<init>", desc := "(II)V" } : Jvm.MethodName)) ∈ gd_tbl := gd_in 114 (by decide +kernel) rfl
theorem m_86 : (Jvm.Cond.code ({ cls := "SafeDesk$Vault", name := "<init>", desc := "(II)V" } : Jvm.MethodName) prog_5_method_1_code (3 : Nat) (Option.none : Option Jvm.ClassFile.FieldType)) ∈ gd_tbl := gd_in 115 (by decide +kernel) rfl
theorem m_87 : (Jvm.Cond.methodLink "SafeDesk$Vault" (3 : Nat) ({ cls := "SafeDesk$Timed", name := "<init>", desc := "(II)V" } : Jvm.MethodName)) ∈ gd_tbl := gd_in 116 (by decide +kernel) rfl
theorem m_88 : (Jvm.Cond.instanceMethod ({ cls := "SafeDesk$Timed", name := "<init>", desc := "(II)V" } : Jvm.MethodName)) ∈ gd_tbl := gd_in 117 (by decide +kernel) rfl
theorem m_89 : (Jvm.Cond.code ({ cls := "SafeDesk$Timed", name := "<init>", desc := "(II)V" } : Jvm.MethodName) prog_4_method_1_code (3 : Nat) (Option.none : Option Jvm.ClassFile.FieldType)) ∈ gd_tbl := gd_in 118 (by decide +kernel) rfl
theorem m_90 : (Jvm.Cond.methodLink "SafeDesk$Timed" (1 : Nat) ({ cls := "SafeDesk$Safe", name := "<init>", desc := "(II)V" } : Jvm.MethodName)) ∈ gd_tbl := gd_in 119 (by decide +kernel) rfl
theorem m_91 : (Jvm.Cond.instanceMethod ({ cls := "SafeDesk$Safe", name := "<init>", desc := "(II)V" } : Jvm.MethodName)) ∈ gd_tbl := gd_in 120 (by decide +kernel) rfl
theorem m_92 : (Jvm.Cond.code ({ cls := "SafeDesk$Safe", name := "<init>", desc := "(II)V" } : Jvm.MethodName) prog_3_method_1_code (3 : Nat) (Option.none : Option Jvm.ClassFile.FieldType)) ∈ gd_tbl := gd_in 121 (by decide +kernel) rfl
theorem m_93 : (Jvm.Cond.methodLink "SafeDesk$Safe" (3 : Nat) ({ cls := "java/lang/Object", name := "<init>", desc := "()V" } : Jvm.MethodName)) ∈ gd_tbl := gd_in 122 (by decide +kernel) rfl
theorem m_94 : (Jvm.Cond.fieldLink "SafeDesk$Safe" (9 : Nat) "SafeDesk$Safe" "kind" "I") ∈ gd_tbl := gd_in 123 (by decide +kernel) rfl
theorem m_95 : (Jvm.Cond.fieldLink "SafeDesk" (73 : Nat) "SafeDesk$Safe" "kind" "I") ∈ gd_tbl := gd_in 124 (by decide +kernel) rfl
theorem m_96 : (Jvm.Cond.fieldLink "SafeDesk$Safe" (15 : Nat) "SafeDesk$Safe" "coins" "I") ∈ gd_tbl := gd_in 125 (by decide +kernel) rfl
theorem m_97 : (Jvm.Cond.fieldLink "SafeDesk" (76 : Nat) "SafeDesk$Safe" "coins" "I") ∈ gd_tbl := gd_in 126 (by decide +kernel) rfl
theorem m_98 : (Jvm.Cond.fieldLink "SafeDesk$Timed" (13 : Nat) "SafeDesk$Timed" "turn" "I") ∈ gd_tbl := gd_in 127 (by decide +kernel) rfl
theorem m_99 : (Jvm.Cond.sameField "SafeDesk$Timed" "SafeDesk$Safe" "turn" "I") ∈ gd_tbl := gd_in 128 (by decide +kernel) rfl
theorem m_100 : (Jvm.Cond.fieldLink "SafeDesk" (79 : Nat) "SafeDesk$Safe" "turn" "I") ∈ gd_tbl := gd_in 129 (by decide +kernel) rfl
theorem m_101 : (Jvm.Cond.fieldLink "SafeDesk$Safe" (21 : Nat) "SafeDesk$Safe" "entries" "I") ∈ gd_tbl := gd_in 130 (by decide +kernel) rfl
theorem m_102 : (Jvm.Cond.fieldLink "SafeDesk" (82 : Nat) "SafeDesk$Safe" "entries" "I") ∈ gd_tbl := gd_in 131 (by decide +kernel) rfl
theorem m_103 : (Jvm.Cond.fieldLink "SafeDesk$Safe" (18 : Nat) "SafeDesk$Safe" "depth" "I") ∈ gd_tbl := gd_in 132 (by decide +kernel) rfl
theorem m_104 : (Jvm.Cond.fieldLink "SafeDesk" (85 : Nat) "SafeDesk$Safe" "depth" "I") ∈ gd_tbl := gd_in 133 (by decide +kernel) rfl
theorem m_105 : (Jvm.Cond.fieldLink "SafeDesk$Safe" (24 : Nat) "SafeDesk$Safe" "most" "I") ∈ gd_tbl := gd_in 134 (by decide +kernel) rfl
theorem m_106 : (Jvm.Cond.fieldLink "SafeDesk" (88 : Nat) "SafeDesk$Safe" "most" "I") ∈ gd_tbl := gd_in 135 (by decide +kernel) rfl
theorem m_107 : (Jvm.Cond.laysFinal "SafeDesk$Vault" "SafeDesk$Safe" "kind" "I") ∈ gd_tbl := gd_in 136 (by decide +kernel) rfl
theorem m_108 : (Jvm.Cond.soleField "SafeDesk$Safe" "kind") ∈ gd_tbl := gd_in 137 (by decide +kernel) rfl
theorem m_109 : (Jvm.Cond.lays "SafeDesk$Vault" "SafeDesk$Safe" "coins" "I") ∈ gd_tbl := gd_in 138 (by decide +kernel) rfl
theorem m_110 : (Jvm.Cond.soleField "SafeDesk$Safe" "coins") ∈ gd_tbl := gd_in 139 (by decide +kernel) rfl
theorem m_111 : (Jvm.Cond.lays "SafeDesk$Vault" "SafeDesk$Safe" "turn" "I") ∈ gd_tbl := gd_in 140 (by decide +kernel) rfl
theorem m_112 : (Jvm.Cond.soleField "SafeDesk$Safe" "turn") ∈ gd_tbl := gd_in 141 (by decide +kernel) rfl
theorem m_113 : (Jvm.Cond.lays "SafeDesk$Vault" "SafeDesk$Safe" "entries" "I") ∈ gd_tbl := gd_in 142 (by decide +kernel) rfl
theorem m_114 : (Jvm.Cond.soleField "SafeDesk$Safe" "entries") ∈ gd_tbl := gd_in 143 (by decide +kernel) rfl
theorem m_115 : (Jvm.Cond.lays "SafeDesk$Vault" "SafeDesk$Safe" "depth" "I") ∈ gd_tbl := gd_in 144 (by decide +kernel) rfl
theorem m_116 : (Jvm.Cond.soleField "SafeDesk$Safe" "depth") ∈ gd_tbl := gd_in 145 (by decide +kernel) rfl
theorem m_117 : (Jvm.Cond.lays "SafeDesk$Vault" "SafeDesk$Safe" "most" "I") ∈ gd_tbl := gd_in 146 (by decide +kernel) rfl
theorem m_118 : (Jvm.Cond.soleField "SafeDesk$Safe" "most") ∈ gd_tbl := gd_in 147 (by decide +kernel) rfl
theorem m_119 : (Jvm.Cond.superclass "SafeDesk$Vault" "SafeDesk$Timed") ∈ gd_tbl := gd_in 148 (by decide +kernel) rfl
theorem m_120 : (Jvm.Cond.classLink "SafeDesk" (109 : Nat) "SafeDesk$Timed") ∈ gd_tbl := gd_in 149 (by decide +kernel) rfl
theorem m_121 : (Jvm.Cond.instantiable "SafeDesk$Timed" (6 : Nat)) ∈ gd_tbl := gd_in 150 (by decide +kernel) rfl
theorem m_122 : (Jvm.Cond.methodLink "SafeDesk" (111 : Nat) ({ cls := "SafeDesk$Timed", name := "<init>", desc := "(II)V" } : Jvm.MethodName)) ∈ gd_tbl := gd_in 151 (by decide +kernel) rfl
theorem m_123 : (Jvm.Cond.laysFinal "SafeDesk$Timed" "SafeDesk$Safe" "kind" "I") ∈ gd_tbl := gd_in 152 (by decide +kernel) rfl
theorem m_124 : (Jvm.Cond.lays "SafeDesk$Timed" "SafeDesk$Safe" "coins" "I") ∈ gd_tbl := gd_in 153 (by decide +kernel) rfl
theorem m_125 : (Jvm.Cond.lays "SafeDesk$Timed" "SafeDesk$Safe" "turn" "I") ∈ gd_tbl := gd_in 154 (by decide +kernel) rfl
theorem m_126 : (Jvm.Cond.lays "SafeDesk$Timed" "SafeDesk$Safe" "entries" "I") ∈ gd_tbl := gd_in 155 (by decide +kernel) rfl
theorem m_127 : (Jvm.Cond.lays "SafeDesk$Timed" "SafeDesk$Safe" "depth" "I") ∈ gd_tbl := gd_in 156 (by decide +kernel) rfl
theorem m_128 : (Jvm.Cond.lays "SafeDesk$Timed" "SafeDesk$Safe" "most" "I") ∈ gd_tbl := gd_in 157 (by decide +kernel) rfl
theorem m_129 : (Jvm.Cond.superclass "SafeDesk$Timed" "SafeDesk$Safe") ∈ gd_tbl := gd_in 158 (by decide +kernel) rfl
theorem m_130 : (Jvm.Cond.instantiable "SafeDesk$Safe" (6 : Nat)) ∈ gd_tbl := gd_in 159 (by decide +kernel) rfl
theorem m_131 : (Jvm.Cond.methodLink "SafeDesk" (112 : Nat) ({ cls := "SafeDesk$Safe", name := "<init>", desc := "(II)V" } : Jvm.MethodName)) ∈ gd_tbl := gd_in 160 (by decide +kernel) rfl
theorem m_132 : (Jvm.Cond.laysFinal "SafeDesk$Safe" "SafeDesk$Safe" "kind" "I") ∈ gd_tbl := gd_in 161 (by decide +kernel) rfl
theorem m_133 : (Jvm.Cond.lays "SafeDesk$Safe" "SafeDesk$Safe" "coins" "I") ∈ gd_tbl := gd_in 162 (by decide +kernel) rfl
theorem m_134 : (Jvm.Cond.lays "SafeDesk$Safe" "SafeDesk$Safe" "turn" "I") ∈ gd_tbl := gd_in 163 (by decide +kernel) rfl
theorem m_135 : (Jvm.Cond.lays "SafeDesk$Safe" "SafeDesk$Safe" "entries" "I") ∈ gd_tbl := gd_in 164 (by decide +kernel) rfl
theorem m_136 : (Jvm.Cond.lays "SafeDesk$Safe" "SafeDesk$Safe" "depth" "I") ∈ gd_tbl := gd_in 165 (by decide +kernel) rfl
theorem m_137 : (Jvm.Cond.lays "SafeDesk$Safe" "SafeDesk$Safe" "most" "I") ∈ gd_tbl := gd_in 166 (by decide +kernel) rfl
theorem m_138 : (Jvm.Cond.superclass "SafeDesk$Safe" "java/lang/Object") ∈ gd_tbl := gd_in 167 (by decide +kernel) rfl
theorem m_139 : (Jvm.Cond.methodLink "SafeDeskLaw" (18 : Nat) ({ cls := "SafeDesk", name := "share", desc := "(II)I" } : Jvm.MethodName)) ∈ gd_tbl := gd_in 168 (by decide +kernel) rfl
theorem m_140 : (Jvm.Cond.instanceMethod ({ cls := "SafeDesk", name := "share", desc := "(II)I" } : Jvm.MethodName)) ∈ gd_tbl := gd_in 169 (by decide +kernel) rfl
theorem m_141 : (Jvm.Cond.selects "SafeDesk" ({ cls := "SafeDesk", name := "share", desc := "(II)I" } : Jvm.MethodName) ({ cls := "SafeDesk", name := "share", desc := "(II)I" } : Jvm.MethodName)) ∈ gd_tbl := gd_in 170 (by decide +kernel) rfl
theorem m_142 : (Jvm.Cond.code ({ cls := "SafeDesk", name := "share", desc := "(II)I" } : Jvm.MethodName) prog_1_method_3_code (3 : Nat) (Option.some Jvm.ClassFile.FieldType.int)) ∈ gd_tbl := gd_in 171 (by decide +kernel) rfl
theorem m_143 : (Jvm.Cond.methodLink "SafeDeskLaw" (23 : Nat) ({ cls := "SafeDesk", name := "same", desc := "(II)I" } : Jvm.MethodName)) ∈ gd_tbl := gd_in 172 (by decide +kernel) rfl
theorem m_144 : (Jvm.Cond.instanceMethod ({ cls := "SafeDesk", name := "same", desc := "(II)I" } : Jvm.MethodName)) ∈ gd_tbl := gd_in 173 (by decide +kernel) rfl
theorem m_145 : (Jvm.Cond.selects "SafeDesk" ({ cls := "SafeDesk", name := "same", desc := "(II)I" } : Jvm.MethodName) ({ cls := "SafeDesk", name := "same", desc := "(II)I" } : Jvm.MethodName)) ∈ gd_tbl := gd_in 174 (by decide +kernel) rfl
theorem m_146 : (Jvm.Cond.code ({ cls := "SafeDesk", name := "same", desc := "(II)I" } : Jvm.MethodName) prog_1_method_4_code (3 : Nat) (Option.some Jvm.ClassFile.FieldType.int)) ∈ gd_tbl := gd_in 175 (by decide +kernel) rfl
theorem m_147 : (Jvm.Cond.methodLink "SafeDeskLaw" (27 : Nat) ({ cls := "SafeDesk", name := "step", desc := "(IIII)I" } : Jvm.MethodName)) ∈ gd_tbl := gd_in 176 (by decide +kernel) rfl
theorem m_148 : (Jvm.Cond.instanceMethod ({ cls := "SafeDesk", name := "step", desc := "(IIII)I" } : Jvm.MethodName)) ∈ gd_tbl := gd_in 177 (by decide +kernel) rfl
theorem m_149 : (Jvm.Cond.selects "SafeDesk" ({ cls := "SafeDesk", name := "step", desc := "(IIII)I" } : Jvm.MethodName) ({ cls := "SafeDesk", name := "step", desc := "(IIII)I" } : Jvm.MethodName)) ∈ gd_tbl := gd_in 178 (by decide +kernel) rfl
theorem m_150 : (Jvm.Cond.code ({ cls := "SafeDesk", name := "step", desc := "(IIII)I" } : Jvm.MethodName) prog_1_method_5_code (6 : Nat) (Option.some Jvm.ClassFile.FieldType.int)) ∈ gd_tbl := gd_in 179 (by decide +kernel) rfl
theorem m_151 : (Jvm.Cond.methodLink "SafeDesk" (35 : Nat) ({ cls := "SafeDesk", name := "isPlan", desc := "(I)Z" } : Jvm.MethodName)) ∈ gd_tbl := gd_in 180 (by decide +kernel) rfl
theorem m_152 : (Jvm.Cond.static ({ cls := "SafeDesk", name := "isPlan", desc := "(I)Z" } : Jvm.MethodName)) ∈ gd_tbl := gd_in 181 (by decide +kernel) rfl
theorem m_153 : (Jvm.Cond.code ({ cls := "SafeDesk", name := "isPlan", desc := "(I)Z" } : Jvm.MethodName) prog_1_method_13_code (1 : Nat) (Option.some Jvm.ClassFile.FieldType.boolean)) ∈ gd_tbl := gd_in 182 (by decide +kernel) rfl
theorem m_154 : (Jvm.Cond.methodLink "SafeDesk" (38 : Nat) ({ cls := "SafeDesk", name := "isStep", desc := "(III)Z" } : Jvm.MethodName)) ∈ gd_tbl := gd_in 183 (by decide +kernel) rfl
theorem m_155 : (Jvm.Cond.static ({ cls := "SafeDesk", name := "isStep", desc := "(III)Z" } : Jvm.MethodName)) ∈ gd_tbl := gd_in 184 (by decide +kernel) rfl
theorem m_156 : (Jvm.Cond.code ({ cls := "SafeDesk", name := "isStep", desc := "(III)Z" } : Jvm.MethodName) prog_1_method_17_code (3 : Nat) (Option.some Jvm.ClassFile.FieldType.boolean)) ∈ gd_tbl := gd_in 185 (by decide +kernel) rfl
theorem m_157 : (Jvm.Cond.methodLink "SafeDesk" (98 : Nat) ({ cls := "SafeDesk", name := "isBlock", desc := "(I)Z" } : Jvm.MethodName)) ∈ gd_tbl := gd_in 186 (by decide +kernel) rfl
theorem m_158 : (Jvm.Cond.static ({ cls := "SafeDesk", name := "isBlock", desc := "(I)Z" } : Jvm.MethodName)) ∈ gd_tbl := gd_in 187 (by decide +kernel) rfl
theorem m_159 : (Jvm.Cond.code ({ cls := "SafeDesk", name := "isBlock", desc := "(I)Z" } : Jvm.MethodName) prog_1_method_14_code (1 : Nat) (Option.some Jvm.ClassFile.FieldType.boolean)) ∈ gd_tbl := gd_in 188 (by decide +kernel) rfl
theorem m_160 : (Jvm.Cond.methodLink "SafeDesk" (101 : Nat) ({ cls := "SafeDesk", name := "canBeHeld", desc := "(I)Z" } : Jvm.MethodName)) ∈ gd_tbl := gd_in 189 (by decide +kernel) rfl
theorem m_161 : (Jvm.Cond.static ({ cls := "SafeDesk", name := "canBeHeld", desc := "(I)Z" } : Jvm.MethodName)) ∈ gd_tbl := gd_in 190 (by decide +kernel) rfl
theorem m_162 : (Jvm.Cond.code ({ cls := "SafeDesk", name := "canBeHeld", desc := "(I)Z" } : Jvm.MethodName) prog_1_method_16_code (1 : Nat) (Option.some Jvm.ClassFile.FieldType.boolean)) ∈ gd_tbl := gd_in 191 (by decide +kernel) rfl
theorem m_163 : (Jvm.Cond.methodLink "SafeDesk" (95 : Nat) ({ cls := "SafeDesk", name := "isOwnFailure", desc := "(I)Z" } : Jvm.MethodName)) ∈ gd_tbl := gd_in 192 (by decide +kernel) rfl
theorem m_164 : (Jvm.Cond.static ({ cls := "SafeDesk", name := "isOwnFailure", desc := "(I)Z" } : Jvm.MethodName)) ∈ gd_tbl := gd_in 193 (by decide +kernel) rfl
theorem m_165 : (Jvm.Cond.code ({ cls := "SafeDesk", name := "isOwnFailure", desc := "(I)Z" } : Jvm.MethodName) prog_1_method_15_code (1 : Nat) (Option.some Jvm.ClassFile.FieldType.boolean)) ∈ gd_tbl := gd_in 194 (by decide +kernel) rfl
theorem m_166 : (Jvm.Cond.methodLink "SafeDesk" (46 : Nat) ({ cls := "SafeDesk$Plan", name := "add", desc := "(III)V" } : Jvm.MethodName)) ∈ gd_tbl := gd_in 195 (by decide +kernel) rfl
theorem m_167 : (Jvm.Cond.instanceMethod ({ cls := "SafeDesk$Plan", name := "add", desc := "(III)V" } : Jvm.MethodName)) ∈ gd_tbl := gd_in 196 (by decide +kernel) rfl
theorem m_168 : (Jvm.Cond.selects "SafeDesk$Plan" ({ cls := "SafeDesk$Plan", name := "add", desc := "(III)V" } : Jvm.MethodName) ({ cls := "SafeDesk$Plan", name := "add", desc := "(III)V" } : Jvm.MethodName)) ∈ gd_tbl := gd_in 197 (by decide +kernel) rfl
theorem m_169 : (Jvm.Cond.code ({ cls := "SafeDesk$Plan", name := "add", desc := "(III)V" } : Jvm.MethodName) prog_2_method_2_code (4 : Nat) (Option.none : Option Jvm.ClassFile.FieldType)) ∈ gd_tbl := gd_in 198 (by decide +kernel) rfl
theorem m_170 : (Jvm.Cond.methodLink "SafeDeskLaw" (32 : Nat) ({ cls := "SafeDesk", name := "clear", desc := "(I)I" } : Jvm.MethodName)) ∈ gd_tbl := gd_in 199 (by decide +kernel) rfl
theorem m_171 : (Jvm.Cond.instanceMethod ({ cls := "SafeDesk", name := "clear", desc := "(I)I" } : Jvm.MethodName)) ∈ gd_tbl := gd_in 200 (by decide +kernel) rfl
theorem m_172 : (Jvm.Cond.selects "SafeDesk" ({ cls := "SafeDesk", name := "clear", desc := "(I)I" } : Jvm.MethodName) ({ cls := "SafeDesk", name := "clear", desc := "(I)I" } : Jvm.MethodName)) ∈ gd_tbl := gd_in 201 (by decide +kernel) rfl
theorem m_173 : (Jvm.Cond.code ({ cls := "SafeDesk", name := "clear", desc := "(I)I" } : Jvm.MethodName) prog_1_method_6_code (3 : Nat) (Option.some Jvm.ClassFile.FieldType.int)) ∈ gd_tbl := gd_in 202 (by decide +kernel) rfl
theorem m_174 : (Jvm.Cond.methodLink "SafeDeskLaw" (37 : Nat) ({ cls := "SafeDesk", name := "run", desc := "(II)I" } : Jvm.MethodName)) ∈ gd_tbl := gd_in 203 (by decide +kernel) rfl
theorem m_175 : (Jvm.Cond.instanceMethod ({ cls := "SafeDesk", name := "run", desc := "(II)I" } : Jvm.MethodName)) ∈ gd_tbl := gd_in 204 (by decide +kernel) rfl
theorem m_176 : (Jvm.Cond.selects "SafeDesk" ({ cls := "SafeDesk", name := "run", desc := "(II)I" } : Jvm.MethodName) ({ cls := "SafeDesk", name := "run", desc := "(II)I" } : Jvm.MethodName)) ∈ gd_tbl := gd_in 205 (by decide +kernel) rfl
theorem m_177 : (Jvm.Cond.code ({ cls := "SafeDesk", name := "run", desc := "(II)I" } : Jvm.MethodName) prog_1_method_7_code (3 : Nat) (Option.some Jvm.ClassFile.FieldType.int)) ∈ gd_tbl := gd_in 206 (by decide +kernel) rfl
theorem m_178 : (Jvm.Cond.methodLink "SafeDesk" (62 : Nat) ({ cls := "SafeDesk", name := "doPlan", desc := "(I)I" } : Jvm.MethodName)) ∈ gd_tbl := gd_in 207 (by decide +kernel) rfl
theorem m_180 : (Jvm.Cond.instanceMethod ({ cls := "SafeDesk", name := "doPlan", desc := "(I)I" } : Jvm.MethodName)) ∈ gd_tbl := gd_in 209 (by decide +kernel) rfl
theorem m_181 : (Jvm.Cond.code ({ cls := "SafeDesk", name := "doPlan", desc := "(I)I" } : Jvm.MethodName) prog_1_method_23_code (3 : Nat) (Option.some Jvm.ClassFile.FieldType.int)) ∈ gd_tbl := gd_in 210 (by decide +kernel) rfl
theorem m_182 : (Jvm.Cond.methodLink "SafeDesk" (116 : Nat) ({ cls := "java/lang/Math", name := "max", desc := "(II)I" } : Jvm.MethodName)) ∈ gd_tbl := gd_in 211 (by decide +kernel) rfl
theorem m_183 : (Jvm.Cond.static ({ cls := "java/lang/Math", name := "max", desc := "(II)I" } : Jvm.MethodName)) ∈ gd_tbl := gd_in 212 (by decide +kernel) rfl
theorem m_184 : (Jvm.Cond.code ({ cls := "java/lang/Math", name := "max", desc := "(II)I" } : Jvm.MethodName) prog_8_method_65_code (2 : Nat) (Option.some Jvm.ClassFile.FieldType.int)) ∈ gd_tbl := gd_in 213 (by decide +kernel) rfl
theorem m_185 : (Jvm.Cond.methodLink "SafeDesk" (122 : Nat) ({ cls := "SafeDesk", name := "doSteps", desc := "(LSafeDesk$Plan;II)I" } : Jvm.MethodName)) ∈ gd_tbl := gd_in 214 (by decide +kernel) rfl
theorem m_187 : (Jvm.Cond.instanceMethod ({ cls := "SafeDesk", name := "doSteps", desc := "(LSafeDesk$Plan;II)I" } : Jvm.MethodName)) ∈ gd_tbl := gd_in 216 (by decide +kernel) rfl
theorem m_188 : (Jvm.Cond.code ({ cls := "SafeDesk", name := "doSteps", desc := "(LSafeDesk$Plan;II)I" } : Jvm.MethodName) prog_1_method_24_code (7 : Nat) (Option.some Jvm.ClassFile.FieldType.int)) ∈ gd_tbl := gd_in 217 (by decide +kernel) rfl
theorem m_189 : (Jvm.Cond.methodLink "SafeDesk" (126 : Nat) ({ cls := "SafeDesk$Plan", name := "behind", desc := "(II)I" } : Jvm.MethodName)) ∈ gd_tbl := gd_in 218 (by decide +kernel) rfl
theorem m_190 : (Jvm.Cond.instanceMethod ({ cls := "SafeDesk$Plan", name := "behind", desc := "(II)I" } : Jvm.MethodName)) ∈ gd_tbl := gd_in 219 (by decide +kernel) rfl
theorem m_191 : (Jvm.Cond.selects "SafeDesk$Plan" ({ cls := "SafeDesk$Plan", name := "behind", desc := "(II)I" } : Jvm.MethodName) ({ cls := "SafeDesk$Plan", name := "behind", desc := "(II)I" } : Jvm.MethodName)) ∈ gd_tbl := gd_in 220 (by decide +kernel) rfl
theorem m_192 : (Jvm.Cond.code ({ cls := "SafeDesk$Plan", name := "behind", desc := "(II)I" } : Jvm.MethodName) prog_2_method_3_code (4 : Nat) (Option.some Jvm.ClassFile.FieldType.int)) ∈ gd_tbl := gd_in 221 (by decide +kernel) rfl
theorem m_193 : (Jvm.Cond.methodLink "SafeDesk$Plan" (25 : Nat) ({ cls := "java/lang/Math", name := "min", desc := "(II)I" } : Jvm.MethodName)) ∈ gd_tbl := gd_in 222 (by decide +kernel) rfl
theorem m_194 : (Jvm.Cond.static ({ cls := "java/lang/Math", name := "min", desc := "(II)I" } : Jvm.MethodName)) ∈ gd_tbl := gd_in 223 (by decide +kernel) rfl
theorem m_195 : (Jvm.Cond.code ({ cls := "java/lang/Math", name := "min", desc := "(II)I" } : Jvm.MethodName) prog_8_method_69_code (2 : Nat) (Option.some Jvm.ClassFile.FieldType.int)) ∈ gd_tbl := gd_in 224 (by decide +kernel) rfl
theorem m_196 : (Jvm.Cond.methodLink "SafeDesk" (129 : Nat) ({ cls := "SafeDesk", name := "doStep", desc := "(LSafeDesk$Plan;II)I" } : Jvm.MethodName)) ∈ gd_tbl := gd_in 225 (by decide +kernel) rfl
theorem m_198 : (Jvm.Cond.instanceMethod ({ cls := "SafeDesk", name := "doStep", desc := "(LSafeDesk$Plan;II)I" } : Jvm.MethodName)) ∈ gd_tbl := gd_in 227 (by decide +kernel) rfl
theorem m_199 : (Jvm.Cond.code ({ cls := "SafeDesk", name := "doStep", desc := "(LSafeDesk$Plan;II)I" } : Jvm.MethodName) prog_1_method_25_code (6 : Nat) (Option.some Jvm.ClassFile.FieldType.int)) ∈ gd_tbl := gd_in 228 (by decide +kernel) rfl
theorem m_200 : (Jvm.Cond.methodLink "SafeDesk" (138 : Nat) ({ cls := "SafeDesk", name := "leaveInTrace", desc := "(I)V" } : Jvm.MethodName)) ∈ gd_tbl := gd_in 229 (by decide +kernel) rfl
theorem m_202 : (Jvm.Cond.instanceMethod ({ cls := "SafeDesk", name := "leaveInTrace", desc := "(I)V" } : Jvm.MethodName)) ∈ gd_tbl := gd_in 231 (by decide +kernel) rfl
theorem m_203 : (Jvm.Cond.code ({ cls := "SafeDesk", name := "leaveInTrace", desc := "(I)V" } : Jvm.MethodName) prog_1_method_22_code (2 : Nat) (Option.none : Option Jvm.ClassFile.FieldType)) ∈ gd_tbl := gd_in 232 (by decide +kernel) rfl
theorem m_204 : (Jvm.Cond.methodLink "SafeDesk" (69 : Nat) ({ cls := "SafeDesk", name := "safeIn", desc := "(I)LSafeDesk$Safe;" } : Jvm.MethodName)) ∈ gd_tbl := gd_in 233 (by decide +kernel) rfl
theorem m_206 : (Jvm.Cond.instanceMethod ({ cls := "SafeDesk", name := "safeIn", desc := "(I)LSafeDesk$Safe;" } : Jvm.MethodName)) ∈ gd_tbl := gd_in 235 (by decide +kernel) rfl
theorem m_207 : (Jvm.Cond.code ({ cls := "SafeDesk", name := "safeIn", desc := "(I)LSafeDesk$Safe;" } : Jvm.MethodName) prog_1_method_19_code (2 : Nat) (Option.some (Jvm.ClassFile.FieldType.object "SafeDesk$Safe"))) ∈ gd_tbl := gd_in 236 (by decide +kernel) rfl
theorem m_208 : (Jvm.Cond.methodLink "SafeDesk" (142 : Nat) ({ cls := "SafeDesk", name := "doInside", desc := "(LSafeDesk$Safe;LSafeDesk$Plan;II)I" } : Jvm.MethodName)) ∈ gd_tbl := gd_in 237 (by decide +kernel) rfl
theorem m_210 : (Jvm.Cond.instanceMethod ({ cls := "SafeDesk", name := "doInside", desc := "(LSafeDesk$Safe;LSafeDesk$Plan;II)I" } : Jvm.MethodName)) ∈ gd_tbl := gd_in 239 (by decide +kernel) rfl
theorem m_211 : (Jvm.Cond.code ({ cls := "SafeDesk", name := "doInside", desc := "(LSafeDesk$Safe;LSafeDesk$Plan;II)I" } : Jvm.MethodName) prog_1_method_26_code (6 : Nat) (Option.some Jvm.ClassFile.FieldType.int)) ∈ gd_tbl := gd_in 240 (by decide +kernel) rfl
theorem m_212 : (Jvm.Cond.methodLink "SafeDesk" (164 : Nat) ({ cls := "SafeDesk$Safe", name := "enter", desc := "()V" } : Jvm.MethodName)) ∈ gd_tbl := gd_in 241 (by decide +kernel) rfl
theorem m_213 : (Jvm.Cond.instanceMethod ({ cls := "SafeDesk$Safe", name := "enter", desc := "()V" } : Jvm.MethodName)) ∈ gd_tbl := gd_in 242 (by decide +kernel) rfl
theorem m_214 : (Jvm.Cond.selects "SafeDesk$Safe" ({ cls := "SafeDesk$Safe", name := "enter", desc := "()V" } : Jvm.MethodName) ({ cls := "SafeDesk$Safe", name := "enter", desc := "()V" } : Jvm.MethodName)) ∈ gd_tbl := gd_in 243 (by decide +kernel) rfl
theorem m_215 : (Jvm.Cond.sameMethod "SafeDesk$Safe" "SafeDesk$Safe" "enter" "()V") ∈ gd_tbl := gd_in 244 (by decide +kernel) rfl
theorem m_216 : (Jvm.Cond.selects "SafeDesk$Timed" ({ cls := "SafeDesk$Safe", name := "enter", desc := "()V" } : Jvm.MethodName) ({ cls := "SafeDesk$Safe", name := "enter", desc := "()V" } : Jvm.MethodName)) ∈ gd_tbl := gd_in 245 (by decide +kernel) rfl
theorem m_217 : (Jvm.Cond.selects "SafeDesk$Vault" ({ cls := "SafeDesk$Safe", name := "enter", desc := "()V" } : Jvm.MethodName) ({ cls := "SafeDesk$Safe", name := "enter", desc := "()V" } : Jvm.MethodName)) ∈ gd_tbl := gd_in 246 (by decide +kernel) rfl
theorem m_218 : (Jvm.Cond.code ({ cls := "SafeDesk$Safe", name := "enter", desc := "()V" } : Jvm.MethodName) prog_3_method_2_code (1 : Nat) (Option.none : Option Jvm.ClassFile.FieldType)) ∈ gd_tbl := gd_in 247 (by decide +kernel) rfl
theorem m_219 : (Jvm.Cond.methodLink "SafeDesk" (167 : Nat) ({ cls := "SafeDesk$Safe", name := "leave", desc := "()V" } : Jvm.MethodName)) ∈ gd_tbl := gd_in 248 (by decide +kernel) rfl
theorem m_220 : (Jvm.Cond.instanceMethod ({ cls := "SafeDesk$Safe", name := "leave", desc := "()V" } : Jvm.MethodName)) ∈ gd_tbl := gd_in 249 (by decide +kernel) rfl
theorem m_221 : (Jvm.Cond.selects "SafeDesk$Safe" ({ cls := "SafeDesk$Safe", name := "leave", desc := "()V" } : Jvm.MethodName) ({ cls := "SafeDesk$Safe", name := "leave", desc := "()V" } : Jvm.MethodName)) ∈ gd_tbl := gd_in 250 (by decide +kernel) rfl
theorem m_222 : (Jvm.Cond.sameMethod "SafeDesk$Safe" "SafeDesk$Safe" "leave" "()V") ∈ gd_tbl := gd_in 251 (by decide +kernel) rfl
theorem m_223 : (Jvm.Cond.selects "SafeDesk$Timed" ({ cls := "SafeDesk$Safe", name := "leave", desc := "()V" } : Jvm.MethodName) ({ cls := "SafeDesk$Safe", name := "leave", desc := "()V" } : Jvm.MethodName)) ∈ gd_tbl := gd_in 252 (by decide +kernel) rfl
theorem m_224 : (Jvm.Cond.selects "SafeDesk$Vault" ({ cls := "SafeDesk$Safe", name := "leave", desc := "()V" } : Jvm.MethodName) ({ cls := "SafeDesk$Safe", name := "leave", desc := "()V" } : Jvm.MethodName)) ∈ gd_tbl := gd_in 253 (by decide +kernel) rfl
theorem m_225 : (Jvm.Cond.code ({ cls := "SafeDesk$Safe", name := "leave", desc := "()V" } : Jvm.MethodName) prog_3_method_3_code (1 : Nat) (Option.none : Option Jvm.ClassFile.FieldType)) ∈ gd_tbl := gd_in 254 (by decide +kernel) rfl
theorem m_226 : (Jvm.Cond.methodLink "SafeDesk" (146 : Nat) ({ cls := "SafeDesk", name := "doTry", desc := "(ILSafeDesk$Plan;II)I" } : Jvm.MethodName)) ∈ gd_tbl := gd_in 255 (by decide +kernel) rfl
theorem m_228 : (Jvm.Cond.instanceMethod ({ cls := "SafeDesk", name := "doTry", desc := "(ILSafeDesk$Plan;II)I" } : Jvm.MethodName)) ∈ gd_tbl := gd_in 257 (by decide +kernel) rfl
theorem m_229 : (Jvm.Cond.code ({ cls := "SafeDesk", name := "doTry", desc := "(ILSafeDesk$Plan;II)I" } : Jvm.MethodName) prog_1_method_27_code (6 : Nat) (Option.some Jvm.ClassFile.FieldType.int)) ∈ gd_tbl := gd_in 258 (by decide +kernel) rfl
theorem m_230 : (Jvm.Cond.methodLink "SafeDesk" (150 : Nat) ({ cls := "SafeDesk", name := "doWithValue", desc := "(II)I" } : Jvm.MethodName)) ∈ gd_tbl := gd_in 259 (by decide +kernel) rfl
theorem m_232 : (Jvm.Cond.instanceMethod ({ cls := "SafeDesk", name := "doWithValue", desc := "(II)I" } : Jvm.MethodName)) ∈ gd_tbl := gd_in 261 (by decide +kernel) rfl
theorem m_233 : (Jvm.Cond.code ({ cls := "SafeDesk", name := "doWithValue", desc := "(II)I" } : Jvm.MethodName) prog_1_method_28_code (3 : Nat) (Option.some Jvm.ClassFile.FieldType.int)) ∈ gd_tbl := gd_in 262 (by decide +kernel) rfl
theorem m_234 : (Jvm.Cond.methodLink "SafeDesk" (156 : Nat) ({ cls := "SafeDesk", name := "doWithRooms", desc := "(III)I" } : Jvm.MethodName)) ∈ gd_tbl := gd_in 263 (by decide +kernel) rfl
theorem m_236 : (Jvm.Cond.instanceMethod ({ cls := "SafeDesk", name := "doWithRooms", desc := "(III)I" } : Jvm.MethodName)) ∈ gd_tbl := gd_in 265 (by decide +kernel) rfl
theorem m_237 : (Jvm.Cond.code ({ cls := "SafeDesk", name := "doWithRooms", desc := "(III)I" } : Jvm.MethodName) prog_1_method_29_code (4 : Nat) (Option.some Jvm.ClassFile.FieldType.int)) ∈ gd_tbl := gd_in 266 (by decide +kernel) rfl
theorem m_238 : (Jvm.Cond.methodLink "SafeDesk" (170 : Nat) ({ cls := "java/lang/Math", name := "floorMod", desc := "(II)I" } : Jvm.MethodName)) ∈ gd_tbl := gd_in 267 (by decide +kernel) rfl
theorem m_239 : (Jvm.Cond.static ({ cls := "java/lang/Math", name := "floorMod", desc := "(II)I" } : Jvm.MethodName)) ∈ gd_tbl := gd_in 268 (by decide +kernel) rfl
theorem m_240 : (Jvm.Cond.code ({ cls := "java/lang/Math", name := "floorMod", desc := "(II)I" } : Jvm.MethodName) prog_8_method_50_code (3 : Nat) (Option.some Jvm.ClassFile.FieldType.int)) ∈ gd_tbl := gd_in 269 (by decide +kernel) rfl
theorem m_241 : (Jvm.Cond.methodLink "SafeDesk" (173 : Nat) ({ cls := "SafeDesk", name := "setRoom", desc := "(ILSafeDesk$Safe;)V" } : Jvm.MethodName)) ∈ gd_tbl := gd_in 270 (by decide +kernel) rfl
theorem m_243 : (Jvm.Cond.instanceMethod ({ cls := "SafeDesk", name := "setRoom", desc := "(ILSafeDesk$Safe;)V" } : Jvm.MethodName)) ∈ gd_tbl := gd_in 272 (by decide +kernel) rfl
theorem m_244 : (Jvm.Cond.code ({ cls := "SafeDesk", name := "setRoom", desc := "(ILSafeDesk$Safe;)V" } : Jvm.MethodName) prog_1_method_20_code (3 : Nat) (Option.none : Option Jvm.ClassFile.FieldType)) ∈ gd_tbl := gd_in 273 (by decide +kernel) rfl
theorem m_245 : (Jvm.Cond.methodLink "SafeDesk" (177 : Nat) ({ cls := "SafeDesk", name := "seek", desc := "(II)I" } : Jvm.MethodName)) ∈ gd_tbl := gd_in 274 (by decide +kernel) rfl
theorem m_247 : (Jvm.Cond.instanceMethod ({ cls := "SafeDesk", name := "seek", desc := "(II)I" } : Jvm.MethodName)) ∈ gd_tbl := gd_in 276 (by decide +kernel) rfl
theorem m_248 : (Jvm.Cond.code ({ cls := "SafeDesk", name := "seek", desc := "(II)I" } : Jvm.MethodName) prog_1_method_30_code (6 : Nat) (Option.some Jvm.ClassFile.FieldType.int)) ∈ gd_tbl := gd_in 277 (by decide +kernel) rfl
theorem m_249 : (Jvm.Cond.methodLink "SafeDesk" (160 : Nat) ({ cls := "SafeDesk", name := "doWithSafe", desc := "(ILSafeDesk$Safe;I)I" } : Jvm.MethodName)) ∈ gd_tbl := gd_in 278 (by decide +kernel) rfl
theorem m_251 : (Jvm.Cond.instanceMethod ({ cls := "SafeDesk", name := "doWithSafe", desc := "(ILSafeDesk$Safe;I)I" } : Jvm.MethodName)) ∈ gd_tbl := gd_in 280 (by decide +kernel) rfl
theorem m_252 : (Jvm.Cond.code ({ cls := "SafeDesk", name := "doWithSafe", desc := "(ILSafeDesk$Safe;I)I" } : Jvm.MethodName) prog_1_method_31_code (4 : Nat) (Option.some Jvm.ClassFile.FieldType.int)) ∈ gd_tbl := gd_in 281 (by decide +kernel) rfl
theorem m_253 : (Jvm.Cond.methodLink "SafeDesk" (180 : Nat) ({ cls := "SafeDesk$Safe", name := "put", desc := "(I)I" } : Jvm.MethodName)) ∈ gd_tbl := gd_in 282 (by decide +kernel) rfl
theorem m_254 : (Jvm.Cond.instanceMethod ({ cls := "SafeDesk$Safe", name := "put", desc := "(I)I" } : Jvm.MethodName)) ∈ gd_tbl := gd_in 283 (by decide +kernel) rfl
theorem m_255 : (Jvm.Cond.selects "SafeDesk$Safe" ({ cls := "SafeDesk$Safe", name := "put", desc := "(I)I" } : Jvm.MethodName) ({ cls := "SafeDesk$Safe", name := "put", desc := "(I)I" } : Jvm.MethodName)) ∈ gd_tbl := gd_in 284 (by decide +kernel) rfl
theorem m_256 : (Jvm.Cond.sameMethod "SafeDesk$Safe" "SafeDesk$Safe" "put" "(I)I") ∈ gd_tbl := gd_in 285 (by decide +kernel) rfl
theorem m_257 : (Jvm.Cond.selects "SafeDesk$Timed" ({ cls := "SafeDesk$Safe", name := "put", desc := "(I)I" } : Jvm.MethodName) ({ cls := "SafeDesk$Timed", name := "put", desc := "(I)I" } : Jvm.MethodName)) ∈ gd_tbl := gd_in 286 (by decide +kernel) rfl
theorem m_258 : (Jvm.Cond.instanceMethod ({ cls := "SafeDesk$Timed", name := "put", desc := "(I)I" } : Jvm.MethodName)) ∈ gd_tbl := gd_in 287 (by decide +kernel) rfl
theorem m_259 : (Jvm.Cond.code ({ cls := "SafeDesk$Timed", name := "put", desc := "(I)I" } : Jvm.MethodName) prog_4_method_2_code (3 : Nat) (Option.some Jvm.ClassFile.FieldType.int)) ∈ gd_tbl := gd_in 288 (by decide +kernel) rfl
theorem m_260 : (Jvm.Cond.methodLink "SafeDesk$Timed" (7 : Nat) ({ cls := "SafeDesk$Timed", name := "enter", desc := "()V" } : Jvm.MethodName)) ∈ gd_tbl := gd_in 289 (by decide +kernel) rfl
theorem m_261 : (Jvm.Cond.sameMethod "SafeDesk$Timed" "SafeDesk$Safe" "enter" "()V") ∈ gd_tbl := gd_in 290 (by decide +kernel) rfl
theorem m_263 : (Jvm.Cond.selects "SafeDesk$Timed" ({ cls := "SafeDesk$Timed", name := "enter", desc := "()V" } : Jvm.MethodName) ({ cls := "SafeDesk$Safe", name := "enter", desc := "()V" } : Jvm.MethodName)) ∈ gd_tbl := gd_in 292 (by decide +kernel) rfl
theorem m_264 : (Jvm.Cond.selects "SafeDesk$Vault" ({ cls := "SafeDesk$Timed", name := "enter", desc := "()V" } : Jvm.MethodName) ({ cls := "SafeDesk$Safe", name := "enter", desc := "()V" } : Jvm.MethodName)) ∈ gd_tbl := gd_in 293 (by decide +kernel) rfl
theorem m_265 : (Jvm.Cond.methodLink "SafeDesk$Timed" (17 : Nat) ({ cls := "SafeDesk$Safe", name := "put", desc := "(I)I" } : Jvm.MethodName)) ∈ gd_tbl := gd_in 294 (by decide +kernel) rfl
theorem m_266 : (Jvm.Cond.methodLink "SafeDesk$Timed" (21 : Nat) ({ cls := "SafeDesk$Timed", name := "leave", desc := "()V" } : Jvm.MethodName)) ∈ gd_tbl := gd_in 295 (by decide +kernel) rfl
theorem m_267 : (Jvm.Cond.sameMethod "SafeDesk$Timed" "SafeDesk$Safe" "leave" "()V") ∈ gd_tbl := gd_in 296 (by decide +kernel) rfl
theorem m_269 : (Jvm.Cond.selects "SafeDesk$Timed" ({ cls := "SafeDesk$Timed", name := "leave", desc := "()V" } : Jvm.MethodName) ({ cls := "SafeDesk$Safe", name := "leave", desc := "()V" } : Jvm.MethodName)) ∈ gd_tbl := gd_in 298 (by decide +kernel) rfl
theorem m_270 : (Jvm.Cond.selects "SafeDesk$Vault" ({ cls := "SafeDesk$Timed", name := "leave", desc := "()V" } : Jvm.MethodName) ({ cls := "SafeDesk$Safe", name := "leave", desc := "()V" } : Jvm.MethodName)) ∈ gd_tbl := gd_in 299 (by decide +kernel) rfl
theorem m_271 : (Jvm.Cond.selects "SafeDesk$Vault" ({ cls := "SafeDesk$Safe", name := "put", desc := "(I)I" } : Jvm.MethodName) ({ cls := "SafeDesk$Vault", name := "put", desc := "(I)I" } : Jvm.MethodName)) ∈ gd_tbl := gd_in 300 (by decide +kernel) rfl
theorem m_272 : (Jvm.Cond.instanceMethod ({ cls := "SafeDesk$Vault", name := "put", desc := "(I)I" } : Jvm.MethodName)) ∈ gd_tbl := gd_in 301 (by decide +kernel) rfl
theorem m_273 : (Jvm.Cond.code ({ cls := "SafeDesk$Vault", name := "put", desc := "(I)I" } : Jvm.MethodName) prog_5_method_2_code (3 : Nat) (Option.some Jvm.ClassFile.FieldType.int)) ∈ gd_tbl := gd_in 302 (by decide +kernel) rfl
theorem m_274 : (Jvm.Cond.methodLink "SafeDesk$Vault" (9 : Nat) ({ cls := "SafeDesk$Vault", name := "enter", desc := "()V" } : Jvm.MethodName)) ∈ gd_tbl := gd_in 303 (by decide +kernel) rfl
theorem m_275 : (Jvm.Cond.sameMethod "SafeDesk$Vault" "SafeDesk$Safe" "enter" "()V") ∈ gd_tbl := gd_in 304 (by decide +kernel) rfl
theorem m_276 : (Jvm.Cond.selects "SafeDesk$Vault" ({ cls := "SafeDesk$Vault", name := "enter", desc := "()V" } : Jvm.MethodName) ({ cls := "SafeDesk$Safe", name := "enter", desc := "()V" } : Jvm.MethodName)) ∈ gd_tbl := gd_in 305 (by decide +kernel) rfl
theorem m_277 : (Jvm.Cond.methodLink "SafeDesk$Vault" (15 : Nat) ({ cls := "SafeDesk$Timed", name := "put", desc := "(I)I" } : Jvm.MethodName)) ∈ gd_tbl := gd_in 306 (by decide +kernel) rfl
theorem m_278 : (Jvm.Cond.methodLink "SafeDesk$Vault" (19 : Nat) ({ cls := "SafeDesk$Vault", name := "leave", desc := "()V" } : Jvm.MethodName)) ∈ gd_tbl := gd_in 307 (by decide +kernel) rfl
theorem m_279 : (Jvm.Cond.sameMethod "SafeDesk$Vault" "SafeDesk$Safe" "leave" "()V") ∈ gd_tbl := gd_in 308 (by decide +kernel) rfl
theorem m_280 : (Jvm.Cond.selects "SafeDesk$Vault" ({ cls := "SafeDesk$Vault", name := "leave", desc := "()V" } : Jvm.MethodName) ({ cls := "SafeDesk$Safe", name := "leave", desc := "()V" } : Jvm.MethodName)) ∈ gd_tbl := gd_in 309 (by decide +kernel) rfl
theorem m_281 : (Jvm.Cond.code ({ cls := "SafeDesk$Safe", name := "put", desc := "(I)I" } : Jvm.MethodName) prog_3_method_4_code (5 : Nat) (Option.some Jvm.ClassFile.FieldType.int)) ∈ gd_tbl := gd_in 310 (by decide +kernel) rfl
theorem m_282 : (Jvm.Cond.methodLink "SafeDesk$Safe" (27 : Nat) ({ cls := "SafeDesk$Safe", name := "enter", desc := "()V" } : Jvm.MethodName)) ∈ gd_tbl := gd_in 311 (by decide +kernel) rfl
theorem m_283 : (Jvm.Cond.constantLong "SafeDesk$Safe" (30 : Nat) (1000000 : Int64)) ∈ gd_tbl := gd_in 312 (by decide +kernel) rfl
theorem m_284 : (Jvm.Cond.methodLink "SafeDesk$Safe" (32 : Nat) ({ cls := "SafeDesk$Safe", name := "leave", desc := "()V" } : Jvm.MethodName)) ∈ gd_tbl := gd_in 313 (by decide +kernel) rfl
theorem m_285 : (Jvm.Cond.methodLink "SafeDesk" (183 : Nat) ({ cls := "SafeDesk$Safe", name := "give", desc := "(ILSafeDesk$Safe;)I" } : Jvm.MethodName)) ∈ gd_tbl := gd_in 314 (by decide +kernel) rfl
theorem m_286 : (Jvm.Cond.instanceMethod ({ cls := "SafeDesk$Safe", name := "give", desc := "(ILSafeDesk$Safe;)I" } : Jvm.MethodName)) ∈ gd_tbl := gd_in 315 (by decide +kernel) rfl
theorem m_287 : (Jvm.Cond.selects "SafeDesk$Safe" ({ cls := "SafeDesk$Safe", name := "give", desc := "(ILSafeDesk$Safe;)I" } : Jvm.MethodName) ({ cls := "SafeDesk$Safe", name := "give", desc := "(ILSafeDesk$Safe;)I" } : Jvm.MethodName)) ∈ gd_tbl := gd_in 316 (by decide +kernel) rfl
theorem m_288 : (Jvm.Cond.sameMethod "SafeDesk$Safe" "SafeDesk$Safe" "give" "(ILSafeDesk$Safe;)I") ∈ gd_tbl := gd_in 317 (by decide +kernel) rfl
theorem m_289 : (Jvm.Cond.selects "SafeDesk$Timed" ({ cls := "SafeDesk$Safe", name := "give", desc := "(ILSafeDesk$Safe;)I" } : Jvm.MethodName) ({ cls := "SafeDesk$Safe", name := "give", desc := "(ILSafeDesk$Safe;)I" } : Jvm.MethodName)) ∈ gd_tbl := gd_in 318 (by decide +kernel) rfl
theorem m_290 : (Jvm.Cond.selects "SafeDesk$Vault" ({ cls := "SafeDesk$Safe", name := "give", desc := "(ILSafeDesk$Safe;)I" } : Jvm.MethodName) ({ cls := "SafeDesk$Safe", name := "give", desc := "(ILSafeDesk$Safe;)I" } : Jvm.MethodName)) ∈ gd_tbl := gd_in 319 (by decide +kernel) rfl
theorem m_291 : (Jvm.Cond.code ({ cls := "SafeDesk$Safe", name := "give", desc := "(ILSafeDesk$Safe;)I" } : Jvm.MethodName) prog_3_method_6_code (4 : Nat) (Option.some Jvm.ClassFile.FieldType.int)) ∈ gd_tbl := gd_in 320 (by decide +kernel) rfl
theorem m_292 : (Jvm.Cond.methodLink "SafeDesk$Safe" (35 : Nat) ({ cls := "SafeDesk$Safe", name := "put", desc := "(I)I" } : Jvm.MethodName)) ∈ gd_tbl := gd_in 321 (by decide +kernel) rfl
theorem m_293 : (Jvm.Cond.methodLink "SafeDesk" (187 : Nat) ({ cls := "SafeDesk$Safe", name := "worth", desc := "()I" } : Jvm.MethodName)) ∈ gd_tbl := gd_in 322 (by decide +kernel) rfl
theorem m_294 : (Jvm.Cond.instanceMethod ({ cls := "SafeDesk$Safe", name := "worth", desc := "()I" } : Jvm.MethodName)) ∈ gd_tbl := gd_in 323 (by decide +kernel) rfl
theorem m_295 : (Jvm.Cond.selects "SafeDesk$Safe" ({ cls := "SafeDesk$Safe", name := "worth", desc := "()I" } : Jvm.MethodName) ({ cls := "SafeDesk$Safe", name := "worth", desc := "()I" } : Jvm.MethodName)) ∈ gd_tbl := gd_in 324 (by decide +kernel) rfl
theorem m_296 : (Jvm.Cond.sameMethod "SafeDesk$Safe" "SafeDesk$Safe" "worth" "()I") ∈ gd_tbl := gd_in 325 (by decide +kernel) rfl
theorem m_297 : (Jvm.Cond.selects "SafeDesk$Timed" ({ cls := "SafeDesk$Safe", name := "worth", desc := "()I" } : Jvm.MethodName) ({ cls := "SafeDesk$Timed", name := "worth", desc := "()I" } : Jvm.MethodName)) ∈ gd_tbl := gd_in 326 (by decide +kernel) rfl
theorem m_298 : (Jvm.Cond.instanceMethod ({ cls := "SafeDesk$Timed", name := "worth", desc := "()I" } : Jvm.MethodName)) ∈ gd_tbl := gd_in 327 (by decide +kernel) rfl
theorem m_299 : (Jvm.Cond.code ({ cls := "SafeDesk$Timed", name := "worth", desc := "()I" } : Jvm.MethodName) prog_4_method_3_code (2 : Nat) (Option.some Jvm.ClassFile.FieldType.int)) ∈ gd_tbl := gd_in 328 (by decide +kernel) rfl
theorem m_300 : (Jvm.Cond.methodLink "SafeDesk$Timed" (24 : Nat) ({ cls := "SafeDesk$Safe", name := "worth", desc := "()I" } : Jvm.MethodName)) ∈ gd_tbl := gd_in 329 (by decide +kernel) rfl
theorem m_301 : (Jvm.Cond.selects "SafeDesk$Vault" ({ cls := "SafeDesk$Safe", name := "worth", desc := "()I" } : Jvm.MethodName) ({ cls := "SafeDesk$Vault", name := "worth", desc := "()I" } : Jvm.MethodName)) ∈ gd_tbl := gd_in 330 (by decide +kernel) rfl
theorem m_302 : (Jvm.Cond.instanceMethod ({ cls := "SafeDesk$Vault", name := "worth", desc := "()I" } : Jvm.MethodName)) ∈ gd_tbl := gd_in 331 (by decide +kernel) rfl
theorem m_303 : (Jvm.Cond.code ({ cls := "SafeDesk$Vault", name := "worth", desc := "()I" } : Jvm.MethodName) prog_5_method_3_code (2 : Nat) (Option.some Jvm.ClassFile.FieldType.int)) ∈ gd_tbl := gd_in 332 (by decide +kernel) rfl
theorem m_304 : (Jvm.Cond.methodLink "SafeDesk$Vault" (22 : Nat) ({ cls := "SafeDesk$Timed", name := "worth", desc := "()I" } : Jvm.MethodName)) ∈ gd_tbl := gd_in 333 (by decide +kernel) rfl
theorem m_305 : (Jvm.Cond.code ({ cls := "SafeDesk$Safe", name := "worth", desc := "()I" } : Jvm.MethodName) prog_3_method_5_code (2 : Nat) (Option.some Jvm.ClassFile.FieldType.int)) ∈ gd_tbl := gd_in 334 (by decide +kernel) rfl
theorem m_306 : (Jvm.Cond.methodLink "SafeDeskLaw" (41 : Nat) ({ cls := "SafeDesk", name := "value", desc := "()I" } : Jvm.MethodName)) ∈ gd_tbl := gd_in 335 (by decide +kernel) rfl
theorem m_307 : (Jvm.Cond.instanceMethod ({ cls := "SafeDesk", name := "value", desc := "()I" } : Jvm.MethodName)) ∈ gd_tbl := gd_in 336 (by decide +kernel) rfl
theorem m_308 : (Jvm.Cond.selects "SafeDesk" ({ cls := "SafeDesk", name := "value", desc := "()I" } : Jvm.MethodName) ({ cls := "SafeDesk", name := "value", desc := "()I" } : Jvm.MethodName)) ∈ gd_tbl := gd_in 337 (by decide +kernel) rfl
theorem m_309 : (Jvm.Cond.code ({ cls := "SafeDesk", name := "value", desc := "()I" } : Jvm.MethodName) prog_1_method_8_code (1 : Nat) (Option.some Jvm.ClassFile.FieldType.int)) ∈ gd_tbl := gd_in 338 (by decide +kernel) rfl
theorem m_310 : (Jvm.Cond.methodLink "SafeDeskLaw" (46 : Nat) ({ cls := "SafeDesk", name := "trace", desc := "(I)I" } : Jvm.MethodName)) ∈ gd_tbl := gd_in 339 (by decide +kernel) rfl
theorem m_311 : (Jvm.Cond.instanceMethod ({ cls := "SafeDesk", name := "trace", desc := "(I)I" } : Jvm.MethodName)) ∈ gd_tbl := gd_in 340 (by decide +kernel) rfl
theorem m_312 : (Jvm.Cond.selects "SafeDesk" ({ cls := "SafeDesk", name := "trace", desc := "(I)I" } : Jvm.MethodName) ({ cls := "SafeDesk", name := "trace", desc := "(I)I" } : Jvm.MethodName)) ∈ gd_tbl := gd_in 341 (by decide +kernel) rfl
theorem m_313 : (Jvm.Cond.code ({ cls := "SafeDesk", name := "trace", desc := "(I)I" } : Jvm.MethodName) prog_1_method_9_code (2 : Nat) (Option.some Jvm.ClassFile.FieldType.int)) ∈ gd_tbl := gd_in 342 (by decide +kernel) rfl
theorem m_314 : (Jvm.Cond.methodLink "SafeDeskLaw" (50 : Nat) ({ cls := "SafeDesk", name := "told", desc := "(II)I" } : Jvm.MethodName)) ∈ gd_tbl := gd_in 343 (by decide +kernel) rfl
theorem m_315 : (Jvm.Cond.instanceMethod ({ cls := "SafeDesk", name := "told", desc := "(II)I" } : Jvm.MethodName)) ∈ gd_tbl := gd_in 344 (by decide +kernel) rfl
theorem m_316 : (Jvm.Cond.selects "SafeDesk" ({ cls := "SafeDesk", name := "told", desc := "(II)I" } : Jvm.MethodName) ({ cls := "SafeDesk", name := "told", desc := "(II)I" } : Jvm.MethodName)) ∈ gd_tbl := gd_in 345 (by decide +kernel) rfl
theorem m_317 : (Jvm.Cond.code ({ cls := "SafeDesk", name := "told", desc := "(II)I" } : Jvm.MethodName) prog_1_method_10_code (4 : Nat) (Option.some Jvm.ClassFile.FieldType.int)) ∈ gd_tbl := gd_in 346 (by decide +kernel) rfl
theorem m_318 : (Jvm.Cond.methodLink "SafeDeskLaw" (54 : Nat) ({ cls := "SafeDesk", name := "count", desc := "(I)I" } : Jvm.MethodName)) ∈ gd_tbl := gd_in 347 (by decide +kernel) rfl
theorem m_319 : (Jvm.Cond.instanceMethod ({ cls := "SafeDesk", name := "count", desc := "(I)I" } : Jvm.MethodName)) ∈ gd_tbl := gd_in 348 (by decide +kernel) rfl
theorem m_320 : (Jvm.Cond.selects "SafeDesk" ({ cls := "SafeDesk", name := "count", desc := "(I)I" } : Jvm.MethodName) ({ cls := "SafeDesk", name := "count", desc := "(I)I" } : Jvm.MethodName)) ∈ gd_tbl := gd_in 349 (by decide +kernel) rfl
theorem m_321 : (Jvm.Cond.code ({ cls := "SafeDesk", name := "count", desc := "(I)I" } : Jvm.MethodName) prog_1_method_11_code (2 : Nat) (Option.some Jvm.ClassFile.FieldType.int)) ∈ gd_tbl := gd_in 350 (by decide +kernel) rfl
theorem m_322 : (Jvm.Cond.methodLink "SafeDesk" (91 : Nat) ({ cls := "SafeDesk", name := "roomsWithSafe", desc := "()I" } : Jvm.MethodName)) ∈ gd_tbl := gd_in 351 (by decide +kernel) rfl
theorem m_324 : (Jvm.Cond.instanceMethod ({ cls := "SafeDesk", name := "roomsWithSafe", desc := "()I" } : Jvm.MethodName)) ∈ gd_tbl := gd_in 353 (by decide +kernel) rfl
theorem m_325 : (Jvm.Cond.code ({ cls := "SafeDesk", name := "roomsWithSafe", desc := "()I" } : Jvm.MethodName) prog_1_method_21_code (3 : Nat) (Option.some Jvm.ClassFile.FieldType.int)) ∈ gd_tbl := gd_in 354 (by decide +kernel) rfl
theorem m_326 : (Jvm.Cond.classLink "SafeDeskLaw" (10 : Nat) "SafeDeskModel") ∈ gd_tbl := gd_in 355 (by decide +kernel) rfl
theorem m_327 : (Jvm.Cond.instantiable "SafeDeskModel" (26 : Nat)) ∈ gd_tbl := gd_in 356 (by decide +kernel) rfl
theorem m_328 : (Jvm.Cond.methodLink "SafeDeskLaw" (12 : Nat) ({ cls := "SafeDeskModel", name := "<init>", desc := "()V" } : Jvm.MethodName)) ∈ gd_tbl := gd_in 357 (by decide +kernel) rfl
theorem m_329 : (Jvm.Cond.instanceMethod ({ cls := "SafeDeskModel", name := "<init>", desc := "()V" } : Jvm.MethodName)) ∈ gd_tbl := gd_in 358 (by decide +kernel) rfl
theorem m_330 : (Jvm.Cond.code ({ cls := "SafeDeskModel", name := "<init>", desc := "()V" } : Jvm.MethodName) prog_7_method_1_code (1 : Nat) (Option.none : Option Jvm.ClassFile.FieldType)) ∈ gd_tbl := gd_in 359 (by decide +kernel) rfl
theorem m_331 : (Jvm.Cond.methodLink "SafeDeskModel" (1 : Nat) ({ cls := "java/lang/Object", name := "<init>", desc := "()V" } : Jvm.MethodName)) ∈ gd_tbl := gd_in 360 (by decide +kernel) rfl
theorem m_332 : (Jvm.Cond.fieldLink "SafeDeskModel" (66 : Nat) "SafeDeskModel" "safes" "I") ∈ gd_tbl := gd_in 361 (by decide +kernel) rfl
theorem m_333 : (Jvm.Cond.fieldLink "SafeDeskModel" (7 : Nat) "SafeDeskModel" "kinds" "[I") ∈ gd_tbl := gd_in 362 (by decide +kernel) rfl
theorem m_334 : (Jvm.Cond.fieldLink "SafeDeskModel" (13 : Nat) "SafeDeskModel" "coins" "[I") ∈ gd_tbl := gd_in 363 (by decide +kernel) rfl
theorem m_335 : (Jvm.Cond.fieldLink "SafeDeskModel" (16 : Nat) "SafeDeskModel" "turns" "[I") ∈ gd_tbl := gd_in 364 (by decide +kernel) rfl
theorem m_336 : (Jvm.Cond.fieldLink "SafeDeskModel" (19 : Nat) "SafeDeskModel" "entries" "[I") ∈ gd_tbl := gd_in 365 (by decide +kernel) rfl
theorem m_337 : (Jvm.Cond.fieldLink "SafeDeskModel" (22 : Nat) "SafeDeskModel" "depths" "[I") ∈ gd_tbl := gd_in 366 (by decide +kernel) rfl
theorem m_338 : (Jvm.Cond.fieldLink "SafeDeskModel" (25 : Nat) "SafeDeskModel" "mosts" "[I") ∈ gd_tbl := gd_in 367 (by decide +kernel) rfl
theorem m_339 : (Jvm.Cond.fieldLink "SafeDeskModel" (28 : Nat) "SafeDeskModel" "rooms" "[I") ∈ gd_tbl := gd_in 368 (by decide +kernel) rfl
theorem m_340 : (Jvm.Cond.fieldLink "SafeDeskModel" (31 : Nat) "SafeDeskModel" "many" "[I") ∈ gd_tbl := gd_in 369 (by decide +kernel) rfl
theorem m_341 : (Jvm.Cond.fieldLink "SafeDeskModel" (34 : Nat) "SafeDeskModel" "stepKind" "[I") ∈ gd_tbl := gd_in 370 (by decide +kernel) rfl
theorem m_342 : (Jvm.Cond.fieldLink "SafeDeskModel" (37 : Nat) "SafeDeskModel" "stepA" "[I") ∈ gd_tbl := gd_in 371 (by decide +kernel) rfl
theorem m_343 : (Jvm.Cond.fieldLink "SafeDeskModel" (40 : Nat) "SafeDeskModel" "stepB" "[I") ∈ gd_tbl := gd_in 372 (by decide +kernel) rfl
theorem m_344 : (Jvm.Cond.fieldLink "SafeDeskModel" (108 : Nat) "SafeDeskModel" "value" "I") ∈ gd_tbl := gd_in 373 (by decide +kernel) rfl
theorem m_345 : (Jvm.Cond.fieldLink "SafeDeskModel" (142 : Nat) "SafeDeskModel" "steps" "I") ∈ gd_tbl := gd_in 374 (by decide +kernel) rfl
theorem m_346 : (Jvm.Cond.fieldLink "SafeDeskModel" (111 : Nat) "SafeDeskModel" "failure" "I") ∈ gd_tbl := gd_in 375 (by decide +kernel) rfl
theorem m_347 : (Jvm.Cond.fieldLink "SafeDeskModel" (148 : Nat) "SafeDeskModel" "ended" "I") ∈ gd_tbl := gd_in 376 (by decide +kernel) rfl
theorem m_348 : (Jvm.Cond.fieldLink "SafeDeskModel" (92 : Nat) "SafeDeskModel" "atWork" "I") ∈ gd_tbl := gd_in 377 (by decide +kernel) rfl
theorem m_349 : (Jvm.Cond.fieldLink "SafeDeskModel" (95 : Nat) "SafeDeskModel" "mostPlans" "I") ∈ gd_tbl := gd_in 378 (by decide +kernel) rfl
theorem m_350 : (Jvm.Cond.fieldLink "SafeDeskModel" (86 : Nat) "SafeDeskModel" "traces" "I") ∈ gd_tbl := gd_in 379 (by decide +kernel) rfl
theorem m_351 : (Jvm.Cond.fieldLink "SafeDeskModel" (43 : Nat) "SafeDeskModel" "traced" "[I") ∈ gd_tbl := gd_in 380 (by decide +kernel) rfl
theorem m_352 : (Jvm.Cond.fieldLink "SafeDeskModel" (89 : Nat) "SafeDeskModel" "blocks" "I") ∈ gd_tbl := gd_in 381 (by decide +kernel) rfl
theorem m_353 : (Jvm.Cond.fieldLink "SafeDeskModel" (46 : Nat) "SafeDeskModel" "sort" "[I") ∈ gd_tbl := gd_in 382 (by decide +kernel) rfl
theorem m_354 : (Jvm.Cond.fieldLink "SafeDeskModel" (49 : Nat) "SafeDeskModel" "planOf" "[I") ∈ gd_tbl := gd_in 383 (by decide +kernel) rfl
theorem m_355 : (Jvm.Cond.fieldLink "SafeDeskModel" (52 : Nat) "SafeDeskModel" "next" "[I") ∈ gd_tbl := gd_in 384 (by decide +kernel) rfl
theorem m_356 : (Jvm.Cond.fieldLink "SafeDeskModel" (55 : Nat) "SafeDeskModel" "end" "[I") ∈ gd_tbl := gd_in 385 (by decide +kernel) rfl
theorem m_357 : (Jvm.Cond.fieldLink "SafeDeskModel" (58 : Nat) "SafeDeskModel" "about" "[I") ∈ gd_tbl := gd_in 386 (by decide +kernel) rfl
theorem m_358 : (Jvm.Cond.lays "SafeDeskModel" "SafeDeskModel" "safes" "I") ∈ gd_tbl := gd_in 387 (by decide +kernel) rfl
theorem m_359 : (Jvm.Cond.soleField "SafeDeskModel" "safes") ∈ gd_tbl := gd_in 388 (by decide +kernel) rfl
theorem m_360 : (Jvm.Cond.laysFinal "SafeDeskModel" "SafeDeskModel" "kinds" "[I") ∈ gd_tbl := gd_in 389 (by decide +kernel) rfl
theorem m_361 : (Jvm.Cond.soleField "SafeDeskModel" "kinds") ∈ gd_tbl := gd_in 390 (by decide +kernel) rfl
theorem m_362 : (Jvm.Cond.laysFinal "SafeDeskModel" "SafeDeskModel" "coins" "[I") ∈ gd_tbl := gd_in 391 (by decide +kernel) rfl
theorem m_363 : (Jvm.Cond.soleField "SafeDeskModel" "coins") ∈ gd_tbl := gd_in 392 (by decide +kernel) rfl
theorem m_364 : (Jvm.Cond.laysFinal "SafeDeskModel" "SafeDeskModel" "turns" "[I") ∈ gd_tbl := gd_in 393 (by decide +kernel) rfl
theorem m_365 : (Jvm.Cond.soleField "SafeDeskModel" "turns") ∈ gd_tbl := gd_in 394 (by decide +kernel) rfl
theorem m_366 : (Jvm.Cond.laysFinal "SafeDeskModel" "SafeDeskModel" "entries" "[I") ∈ gd_tbl := gd_in 395 (by decide +kernel) rfl
theorem m_367 : (Jvm.Cond.soleField "SafeDeskModel" "entries") ∈ gd_tbl := gd_in 396 (by decide +kernel) rfl
theorem m_368 : (Jvm.Cond.laysFinal "SafeDeskModel" "SafeDeskModel" "depths" "[I") ∈ gd_tbl := gd_in 397 (by decide +kernel) rfl
theorem m_369 : (Jvm.Cond.soleField "SafeDeskModel" "depths") ∈ gd_tbl := gd_in 398 (by decide +kernel) rfl
theorem m_370 : (Jvm.Cond.laysFinal "SafeDeskModel" "SafeDeskModel" "mosts" "[I") ∈ gd_tbl := gd_in 399 (by decide +kernel) rfl
theorem m_371 : (Jvm.Cond.soleField "SafeDeskModel" "mosts") ∈ gd_tbl := gd_in 400 (by decide +kernel) rfl
theorem m_372 : (Jvm.Cond.laysFinal "SafeDeskModel" "SafeDeskModel" "rooms" "[I") ∈ gd_tbl := gd_in 401 (by decide +kernel) rfl
theorem m_373 : (Jvm.Cond.soleField "SafeDeskModel" "rooms") ∈ gd_tbl := gd_in 402 (by decide +kernel) rfl
theorem m_374 : (Jvm.Cond.laysFinal "SafeDeskModel" "SafeDeskModel" "many" "[I") ∈ gd_tbl := gd_in 403 (by decide +kernel) rfl
theorem m_375 : (Jvm.Cond.soleField "SafeDeskModel" "many") ∈ gd_tbl := gd_in 404 (by decide +kernel) rfl
theorem m_376 : (Jvm.Cond.laysFinal "SafeDeskModel" "SafeDeskModel" "stepKind" "[I") ∈ gd_tbl := gd_in 405 (by decide +kernel) rfl
theorem m_377 : (Jvm.Cond.soleField "SafeDeskModel" "stepKind") ∈ gd_tbl := gd_in 406 (by decide +kernel) rfl
theorem m_378 : (Jvm.Cond.laysFinal "SafeDeskModel" "SafeDeskModel" "stepA" "[I") ∈ gd_tbl := gd_in 407 (by decide +kernel) rfl
theorem m_379 : (Jvm.Cond.soleField "SafeDeskModel" "stepA") ∈ gd_tbl := gd_in 408 (by decide +kernel) rfl
theorem m_380 : (Jvm.Cond.laysFinal "SafeDeskModel" "SafeDeskModel" "stepB" "[I") ∈ gd_tbl := gd_in 409 (by decide +kernel) rfl
theorem m_381 : (Jvm.Cond.soleField "SafeDeskModel" "stepB") ∈ gd_tbl := gd_in 410 (by decide +kernel) rfl
theorem m_382 : (Jvm.Cond.lays "SafeDeskModel" "SafeDeskModel" "value" "I") ∈ gd_tbl := gd_in 411 (by decide +kernel) rfl
theorem m_383 : (Jvm.Cond.soleField "SafeDeskModel" "value") ∈ gd_tbl := gd_in 412 (by decide +kernel) rfl
theorem m_384 : (Jvm.Cond.lays "SafeDeskModel" "SafeDeskModel" "steps" "I") ∈ gd_tbl := gd_in 413 (by decide +kernel) rfl
theorem m_385 : (Jvm.Cond.soleField "SafeDeskModel" "steps") ∈ gd_tbl := gd_in 414 (by decide +kernel) rfl
theorem m_386 : (Jvm.Cond.lays "SafeDeskModel" "SafeDeskModel" "failure" "I") ∈ gd_tbl := gd_in 415 (by decide +kernel) rfl
theorem m_387 : (Jvm.Cond.soleField "SafeDeskModel" "failure") ∈ gd_tbl := gd_in 416 (by decide +kernel) rfl
theorem m_388 : (Jvm.Cond.lays "SafeDeskModel" "SafeDeskModel" "ended" "I") ∈ gd_tbl := gd_in 417 (by decide +kernel) rfl
theorem m_389 : (Jvm.Cond.soleField "SafeDeskModel" "ended") ∈ gd_tbl := gd_in 418 (by decide +kernel) rfl
theorem m_390 : (Jvm.Cond.lays "SafeDeskModel" "SafeDeskModel" "atWork" "I") ∈ gd_tbl := gd_in 419 (by decide +kernel) rfl
theorem m_391 : (Jvm.Cond.soleField "SafeDeskModel" "atWork") ∈ gd_tbl := gd_in 420 (by decide +kernel) rfl
theorem m_392 : (Jvm.Cond.lays "SafeDeskModel" "SafeDeskModel" "mostPlans" "I") ∈ gd_tbl := gd_in 421 (by decide +kernel) rfl
theorem m_393 : (Jvm.Cond.soleField "SafeDeskModel" "mostPlans") ∈ gd_tbl := gd_in 422 (by decide +kernel) rfl
theorem m_394 : (Jvm.Cond.lays "SafeDeskModel" "SafeDeskModel" "traces" "I") ∈ gd_tbl := gd_in 423 (by decide +kernel) rfl
theorem m_395 : (Jvm.Cond.soleField "SafeDeskModel" "traces") ∈ gd_tbl := gd_in 424 (by decide +kernel) rfl
theorem m_396 : (Jvm.Cond.laysFinal "SafeDeskModel" "SafeDeskModel" "traced" "[I") ∈ gd_tbl := gd_in 425 (by decide +kernel) rfl
theorem m_397 : (Jvm.Cond.soleField "SafeDeskModel" "traced") ∈ gd_tbl := gd_in 426 (by decide +kernel) rfl
theorem m_398 : (Jvm.Cond.lays "SafeDeskModel" "SafeDeskModel" "blocks" "I") ∈ gd_tbl := gd_in 427 (by decide +kernel) rfl
theorem m_399 : (Jvm.Cond.soleField "SafeDeskModel" "blocks") ∈ gd_tbl := gd_in 428 (by decide +kernel) rfl
theorem m_400 : (Jvm.Cond.laysFinal "SafeDeskModel" "SafeDeskModel" "sort" "[I") ∈ gd_tbl := gd_in 429 (by decide +kernel) rfl
theorem m_401 : (Jvm.Cond.soleField "SafeDeskModel" "sort") ∈ gd_tbl := gd_in 430 (by decide +kernel) rfl
theorem m_402 : (Jvm.Cond.laysFinal "SafeDeskModel" "SafeDeskModel" "planOf" "[I") ∈ gd_tbl := gd_in 431 (by decide +kernel) rfl
theorem m_403 : (Jvm.Cond.soleField "SafeDeskModel" "planOf") ∈ gd_tbl := gd_in 432 (by decide +kernel) rfl
theorem m_404 : (Jvm.Cond.laysFinal "SafeDeskModel" "SafeDeskModel" "next" "[I") ∈ gd_tbl := gd_in 433 (by decide +kernel) rfl
theorem m_405 : (Jvm.Cond.soleField "SafeDeskModel" "next") ∈ gd_tbl := gd_in 434 (by decide +kernel) rfl
theorem m_406 : (Jvm.Cond.laysFinal "SafeDeskModel" "SafeDeskModel" "end" "[I") ∈ gd_tbl := gd_in 435 (by decide +kernel) rfl
theorem m_407 : (Jvm.Cond.soleField "SafeDeskModel" "end") ∈ gd_tbl := gd_in 436 (by decide +kernel) rfl
theorem m_408 : (Jvm.Cond.laysFinal "SafeDeskModel" "SafeDeskModel" "about" "[I") ∈ gd_tbl := gd_in 437 (by decide +kernel) rfl
theorem m_409 : (Jvm.Cond.soleField "SafeDeskModel" "about") ∈ gd_tbl := gd_in 438 (by decide +kernel) rfl
theorem m_410 : (Jvm.Cond.superclass "SafeDeskModel" "java/lang/Object") ∈ gd_tbl := gd_in 439 (by decide +kernel) rfl
theorem m_411 : (Jvm.Cond.methodLink "SafeDeskLaw" (17 : Nat) ({ cls := "SafeDeskModel", name := "safe", desc := "(III)I" } : Jvm.MethodName)) ∈ gd_tbl := gd_in 440 (by decide +kernel) rfl
theorem m_412 : (Jvm.Cond.instanceMethod ({ cls := "SafeDeskModel", name := "safe", desc := "(III)I" } : Jvm.MethodName)) ∈ gd_tbl := gd_in 441 (by decide +kernel) rfl
theorem m_413 : (Jvm.Cond.selects "SafeDeskModel" ({ cls := "SafeDeskModel", name := "safe", desc := "(III)I" } : Jvm.MethodName) ({ cls := "SafeDeskModel", name := "safe", desc := "(III)I" } : Jvm.MethodName)) ∈ gd_tbl := gd_in 442 (by decide +kernel) rfl
theorem m_414 : (Jvm.Cond.code ({ cls := "SafeDeskModel", name := "safe", desc := "(III)I" } : Jvm.MethodName) prog_7_method_3_code (4 : Nat) (Option.some Jvm.ClassFile.FieldType.int)) ∈ gd_tbl := gd_in 443 (by decide +kernel) rfl
theorem m_415 : (Jvm.Cond.methodLink "SafeDeskModel" (61 : Nat) ({ cls := "SafeDeskModel", name := "in", desc := "(III)Z" } : Jvm.MethodName)) ∈ gd_tbl := gd_in 444 (by decide +kernel) rfl
theorem m_416 : (Jvm.Cond.static ({ cls := "SafeDeskModel", name := "in", desc := "(III)Z" } : Jvm.MethodName)) ∈ gd_tbl := gd_in 445 (by decide +kernel) rfl
theorem m_417 : (Jvm.Cond.code ({ cls := "SafeDeskModel", name := "in", desc := "(III)Z" } : Jvm.MethodName) prog_7_method_2_code (3 : Nat) (Option.some Jvm.ClassFile.FieldType.boolean)) ∈ gd_tbl := gd_in 446 (by decide +kernel) rfl
theorem m_418 : (Jvm.Cond.constant "SafeDeskModel" (65 : Nat) (1000000 : Int32)) ∈ gd_tbl := gd_in 447 (by decide +kernel) rfl
theorem m_419 : (Jvm.Cond.methodLink "SafeDeskLaw" (22 : Nat) ({ cls := "SafeDeskModel", name := "share", desc := "(II)I" } : Jvm.MethodName)) ∈ gd_tbl := gd_in 448 (by decide +kernel) rfl
theorem m_420 : (Jvm.Cond.instanceMethod ({ cls := "SafeDeskModel", name := "share", desc := "(II)I" } : Jvm.MethodName)) ∈ gd_tbl := gd_in 449 (by decide +kernel) rfl
theorem m_421 : (Jvm.Cond.selects "SafeDeskModel" ({ cls := "SafeDeskModel", name := "share", desc := "(II)I" } : Jvm.MethodName) ({ cls := "SafeDeskModel", name := "share", desc := "(II)I" } : Jvm.MethodName)) ∈ gd_tbl := gd_in 450 (by decide +kernel) rfl
theorem m_422 : (Jvm.Cond.code ({ cls := "SafeDeskModel", name := "share", desc := "(II)I" } : Jvm.MethodName) prog_7_method_4_code (3 : Nat) (Option.some Jvm.ClassFile.FieldType.int)) ∈ gd_tbl := gd_in 451 (by decide +kernel) rfl
theorem m_423 : (Jvm.Cond.methodLink "SafeDeskLaw" (26 : Nat) ({ cls := "SafeDeskModel", name := "same", desc := "(II)I" } : Jvm.MethodName)) ∈ gd_tbl := gd_in 452 (by decide +kernel) rfl
theorem m_424 : (Jvm.Cond.instanceMethod ({ cls := "SafeDeskModel", name := "same", desc := "(II)I" } : Jvm.MethodName)) ∈ gd_tbl := gd_in 453 (by decide +kernel) rfl
theorem m_425 : (Jvm.Cond.selects "SafeDeskModel" ({ cls := "SafeDeskModel", name := "same", desc := "(II)I" } : Jvm.MethodName) ({ cls := "SafeDeskModel", name := "same", desc := "(II)I" } : Jvm.MethodName)) ∈ gd_tbl := gd_in 454 (by decide +kernel) rfl
theorem m_426 : (Jvm.Cond.code ({ cls := "SafeDeskModel", name := "same", desc := "(II)I" } : Jvm.MethodName) prog_7_method_5_code (3 : Nat) (Option.some Jvm.ClassFile.FieldType.int)) ∈ gd_tbl := gd_in 455 (by decide +kernel) rfl
theorem m_427 : (Jvm.Cond.methodLink "SafeDeskLaw" (31 : Nat) ({ cls := "SafeDeskModel", name := "step", desc := "(IIII)I" } : Jvm.MethodName)) ∈ gd_tbl := gd_in 456 (by decide +kernel) rfl
theorem m_428 : (Jvm.Cond.instanceMethod ({ cls := "SafeDeskModel", name := "step", desc := "(IIII)I" } : Jvm.MethodName)) ∈ gd_tbl := gd_in 457 (by decide +kernel) rfl
theorem m_429 : (Jvm.Cond.selects "SafeDeskModel" ({ cls := "SafeDeskModel", name := "step", desc := "(IIII)I" } : Jvm.MethodName) ({ cls := "SafeDeskModel", name := "step", desc := "(IIII)I" } : Jvm.MethodName)) ∈ gd_tbl := gd_in 458 (by decide +kernel) rfl
theorem m_430 : (Jvm.Cond.code ({ cls := "SafeDeskModel", name := "step", desc := "(IIII)I" } : Jvm.MethodName) prog_7_method_12_code (6 : Nat) (Option.some Jvm.ClassFile.FieldType.int)) ∈ gd_tbl := gd_in 459 (by decide +kernel) rfl
theorem m_431 : (Jvm.Cond.methodLink "SafeDeskLaw" (36 : Nat) ({ cls := "SafeDeskModel", name := "clear", desc := "(I)I" } : Jvm.MethodName)) ∈ gd_tbl := gd_in 460 (by decide +kernel) rfl
theorem m_432 : (Jvm.Cond.instanceMethod ({ cls := "SafeDeskModel", name := "clear", desc := "(I)I" } : Jvm.MethodName)) ∈ gd_tbl := gd_in 461 (by decide +kernel) rfl
theorem m_433 : (Jvm.Cond.selects "SafeDeskModel" ({ cls := "SafeDeskModel", name := "clear", desc := "(I)I" } : Jvm.MethodName) ({ cls := "SafeDeskModel", name := "clear", desc := "(I)I" } : Jvm.MethodName)) ∈ gd_tbl := gd_in 462 (by decide +kernel) rfl
theorem m_434 : (Jvm.Cond.code ({ cls := "SafeDeskModel", name := "clear", desc := "(I)I" } : Jvm.MethodName) prog_7_method_13_code (3 : Nat) (Option.some Jvm.ClassFile.FieldType.int)) ∈ gd_tbl := gd_in 463 (by decide +kernel) rfl
theorem m_435 : (Jvm.Cond.methodLink "SafeDeskLaw" (40 : Nat) ({ cls := "SafeDeskModel", name := "run", desc := "(II)I" } : Jvm.MethodName)) ∈ gd_tbl := gd_in 464 (by decide +kernel) rfl
theorem m_436 : (Jvm.Cond.instanceMethod ({ cls := "SafeDeskModel", name := "run", desc := "(II)I" } : Jvm.MethodName)) ∈ gd_tbl := gd_in 465 (by decide +kernel) rfl
theorem m_437 : (Jvm.Cond.selects "SafeDeskModel" ({ cls := "SafeDeskModel", name := "run", desc := "(II)I" } : Jvm.MethodName) ({ cls := "SafeDeskModel", name := "run", desc := "(II)I" } : Jvm.MethodName)) ∈ gd_tbl := gd_in 466 (by decide +kernel) rfl
theorem m_438 : (Jvm.Cond.code ({ cls := "SafeDeskModel", name := "run", desc := "(II)I" } : Jvm.MethodName) prog_7_method_24_code (5 : Nat) (Option.some Jvm.ClassFile.FieldType.int)) ∈ gd_tbl := gd_in 467 (by decide +kernel) rfl
theorem m_439 : (Jvm.Cond.methodLink "SafeDeskModel" (132 : Nat) ({ cls := "SafeDeskModel", name := "beginPlan", desc := "(I)V" } : Jvm.MethodName)) ∈ gd_tbl := gd_in 468 (by decide +kernel) rfl
theorem m_441 : (Jvm.Cond.instanceMethod ({ cls := "SafeDeskModel", name := "beginPlan", desc := "(I)V" } : Jvm.MethodName)) ∈ gd_tbl := gd_in 470 (by decide +kernel) rfl
theorem m_442 : (Jvm.Cond.code ({ cls := "SafeDeskModel", name := "beginPlan", desc := "(I)V" } : Jvm.MethodName) prog_7_method_16_code (2 : Nat) (Option.none : Option Jvm.ClassFile.FieldType)) ∈ gd_tbl := gd_in 471 (by decide +kernel) rfl
theorem m_443 : (Jvm.Cond.methodLink "SafeDeskModel" (98 : Nat) ({ cls := "SafeDeskModel", name := "push", desc := "(IIIII)V" } : Jvm.MethodName)) ∈ gd_tbl := gd_in 472 (by decide +kernel) rfl
theorem m_445 : (Jvm.Cond.instanceMethod ({ cls := "SafeDeskModel", name := "push", desc := "(IIIII)V" } : Jvm.MethodName)) ∈ gd_tbl := gd_in 474 (by decide +kernel) rfl
theorem m_446 : (Jvm.Cond.code ({ cls := "SafeDeskModel", name := "push", desc := "(IIIII)V" } : Jvm.MethodName) prog_7_method_15_code (6 : Nat) (Option.none : Option Jvm.ClassFile.FieldType)) ∈ gd_tbl := gd_in 475 (by decide +kernel) rfl
theorem m_447 : (Jvm.Cond.methodLink "SafeDeskModel" (105 : Nat) ({ cls := "SafeDeskModel", name := "pop", desc := "()V" } : Jvm.MethodName)) ∈ gd_tbl := gd_in 476 (by decide +kernel) rfl
theorem m_449 : (Jvm.Cond.instanceMethod ({ cls := "SafeDeskModel", name := "pop", desc := "()V" } : Jvm.MethodName)) ∈ gd_tbl := gd_in 478 (by decide +kernel) rfl
theorem m_450 : (Jvm.Cond.code ({ cls := "SafeDeskModel", name := "pop", desc := "()V" } : Jvm.MethodName) prog_7_method_17_code (1 : Nat) (Option.none : Option Jvm.ClassFile.FieldType)) ∈ gd_tbl := gd_in 479 (by decide +kernel) rfl
theorem m_451 : (Jvm.Cond.methodLink "SafeDeskModel" (102 : Nat) ({ cls := "SafeDeskModel", name := "leave", desc := "(I)V" } : Jvm.MethodName)) ∈ gd_tbl := gd_in 480 (by decide +kernel) rfl
theorem m_453 : (Jvm.Cond.instanceMethod ({ cls := "SafeDeskModel", name := "leave", desc := "(I)V" } : Jvm.MethodName)) ∈ gd_tbl := gd_in 482 (by decide +kernel) rfl
theorem m_454 : (Jvm.Cond.code ({ cls := "SafeDeskModel", name := "leave", desc := "(I)V" } : Jvm.MethodName) prog_7_method_14_code (2 : Nat) (Option.none : Option Jvm.ClassFile.FieldType)) ∈ gd_tbl := gd_in 483 (by decide +kernel) rfl
theorem m_455 : (Jvm.Cond.methodLink "SafeDeskModel" (114 : Nat) ({ cls := "SafeDeskModel", name := "fails", desc := "(I)V" } : Jvm.MethodName)) ∈ gd_tbl := gd_in 484 (by decide +kernel) rfl
theorem m_457 : (Jvm.Cond.instanceMethod ({ cls := "SafeDeskModel", name := "fails", desc := "(I)V" } : Jvm.MethodName)) ∈ gd_tbl := gd_in 486 (by decide +kernel) rfl
theorem m_458 : (Jvm.Cond.code ({ cls := "SafeDeskModel", name := "fails", desc := "(I)V" } : Jvm.MethodName) prog_7_method_18_code (3 : Nat) (Option.none : Option Jvm.ClassFile.FieldType)) ∈ gd_tbl := gd_in 487 (by decide +kernel) rfl
theorem m_459 : (Jvm.Cond.methodLink "SafeDeskModel" (145 : Nat) ({ cls := "SafeDeskModel", name := "does", desc := "(III)V" } : Jvm.MethodName)) ∈ gd_tbl := gd_in 488 (by decide +kernel) rfl
theorem m_461 : (Jvm.Cond.instanceMethod ({ cls := "SafeDeskModel", name := "does", desc := "(III)V" } : Jvm.MethodName)) ∈ gd_tbl := gd_in 490 (by decide +kernel) rfl
theorem m_462 : (Jvm.Cond.code ({ cls := "SafeDeskModel", name := "does", desc := "(III)V" } : Jvm.MethodName) prog_7_method_23_code (4 : Nat) (Option.none : Option Jvm.ClassFile.FieldType)) ∈ gd_tbl := gd_in 491 (by decide +kernel) rfl
theorem m_463 : (Jvm.Cond.methodLink "SafeDeskModel" (117 : Nat) ({ cls := "SafeDeskModel", name := "within", desc := "(III)V" } : Jvm.MethodName)) ∈ gd_tbl := gd_in 492 (by decide +kernel) rfl
theorem m_465 : (Jvm.Cond.instanceMethod ({ cls := "SafeDeskModel", name := "within", desc := "(III)V" } : Jvm.MethodName)) ∈ gd_tbl := gd_in 494 (by decide +kernel) rfl
theorem m_466 : (Jvm.Cond.code ({ cls := "SafeDeskModel", name := "within", desc := "(III)V" } : Jvm.MethodName) prog_7_method_19_code (7 : Nat) (Option.none : Option Jvm.ClassFile.FieldType)) ∈ gd_tbl := gd_in 495 (by decide +kernel) rfl
theorem m_467 : (Jvm.Cond.methodLink "SafeDeskModel" (129 : Nat) ({ cls := "SafeDeskModel", name := "back", desc := "(I)V" } : Jvm.MethodName)) ∈ gd_tbl := gd_in 496 (by decide +kernel) rfl
theorem m_469 : (Jvm.Cond.instanceMethod ({ cls := "SafeDeskModel", name := "back", desc := "(I)V" } : Jvm.MethodName)) ∈ gd_tbl := gd_in 498 (by decide +kernel) rfl
theorem m_470 : (Jvm.Cond.code ({ cls := "SafeDeskModel", name := "back", desc := "(I)V" } : Jvm.MethodName) prog_7_method_20_code (2 : Nat) (Option.none : Option Jvm.ClassFile.FieldType)) ∈ gd_tbl := gd_in 499 (by decide +kernel) rfl
theorem m_471 : (Jvm.Cond.methodLink "SafeDeskModel" (135 : Nat) ({ cls := "SafeDeskModel", name := "seek", desc := "(II)V" } : Jvm.MethodName)) ∈ gd_tbl := gd_in 500 (by decide +kernel) rfl
theorem m_473 : (Jvm.Cond.instanceMethod ({ cls := "SafeDeskModel", name := "seek", desc := "(II)V" } : Jvm.MethodName)) ∈ gd_tbl := gd_in 502 (by decide +kernel) rfl
theorem m_474 : (Jvm.Cond.code ({ cls := "SafeDeskModel", name := "seek", desc := "(II)V" } : Jvm.MethodName) prog_7_method_21_code (5 : Nat) (Option.none : Option Jvm.ClassFile.FieldType)) ∈ gd_tbl := gd_in 503 (by decide +kernel) rfl
theorem m_475 : (Jvm.Cond.methodLink "SafeDeskModel" (70 : Nat) ({ cls := "SafeDeskModel", name := "enter", desc := "(I)V" } : Jvm.MethodName)) ∈ gd_tbl := gd_in 504 (by decide +kernel) rfl
theorem m_477 : (Jvm.Cond.instanceMethod ({ cls := "SafeDeskModel", name := "enter", desc := "(I)V" } : Jvm.MethodName)) ∈ gd_tbl := gd_in 506 (by decide +kernel) rfl
theorem m_478 : (Jvm.Cond.code ({ cls := "SafeDeskModel", name := "enter", desc := "(I)V" } : Jvm.MethodName) prog_7_method_6_code (2 : Nat) (Option.none : Option Jvm.ClassFile.FieldType)) ∈ gd_tbl := gd_in 507 (by decide +kernel) rfl
theorem m_479 : (Jvm.Cond.methodLink "SafeDeskModel" (139 : Nat) ({ cls := "SafeDeskModel", name := "withSafe", desc := "(III)V" } : Jvm.MethodName)) ∈ gd_tbl := gd_in 508 (by decide +kernel) rfl
theorem m_481 : (Jvm.Cond.instanceMethod ({ cls := "SafeDeskModel", name := "withSafe", desc := "(III)V" } : Jvm.MethodName)) ∈ gd_tbl := gd_in 510 (by decide +kernel) rfl
theorem m_482 : (Jvm.Cond.code ({ cls := "SafeDeskModel", name := "withSafe", desc := "(III)V" } : Jvm.MethodName) prog_7_method_22_code (5 : Nat) (Option.none : Option Jvm.ClassFile.FieldType)) ∈ gd_tbl := gd_in 511 (by decide +kernel) rfl
theorem m_483 : (Jvm.Cond.methodLink "SafeDeskModel" (83 : Nat) ({ cls := "SafeDeskModel", name := "put", desc := "(II)Z" } : Jvm.MethodName)) ∈ gd_tbl := gd_in 512 (by decide +kernel) rfl
theorem m_485 : (Jvm.Cond.instanceMethod ({ cls := "SafeDeskModel", name := "put", desc := "(II)Z" } : Jvm.MethodName)) ∈ gd_tbl := gd_in 514 (by decide +kernel) rfl
theorem m_486 : (Jvm.Cond.code ({ cls := "SafeDeskModel", name := "put", desc := "(II)Z" } : Jvm.MethodName) prog_7_method_9_code (4 : Nat) (Option.some Jvm.ClassFile.FieldType.boolean)) ∈ gd_tbl := gd_in 515 (by decide +kernel) rfl
theorem m_487 : (Jvm.Cond.methodLink "SafeDeskModel" (76 : Nat) ({ cls := "SafeDeskModel", name := "putPlain", desc := "(II)Z" } : Jvm.MethodName)) ∈ gd_tbl := gd_in 516 (by decide +kernel) rfl
theorem m_489 : (Jvm.Cond.instanceMethod ({ cls := "SafeDeskModel", name := "putPlain", desc := "(II)Z" } : Jvm.MethodName)) ∈ gd_tbl := gd_in 518 (by decide +kernel) rfl
theorem m_490 : (Jvm.Cond.code ({ cls := "SafeDeskModel", name := "putPlain", desc := "(II)Z" } : Jvm.MethodName) prog_7_method_7_code (6 : Nat) (Option.some Jvm.ClassFile.FieldType.boolean)) ∈ gd_tbl := gd_in 519 (by decide +kernel) rfl
theorem m_491 : (Jvm.Cond.constantLong "SafeDeskModel" (74 : Nat) (1000000 : Int64)) ∈ gd_tbl := gd_in 520 (by decide +kernel) rfl
theorem m_492 : (Jvm.Cond.methodLink "SafeDeskModel" (80 : Nat) ({ cls := "SafeDeskModel", name := "putTimed", desc := "(II)Z" } : Jvm.MethodName)) ∈ gd_tbl := gd_in 521 (by decide +kernel) rfl
theorem m_494 : (Jvm.Cond.instanceMethod ({ cls := "SafeDeskModel", name := "putTimed", desc := "(II)Z" } : Jvm.MethodName)) ∈ gd_tbl := gd_in 523 (by decide +kernel) rfl
theorem m_495 : (Jvm.Cond.code ({ cls := "SafeDeskModel", name := "putTimed", desc := "(II)Z" } : Jvm.MethodName) prog_7_method_8_code (4 : Nat) (Option.some Jvm.ClassFile.FieldType.boolean)) ∈ gd_tbl := gd_in 524 (by decide +kernel) rfl
theorem m_496 : (Jvm.Cond.methodLink "SafeDeskModel" (121 : Nat) ({ cls := "SafeDeskModel", name := "worth", desc := "(I)I" } : Jvm.MethodName)) ∈ gd_tbl := gd_in 525 (by decide +kernel) rfl
theorem m_498 : (Jvm.Cond.instanceMethod ({ cls := "SafeDeskModel", name := "worth", desc := "(I)I" } : Jvm.MethodName)) ∈ gd_tbl := gd_in 527 (by decide +kernel) rfl
theorem m_499 : (Jvm.Cond.code ({ cls := "SafeDeskModel", name := "worth", desc := "(I)I" } : Jvm.MethodName) prog_7_method_10_code (3 : Nat) (Option.some Jvm.ClassFile.FieldType.int)) ∈ gd_tbl := gd_in 528 (by decide +kernel) rfl
theorem m_500 : (Jvm.Cond.methodLink "SafeDeskModel" (125 : Nat) ({ cls := "SafeDeskModel", name := "give", desc := "(III)I" } : Jvm.MethodName)) ∈ gd_tbl := gd_in 529 (by decide +kernel) rfl
theorem m_502 : (Jvm.Cond.instanceMethod ({ cls := "SafeDeskModel", name := "give", desc := "(III)I" } : Jvm.MethodName)) ∈ gd_tbl := gd_in 531 (by decide +kernel) rfl
theorem m_503 : (Jvm.Cond.code ({ cls := "SafeDeskModel", name := "give", desc := "(III)I" } : Jvm.MethodName) prog_7_method_11_code (6 : Nat) (Option.some Jvm.ClassFile.FieldType.int)) ∈ gd_tbl := gd_in 532 (by decide +kernel) rfl
theorem m_504 : (Jvm.Cond.methodLink "SafeDeskLaw" (45 : Nat) ({ cls := "SafeDeskModel", name := "value", desc := "()I" } : Jvm.MethodName)) ∈ gd_tbl := gd_in 533 (by decide +kernel) rfl
theorem m_505 : (Jvm.Cond.instanceMethod ({ cls := "SafeDeskModel", name := "value", desc := "()I" } : Jvm.MethodName)) ∈ gd_tbl := gd_in 534 (by decide +kernel) rfl
theorem m_506 : (Jvm.Cond.selects "SafeDeskModel" ({ cls := "SafeDeskModel", name := "value", desc := "()I" } : Jvm.MethodName) ({ cls := "SafeDeskModel", name := "value", desc := "()I" } : Jvm.MethodName)) ∈ gd_tbl := gd_in 535 (by decide +kernel) rfl
theorem m_507 : (Jvm.Cond.code ({ cls := "SafeDeskModel", name := "value", desc := "()I" } : Jvm.MethodName) prog_7_method_25_code (1 : Nat) (Option.some Jvm.ClassFile.FieldType.int)) ∈ gd_tbl := gd_in 536 (by decide +kernel) rfl
theorem m_508 : (Jvm.Cond.methodLink "SafeDeskLaw" (49 : Nat) ({ cls := "SafeDeskModel", name := "trace", desc := "(I)I" } : Jvm.MethodName)) ∈ gd_tbl := gd_in 537 (by decide +kernel) rfl
theorem m_509 : (Jvm.Cond.instanceMethod ({ cls := "SafeDeskModel", name := "trace", desc := "(I)I" } : Jvm.MethodName)) ∈ gd_tbl := gd_in 538 (by decide +kernel) rfl
theorem m_510 : (Jvm.Cond.selects "SafeDeskModel" ({ cls := "SafeDeskModel", name := "trace", desc := "(I)I" } : Jvm.MethodName) ({ cls := "SafeDeskModel", name := "trace", desc := "(I)I" } : Jvm.MethodName)) ∈ gd_tbl := gd_in 539 (by decide +kernel) rfl
theorem m_511 : (Jvm.Cond.code ({ cls := "SafeDeskModel", name := "trace", desc := "(I)I" } : Jvm.MethodName) prog_7_method_26_code (2 : Nat) (Option.some Jvm.ClassFile.FieldType.int)) ∈ gd_tbl := gd_in 540 (by decide +kernel) rfl
theorem m_512 : (Jvm.Cond.methodLink "SafeDeskLaw" (53 : Nat) ({ cls := "SafeDeskModel", name := "told", desc := "(II)I" } : Jvm.MethodName)) ∈ gd_tbl := gd_in 541 (by decide +kernel) rfl
theorem m_513 : (Jvm.Cond.instanceMethod ({ cls := "SafeDeskModel", name := "told", desc := "(II)I" } : Jvm.MethodName)) ∈ gd_tbl := gd_in 542 (by decide +kernel) rfl
theorem m_514 : (Jvm.Cond.selects "SafeDeskModel" ({ cls := "SafeDeskModel", name := "told", desc := "(II)I" } : Jvm.MethodName) ({ cls := "SafeDeskModel", name := "told", desc := "(II)I" } : Jvm.MethodName)) ∈ gd_tbl := gd_in 543 (by decide +kernel) rfl
theorem m_515 : (Jvm.Cond.code ({ cls := "SafeDeskModel", name := "told", desc := "(II)I" } : Jvm.MethodName) prog_7_method_27_code (4 : Nat) (Option.some Jvm.ClassFile.FieldType.int)) ∈ gd_tbl := gd_in 544 (by decide +kernel) rfl
theorem m_516 : (Jvm.Cond.methodLink "SafeDeskLaw" (57 : Nat) ({ cls := "SafeDeskModel", name := "count", desc := "(I)I" } : Jvm.MethodName)) ∈ gd_tbl := gd_in 545 (by decide +kernel) rfl
theorem m_517 : (Jvm.Cond.instanceMethod ({ cls := "SafeDeskModel", name := "count", desc := "(I)I" } : Jvm.MethodName)) ∈ gd_tbl := gd_in 546 (by decide +kernel) rfl
theorem m_518 : (Jvm.Cond.selects "SafeDeskModel" ({ cls := "SafeDeskModel", name := "count", desc := "(I)I" } : Jvm.MethodName) ({ cls := "SafeDeskModel", name := "count", desc := "(I)I" } : Jvm.MethodName)) ∈ gd_tbl := gd_in 547 (by decide +kernel) rfl
theorem m_519 : (Jvm.Cond.code ({ cls := "SafeDeskModel", name := "count", desc := "(I)I" } : Jvm.MethodName) prog_7_method_28_code (4 : Nat) (Option.some Jvm.ClassFile.FieldType.int)) ∈ gd_tbl := gd_in 548 (by decide +kernel) rfl
theorem m_520 : (Jvm.Cond.sameMethod "SafeDesk$Timed" "SafeDesk$Timed" "put" "(I)I") ∈ gd_tbl := gd_in 549 (by decide +kernel) rfl
theorem m_521 : (Jvm.Cond.sameMethod "SafeDesk$Timed" "SafeDesk$Timed" "worth" "()I") ∈ gd_tbl := gd_in 550 (by decide +kernel) rfl
theorem ms_0 : Cond.selects "SafeDesk" ⟨"SafeDesk", "doPlan", "(I)I"⟩ ⟨"SafeDesk", "doPlan", "(I)I"⟩ ∈ gd_tbl := gd_in 0 (by decide +kernel) rfl
theorem ms_1 : Cond.selects "SafeDesk" ⟨"SafeDesk", "doSteps", "(LSafeDesk$Plan;II)I"⟩ ⟨"SafeDesk", "doSteps", "(LSafeDesk$Plan;II)I"⟩ ∈ gd_tbl := gd_in 1 (by decide +kernel) rfl
theorem ms_2 : Cond.selects "SafeDesk" ⟨"SafeDesk", "doStep", "(LSafeDesk$Plan;II)I"⟩ ⟨"SafeDesk", "doStep", "(LSafeDesk$Plan;II)I"⟩ ∈ gd_tbl := gd_in 2 (by decide +kernel) rfl
theorem ms_3 : Cond.selects "SafeDesk" ⟨"SafeDesk", "leaveInTrace", "(I)V"⟩ ⟨"SafeDesk", "leaveInTrace", "(I)V"⟩ ∈ gd_tbl := gd_in 3 (by decide +kernel) rfl
theorem ms_4 : Cond.selects "SafeDesk" ⟨"SafeDesk", "safeIn", "(I)LSafeDesk$Safe;"⟩ ⟨"SafeDesk", "safeIn", "(I)LSafeDesk$Safe;"⟩ ∈ gd_tbl := gd_in 4 (by decide +kernel) rfl
theorem ms_5 : Cond.selects "SafeDesk" ⟨"SafeDesk", "doInside", "(LSafeDesk$Safe;LSafeDesk$Plan;II)I"⟩ ⟨"SafeDesk", "doInside", "(LSafeDesk$Safe;LSafeDesk$Plan;II)I"⟩ ∈ gd_tbl := gd_in 5 (by decide +kernel) rfl
theorem ms_6 : Cond.selects "SafeDesk" ⟨"SafeDesk", "doTry", "(ILSafeDesk$Plan;II)I"⟩ ⟨"SafeDesk", "doTry", "(ILSafeDesk$Plan;II)I"⟩ ∈ gd_tbl := gd_in 6 (by decide +kernel) rfl
theorem ms_7 : Cond.selects "SafeDesk" ⟨"SafeDesk", "doWithValue", "(II)I"⟩ ⟨"SafeDesk", "doWithValue", "(II)I"⟩ ∈ gd_tbl := gd_in 7 (by decide +kernel) rfl
theorem ms_8 : Cond.selects "SafeDesk" ⟨"SafeDesk", "doWithRooms", "(III)I"⟩ ⟨"SafeDesk", "doWithRooms", "(III)I"⟩ ∈ gd_tbl := gd_in 8 (by decide +kernel) rfl
theorem ms_9 : Cond.selects "SafeDesk" ⟨"SafeDesk", "setRoom", "(ILSafeDesk$Safe;)V"⟩ ⟨"SafeDesk", "setRoom", "(ILSafeDesk$Safe;)V"⟩ ∈ gd_tbl := gd_in 9 (by decide +kernel) rfl
theorem ms_10 : Cond.selects "SafeDesk" ⟨"SafeDesk", "seek", "(II)I"⟩ ⟨"SafeDesk", "seek", "(II)I"⟩ ∈ gd_tbl := gd_in 10 (by decide +kernel) rfl
theorem ms_11 : Cond.selects "SafeDesk" ⟨"SafeDesk", "doWithSafe", "(ILSafeDesk$Safe;I)I"⟩ ⟨"SafeDesk", "doWithSafe", "(ILSafeDesk$Safe;I)I"⟩ ∈ gd_tbl := gd_in 11 (by decide +kernel) rfl
theorem ms_12 : Cond.selects "SafeDesk" ⟨"SafeDesk", "roomsWithSafe", "()I"⟩ ⟨"SafeDesk", "roomsWithSafe", "()I"⟩ ∈ gd_tbl := gd_in 12 (by decide +kernel) rfl
theorem ms_13 : Cond.selects "SafeDeskModel" ⟨"SafeDeskModel", "beginPlan", "(I)V"⟩ ⟨"SafeDeskModel", "beginPlan", "(I)V"⟩ ∈ gd_tbl := gd_in 13 (by decide +kernel) rfl
theorem ms_14 : Cond.selects "SafeDeskModel" ⟨"SafeDeskModel", "push", "(IIIII)V"⟩ ⟨"SafeDeskModel", "push", "(IIIII)V"⟩ ∈ gd_tbl := gd_in 14 (by decide +kernel) rfl
theorem ms_15 : Cond.selects "SafeDeskModel" ⟨"SafeDeskModel", "pop", "()V"⟩ ⟨"SafeDeskModel", "pop", "()V"⟩ ∈ gd_tbl := gd_in 15 (by decide +kernel) rfl
theorem ms_16 : Cond.selects "SafeDeskModel" ⟨"SafeDeskModel", "leave", "(I)V"⟩ ⟨"SafeDeskModel", "leave", "(I)V"⟩ ∈ gd_tbl := gd_in 16 (by decide +kernel) rfl
theorem ms_17 : Cond.selects "SafeDeskModel" ⟨"SafeDeskModel", "fails", "(I)V"⟩ ⟨"SafeDeskModel", "fails", "(I)V"⟩ ∈ gd_tbl := gd_in 17 (by decide +kernel) rfl
theorem ms_18 : Cond.selects "SafeDeskModel" ⟨"SafeDeskModel", "does", "(III)V"⟩ ⟨"SafeDeskModel", "does", "(III)V"⟩ ∈ gd_tbl := gd_in 18 (by decide +kernel) rfl
theorem ms_19 : Cond.selects "SafeDeskModel" ⟨"SafeDeskModel", "within", "(III)V"⟩ ⟨"SafeDeskModel", "within", "(III)V"⟩ ∈ gd_tbl := gd_in 19 (by decide +kernel) rfl
theorem ms_20 : Cond.selects "SafeDeskModel" ⟨"SafeDeskModel", "back", "(I)V"⟩ ⟨"SafeDeskModel", "back", "(I)V"⟩ ∈ gd_tbl := gd_in 20 (by decide +kernel) rfl
theorem ms_21 : Cond.selects "SafeDeskModel" ⟨"SafeDeskModel", "seek", "(II)V"⟩ ⟨"SafeDeskModel", "seek", "(II)V"⟩ ∈ gd_tbl := gd_in 21 (by decide +kernel) rfl
theorem ms_22 : Cond.selects "SafeDeskModel" ⟨"SafeDeskModel", "enter", "(I)V"⟩ ⟨"SafeDeskModel", "enter", "(I)V"⟩ ∈ gd_tbl := gd_in 22 (by decide +kernel) rfl
theorem ms_23 : Cond.selects "SafeDeskModel" ⟨"SafeDeskModel", "withSafe", "(III)V"⟩ ⟨"SafeDeskModel", "withSafe", "(III)V"⟩ ∈ gd_tbl := gd_in 23 (by decide +kernel) rfl
theorem ms_24 : Cond.selects "SafeDeskModel" ⟨"SafeDeskModel", "put", "(II)Z"⟩ ⟨"SafeDeskModel", "put", "(II)Z"⟩ ∈ gd_tbl := gd_in 24 (by decide +kernel) rfl
theorem ms_25 : Cond.selects "SafeDeskModel" ⟨"SafeDeskModel", "putPlain", "(II)Z"⟩ ⟨"SafeDeskModel", "putPlain", "(II)Z"⟩ ∈ gd_tbl := gd_in 25 (by decide +kernel) rfl
theorem ms_26 : Cond.selects "SafeDeskModel" ⟨"SafeDeskModel", "putTimed", "(II)Z"⟩ ⟨"SafeDeskModel", "putTimed", "(II)Z"⟩ ∈ gd_tbl := gd_in 26 (by decide +kernel) rfl
theorem ms_27 : Cond.selects "SafeDeskModel" ⟨"SafeDeskModel", "worth", "(I)I"⟩ ⟨"SafeDeskModel", "worth", "(I)I"⟩ ∈ gd_tbl := gd_in 27 (by decide +kernel) rfl
theorem ms_28 : Cond.selects "SafeDeskModel" ⟨"SafeDeskModel", "give", "(III)I"⟩ ⟨"SafeDeskModel", "give", "(III)I"⟩ ∈ gd_tbl := gd_in 28 (by decide +kernel) rfl
end
section
/-- what is fixed of the classes: the worlds' class numbers, and the three array classes -/
abbrev Gy : Type := va_G × ClassId × ClassId × ClassId
abbrev tyL (g : Gy) : List (ClassId × FieldType) := [(g.2.1, .int), (g.2.2.1, .object "SafeDesk$Safe"), (g.2.2.2, .object "SafeDesk$Plan")]
abbrev clL : List vw_C := [(RX0, TX0, 4), (RX1, TX1, 6), (RX2, TX2, 6), (RX3, TX3, 6), (RX4, TX4, 9), (RX5, TX5, 26)]
def NX (U : State) : Prop := va_AO "SafeDesk$Safe" U ∧ va_AO "SafeDesk$Plan" U ∧ va_Nw (.methodLinkNest RX4 25 yX0_init RX4) U ∧ va_Nw (.castable RX2 RX1) U ∧ va_Nw (.castable RX3 RX1) U
def Wk (g : Gy) (U : State) : Prop := va_K g.1 clL (tyL g) U ∧ NX U
theorem Wk.moved {g : Gy} {s U : State} (hW : s.WarmedH U.vm) (h : Wk g s) : Wk g U := ⟨va_K.moved hW.alike h.1, va_AO.moved hW.alike h.2.1, va_AO.moved hW.alike h.2.2.1, va_Nw.warmM hW h.2.2.2.1, va_Nw.warmC hW h.2.2.2.2.1, va_Nw.warmC hW h.2.2.2.2.2⟩
theorem Wk.same {g : Gy} {u U : State} (hv : u.vm = U.vm) (h : Wk g u) : Wk g U := ⟨va_K.moved (by rw [← hv]; exact Vm.Alike.refl _) h.1, va_AO.moved (by rw [← hv]; exact Vm.Alike.refl _) h.2.1, va_AO.moved (by rw [← hv]; exact Vm.Alike.refl _) h.2.2.1, va_Nw.same rfl hv h.2.2.2.1, va_Nw.same rfl hv h.2.2.2.2.1, va_Nw.same rfl hv h.2.2.2.2.2⟩
/-- what is fixed while a method's body runs -/
abbrev Cx := Program × Launch × Env × Room × State × MethodId × Array Value × List Frame × Method × Code × Gy × (Nat → Prop) × (State → Prop) × Nat
abbrev xP (x : Cx) : Program := x.1
abbrev xL (x : Cx) : Launch := x.2.1
abbrev xE (x : Cx) : Env := x.2.2.1
abbrev xR (x : Cx) : Room := x.2.2.2.1
abbrev xS (x : Cx) : State := x.2.2.2.2.1
abbrev xM (x : Cx) : MethodId := x.2.2.2.2.2.1
abbrev xU (x : Cx) : Array Value := x.2.2.2.2.2.2.1
abbrev xB (x : Cx) : List Frame := x.2.2.2.2.2.2.2.1
abbrev xT (x : Cx) : Method := x.2.2.2.2.2.2.2.2.1
abbrev xC (x : Cx) : Code := x.2.2.2.2.2.2.2.2.2.1
abbrev xG (x : Cx) : Gy := x.2.2.2.2.2.2.2.2.2.2.1
abbrev xA (x : Cx) : Nat → Prop := x.2.2.2.2.2.2.2.2.2.2.2.1
abbrev xQ (x : Cx) : State → Prop := x.2.2.2.2.2.2.2.2.2.2.2.2.1
abbrev xN (x : Cx) : Nat := x.2.2.2.2.2.2.2.2.2.2.2.2.2
/-- from every heap that holds the world ws, with locals lv and operands st, the machine at pc comes to its end -/
def J (x : Cx) (cells slots : Nat) (ws : va_W) (pc : Nat) (lv : List (Nat × Value)) (st : List Value) : Prop :=
  ∀ (H : Heap) (locs : List Loc) (ls : Array Slot), va_P (xG x).1 clL ws H → va_D (xA x) ws → va_S (xA x) (xS x).heap H locs → lv_has ls (xN x) lv →
    W (xP x) (xL x) (xE x) (xR x) (xS x) (xM x) (xU x) (xB x) (xT x) (xC x) H locs cells slots (xQ x) (F0 (xM x) pc ls st)
def Ok (x : Cx) (cc : ByteArray) (own : String) (ret : Option FieldType) : Prop :=
  (xP x).tables.exec = Jvm.exec ∧ (xC x).code = cc ∧ (xT x).sig.returnType = ret ∧ (xC x).maxLocals = xN x ∧ (xS x).vm.findClass own = some (xM x).cls ∧ (∀ w ∈ gd_tbl, w.before (xU x) (xS x) = true) ∧ Wk (xG x) (xS x) ∧ (xT x).locks = false ∧ (∀ q, (xS x).heap.size ≤ q → xA x q)
theorem Ok.w {x : Cx} {cc : ByteArray} {own : String} {ret : Option FieldType} (h : Ok x cc own ret) {w : Cond} (hw : w ∈ gd_tbl) : w.before (xU x) (xS x) = true := h.2.2.2.2.2.1 w hw
theorem Ok.K {x : Cx} {cc : ByteArray} {own : String} {ret : Option FieldType} (h : Ok x cc own ret) : va_K (xG x).1 clL (tyL (xG x)) (xS x) := h.2.2.2.2.2.2.1.1
/-- the method's end: what a return owes -/
def Rt (x : Cx) (mc ms : Nat) (Po : Option Value → va_W → Prop) : Prop :=
  ∃ Qc : Array Value → State → Outcome → State → Prop, xQ x = MQ (xB x) Qc (xU x) (xS x) mc ms (xA x) ∧
    ∀ (r : Option Value) (ws : va_W) (H : Heap) (locs : List Loc) (t : State), Po r ws → va_P (xG x).1 clL ws H → va_D (xA x) ws → va_S (xA x) (xS x).heap H locs → t.heap = H → Qc (xU x) (xS x) (.returned r) t
section JL
variable {x : Cx} {cc : ByteArray} {own : String} {ret : Option FieldType} {cells slots pc : Nat} {ws : va_W} {lv : List (Nat × Value)} {st : List Value}
theorem J_iconst (h : Ok x cc own ret) {n : Int} (v : Int32) (hv : Int32.ofInt n = v) (d : decode cc pc = .ok (.iconst n, 1)) (k : J x cells slots ws (pc + 1) lv (.int v :: st)) : J x cells slots ws pc lv (st) := fun H locs ls hP hD hS hl => lv_iconst h.1 h.2.1 d hv (k H locs ls hP hD hS hl)
theorem J_bipush (h : Ok x cc own ret) {n : Int} (v : Int32) (hv : (Int8.ofInt n).toInt32 = v) (d : decode cc pc = .ok (.bipush n, 2)) (k : J x cells slots ws (pc + 2) lv (.int v :: st)) : J x cells slots ws pc lv (st) := fun H locs ls hP hD hS hl => lv_bipush h.1 h.2.1 d hv (k H locs ls hP hD hS hl)
theorem J_sipush (h : Ok x cc own ret) {n : Int} (v : Int32) (hv : (Int16.ofInt n).toInt32 = v) (d : decode cc pc = .ok (.sipush n, 3)) (k : J x cells slots ws (pc + 3) lv (.int v :: st)) : J x cells slots ws pc lv (st) := fun H locs ls hP hD hS hl => lv_sipush h.1 h.2.1 d hv (k H locs ls hP hD hS hl)
theorem J_lconst (h : Ok x cc own ret) {n : Fin 2} (v : Int64) (hv : Int64.ofNat (n : Nat) = v) (d : decode cc pc = .ok (.lconst n, 1)) (k : J x cells slots ws (pc + 1) lv (.long v :: st)) : J x cells slots ws pc lv (st) := fun H locs ls hP hD hS hl => lv_lconst h.1 h.2.1 d hv (k H locs ls hP hD hS hl)
theorem J_iload_n (h : Ok x cc own ret) {n : Fin 4} (k0 : Nat) {i : Nat} {v : Int32} (hi : (n : Nat) = i) (hk : lv[k0]? = some (i, .int v)) (d : decode cc pc = .ok (.iload_n n, 1)) (k : J x cells slots ws (pc + 1) lv (.int v :: st)) : J x cells slots ws pc lv (st) := fun H locs ls hP hD hS hl => lv_iload_n h.1 h.2.1 d hi (lv_at hl k0 hk) (k H locs ls hP hD hS hl)
theorem J_iload (h : Ok x cc own ret) (k0 : Nat) {i : Nat} {v : Int32} (hk : lv[k0]? = some (i, .int v)) (d : decode cc pc = .ok (.iload i, 2)) (k : J x cells slots ws (pc + 2) lv (.int v :: st)) : J x cells slots ws pc lv (st) := fun H locs ls hP hD hS hl => lv_iload h.1 h.2.1 d (lv_at hl k0 hk) (k H locs ls hP hD hS hl)
theorem J_lload_n (h : Ok x cc own ret) {n : Fin 4} (k0 : Nat) {i : Nat} {v : Int64} (hi : (n : Nat) = i) (hk : lv[k0]? = some (i, .long v)) (d : decode cc pc = .ok (.lload_n n, 1)) (k : J x cells slots ws (pc + 1) lv (.long v :: st)) : J x cells slots ws pc lv (st) := fun H locs ls hP hD hS hl => lv_lload_n h.1 h.2.1 d hi (lv_at hl k0 hk) (k H locs ls hP hD hS hl)
theorem J_aload_n (h : Ok x cc own ret) {n : Fin 4} (k0 : Nat) {i : Nat} {v : Nat} (hi : (n : Nat) = i) (hk : lv[k0]? = some (i, .ref v)) (d : decode cc pc = .ok (.aload_n n, 1)) (k : J x cells slots ws (pc + 1) lv (.ref v :: st)) : J x cells slots ws pc lv (st) := fun H locs ls hP hD hS hl => lv_aload_n h.1 h.2.1 d hi (lv_at hl k0 hk) (k H locs ls hP hD hS hl)
theorem J_aload (h : Ok x cc own ret) (k0 : Nat) {i : Nat} {v : Nat} (hk : lv[k0]? = some (i, .ref v)) (d : decode cc pc = .ok (.aload i, 2)) (k : J x cells slots ws (pc + 2) lv (.ref v :: st)) : J x cells slots ws pc lv (st) := fun H locs ls hP hD hS hl => lv_aload h.1 h.2.1 d (lv_at hl k0 hk) (k H locs ls hP hD hS hl)
theorem J_aload_nq (h : Ok x cc own ret) {n : Fin 4} (k0 : Nat) {i : Nat} {o : Option Nat} (hi : (n : Nat) = i) (hk : lv[k0]? = some (i, va_rf o)) (d : decode cc pc = .ok (.aload_n n, 1)) (k : J x cells slots ws (pc + 1) lv (va_rf o :: st)) : J x cells slots ws pc lv st := by
  intro H locs ls hP hD hS hl
  cases o with
  | none => exact lv_aload_nN h.1 h.2.1 d hi (lv_at hl k0 hk) (k H locs ls hP hD hS hl)
  | some v => exact lv_aload_n h.1 h.2.1 d hi (lv_at hl k0 hk) (k H locs ls hP hD hS hl)
theorem J_aloadq (h : Ok x cc own ret) (k0 : Nat) {i : Nat} {o : Option Nat} (hk : lv[k0]? = some (i, va_rf o)) (d : decode cc pc = .ok (.aload i, 2)) (k : J x cells slots ws (pc + 2) lv (va_rf o :: st)) : J x cells slots ws pc lv st := by
  intro H locs ls hP hD hS hl
  cases o with
  | none => exact lv_aloadN h.1 h.2.1 d (lv_at hl k0 hk) (k H locs ls hP hD hS hl)
  | some v => exact lv_aload h.1 h.2.1 d (lv_at hl k0 hk) (k H locs ls hP hD hS hl)
theorem J_istore_n (h : Ok x cc own ret) {n : Fin 4} {i : Nat} {v : Int32} (lv' : List (Nat × Value)) (hi : (n : Nat) = i) (hn : i < xN x) (hl' : (i, Value.int v) :: lv.filter (fun q => !(q.1 == i) && !(q.1 + 1 == i && q.2.category == 2)) = lv') (d : decode cc pc = .ok (.istore_n n, 1)) (k : J x cells slots ws (pc + 1) lv' st) : J x cells slots ws pc lv (.int v :: st) := fun H locs ls hP hD hS hl => lv_istore_n h.1 h.2.1 d hi hl hn hl' (fun ls' h' => k H locs ls' hP hD hS h')
theorem J_istore (h : Ok x cc own ret) {i : Nat} {v : Int32} (lv' : List (Nat × Value)) (hn : i < xN x) (hl' : (i, Value.int v) :: lv.filter (fun q => !(q.1 == i) && !(q.1 + 1 == i && q.2.category == 2)) = lv') (d : decode cc pc = .ok (.istore i, 2)) (k : J x cells slots ws (pc + 2) lv' st) : J x cells slots ws pc lv (.int v :: st) := fun H locs ls hP hD hS hl => lv_istore h.1 h.2.1 d hl hn hl' (fun ls' h' => k H locs ls' hP hD hS h')
theorem J_lstore_n (h : Ok x cc own ret) {n : Fin 4} {i : Nat} {v : Int64} (lv' : List (Nat × Value)) (hi : (n : Nat) = i) (hn : i + 1 < xN x) (hl' : (i, Value.long v) :: lv.filter (fun q => !(q.1 == i) && (!(q.1 == i + 1) && !(q.1 + 1 == i && q.2.category == 2))) = lv') (d : decode cc pc = .ok (.lstore_n n, 1)) (k : J x cells slots ws (pc + 1) lv' st) : J x cells slots ws pc lv (.long v :: st) := fun H locs ls hP hD hS hl => lv_lstore_n h.1 h.2.1 d hi hl hn hl' (fun ls' h' => k H locs ls' hP hD hS h')
theorem J_astore_nq (h : Ok x cc own ret) {n : Fin 4} {i : Nat} {o : Option Nat} (lv' : List (Nat × Value)) (hi : (n : Nat) = i) (hn : i < xN x) (hl' : (i, va_rf o) :: lv.filter (fun q => !(q.1 == i) && !(q.1 + 1 == i && q.2.category == 2)) = lv') (d : decode cc pc = .ok (.astore_n n, 1)) (k : J x cells slots ws (pc + 1) lv' st) : J x cells slots ws pc lv (va_rf o :: st) := by
  intro H locs ls hP hD hS hl
  cases o with
  | none => exact lv_astore_nN h.1 h.2.1 d hi hl hn hl' (fun ls' h' => k H locs ls' hP hD hS h')
  | some v => exact lv_astore_n h.1 h.2.1 d hi hl hn hl' (fun ls' h' => k H locs ls' hP hD hS h')
theorem J_astoreq (h : Ok x cc own ret) {i : Nat} {o : Option Nat} (lv' : List (Nat × Value)) (hn : i < xN x) (hl' : (i, va_rf o) :: lv.filter (fun q => !(q.1 == i) && !(q.1 + 1 == i && q.2.category == 2)) = lv') (d : decode cc pc = .ok (.astore i, 2)) (k : J x cells slots ws (pc + 2) lv' st) : J x cells slots ws pc lv (va_rf o :: st) := by
  intro H locs ls hP hD hS hl
  cases o with
  | none => exact lv_astoreN h.1 h.2.1 d hl hn hl' (fun ls' h' => k H locs ls' hP hD hS h')
  | some v => exact lv_astore h.1 h.2.1 d hl hn hl' (fun ls' h' => k H locs ls' hP hD hS h')
theorem J_astore_n (h : Ok x cc own ret) {n : Fin 4} {i : Nat} {v : Nat} (lv' : List (Nat × Value)) (hi : (n : Nat) = i) (hn : i < xN x) (hl' : (i, Value.ref v) :: lv.filter (fun q => !(q.1 == i) && !(q.1 + 1 == i && q.2.category == 2)) = lv') (d : decode cc pc = .ok (.astore_n n, 1)) (k : J x cells slots ws (pc + 1) lv' st) : J x cells slots ws pc lv (.ref v :: st) := fun H locs ls hP hD hS hl => lv_astore_n h.1 h.2.1 d hi hl hn hl' (fun ls' h' => k H locs ls' hP hD hS h')
theorem J_astore (h : Ok x cc own ret) {i : Nat} {v : Nat} (lv' : List (Nat × Value)) (hn : i < xN x) (hl' : (i, Value.ref v) :: lv.filter (fun q => !(q.1 == i) && !(q.1 + 1 == i && q.2.category == 2)) = lv') (d : decode cc pc = .ok (.astore i, 2)) (k : J x cells slots ws (pc + 2) lv' st) : J x cells slots ws pc lv (.ref v :: st) := fun H locs ls hP hD hS hl => lv_astore h.1 h.2.1 d hl hn hl' (fun ls' h' => k H locs ls' hP hD hS h')
theorem J_iinc (h : Ok x cc own ret) (k0 : Nat) {i : Nat} {n : Int} {v0 : Int32} (v : Int32) (lv' : List (Nat × Value)) (hk : lv[k0]? = some (i, .int v0)) (hv : v0 + Int32.ofInt n = v) (hn : i < xN x) (hl' : (i, Value.int v) :: lv.filter (fun q => !(q.1 == i) && !(q.1 + 1 == i && q.2.category == 2)) = lv') (d : decode cc pc = .ok (.iinc i n, 3)) (k : J x cells slots ws (pc + 3) lv' st) : J x cells slots ws pc lv st := fun H locs ls hP hD hS hl => lv_iinc h.1 h.2.1 d hl hk hv hn hl' (fun ls' h' => k H locs ls' hP hD hS h')
theorem J_iadd (h : Ok x cc own ret) {a b : Int32} (d : decode cc pc = .ok (.iadd, 1)) (k : J x cells slots ws (pc + 1) lv (.int (a + b) :: st)) : J x cells slots ws pc lv (.int b :: .int a :: st) := fun H locs ls hP hD hS hl => lv_iadd h.1 h.2.1 d (k H locs ls hP hD hS hl)
theorem J_isub (h : Ok x cc own ret) {a b : Int32} (d : decode cc pc = .ok (.isub, 1)) (k : J x cells slots ws (pc + 1) lv (.int (a - b) :: st)) : J x cells slots ws pc lv (.int b :: .int a :: st) := fun H locs ls hP hD hS hl => lv_isub h.1 h.2.1 d (k H locs ls hP hD hS hl)
theorem J_imul (h : Ok x cc own ret) {a b : Int32} (d : decode cc pc = .ok (.imul, 1)) (k : J x cells slots ws (pc + 1) lv (.int (a * b) :: st)) : J x cells slots ws pc lv (.int b :: .int a :: st) := fun H locs ls hP hD hS hl => lv_imul h.1 h.2.1 d (k H locs ls hP hD hS hl)
theorem J_iand (h : Ok x cc own ret) {a b : Int32} (d : decode cc pc = .ok (.iand, 1)) (k : J x cells slots ws (pc + 1) lv (.int (a &&& b) :: st)) : J x cells slots ws pc lv (.int b :: .int a :: st) := fun H locs ls hP hD hS hl => lv_iand h.1 h.2.1 d (k H locs ls hP hD hS hl)
theorem J_ixor (h : Ok x cc own ret) {a b : Int32} (d : decode cc pc = .ok (.ixor, 1)) (k : J x cells slots ws (pc + 1) lv (.int (a ^^^ b) :: st)) : J x cells slots ws pc lv (.int b :: .int a :: st) := fun H locs ls hP hD hS hl => lv_ixor h.1 h.2.1 d (k H locs ls hP hD hS hl)
theorem J_idiv (h : Ok x cc own ret) {a b : Int32} (hne : ¬ b = 0) (d : decode cc pc = .ok (.idiv, 1)) (k : J x cells slots ws (pc + 1) lv (.int (a / b) :: st)) : J x cells slots ws pc lv (.int b :: .int a :: st) := fun H locs ls hP hD hS hl => lv_idiv h.1 h.2.1 d hne (k H locs ls hP hD hS hl)
theorem J_irem (h : Ok x cc own ret) {a b : Int32} (hne : ¬ b = 0) (d : decode cc pc = .ok (.irem, 1)) (k : J x cells slots ws (pc + 1) lv (.int (a - a / b * b) :: st)) : J x cells slots ws pc lv (.int b :: .int a :: st) := fun H locs ls hP hD hS hl => lv_irem h.1 h.2.1 d hne (k H locs ls hP hD hS hl)
theorem J_ineg (h : Ok x cc own ret) {a : Int32} (d : decode cc pc = .ok (.ineg, 1)) (k : J x cells slots ws (pc + 1) lv (.int (-a) :: st)) : J x cells slots ws pc lv (.int a :: st) := fun H locs ls hP hD hS hl => lv_ineg h.1 h.2.1 d (k H locs ls hP hD hS hl)
theorem J_ladd (h : Ok x cc own ret) {a b : Int64} (d : decode cc pc = .ok (.ladd, 1)) (k : J x cells slots ws (pc + 1) lv (.long (a + b) :: st)) : J x cells slots ws pc lv (.long b :: .long a :: st) := fun H locs ls hP hD hS hl => lv_ladd h.1 h.2.1 d (k H locs ls hP hD hS hl)
theorem J_i2l (h : Ok x cc own ret) {a : Int32} (d : decode cc pc = .ok (.i2l, 1)) (k : J x cells slots ws (pc + 1) lv (.long a.toInt64 :: st)) : J x cells slots ws pc lv (.int a :: st) := fun H locs ls hP hD hS hl => lv_i2l h.1 h.2.1 d rfl (k H locs ls hP hD hS hl)
theorem J_l2i (h : Ok x cc own ret) {a : Int64} (d : decode cc pc = .ok (.l2i, 1)) (k : J x cells slots ws (pc + 1) lv (.int a.toInt32 :: st)) : J x cells slots ws pc lv (.long a :: st) := fun H locs ls hP hD hS hl => lv_l2i h.1 h.2.1 d rfl (k H locs ls hP hD hS hl)
theorem J_lcmp (h : Ok x cc own ret) {a b : Int64} (d : decode cc pc = .ok (.lcmp, 1)) (k : J x cells slots ws (pc + 1) lv (.int (lg_cmp a b) :: st)) : J x cells slots ws pc lv (.long b :: .long a :: st) := fun H locs ls hP hD hS hl => W.lcmp h.1 h.2.1 d (k H locs ls hP hD hS hl)
theorem J_dup (h : Ok x cc own ret) {v : Value} (hv : v.category = 1) (d : decode cc pc = .ok (.dup, 1)) (k : J x cells slots ws (pc + 1) lv (v :: v :: st)) : J x cells slots ws pc lv (v :: st) := fun H locs ls hP hD hS hl => lv_dup h.1 h.2.1 d hv (k H locs ls hP hD hS hl)
theorem J_pop (h : Ok x cc own ret) {v : Value} (hv : v.category = 1) (d : decode cc pc = .ok (.pop, 1)) (k : J x cells slots ws (pc + 1) lv (st)) : J x cells slots ws pc lv (v :: st) := fun H locs ls hP hD hS hl => lv_pop h.1 h.2.1 d hv (k H locs ls hP hD hS hl)
theorem J_dup2 (h : Ok x cc own ret) {v u : Value} (hv : v.category = 1) (hu : u.category = 1) (d : decode cc pc = .ok (.dup2, 1)) (k : J x cells slots ws (pc + 1) lv (v :: u :: v :: u :: st)) : J x cells slots ws pc lv (v :: u :: st) := fun H locs ls hP hD hS hl => lv_dup2_11 h.1 h.2.1 d hv hu (k H locs ls hP hD hS hl)
theorem J_null (h : Ok x cc own ret)  (d : decode cc pc = .ok (.aconst_null, 1)) (k : J x cells slots ws (pc + 1) lv (va_rf none :: st)) : J x cells slots ws pc lv (st) := fun H locs ls hP hD hS hl => lv_null h.1 h.2.1 d (k H locs ls hP hD hS hl)
theorem J_goto (h : Ok x cc own ret) {off : Int} (tgt : Nat) (ht : (pc : Int) + off = (tgt : Int)) (d : decode cc pc = .ok (.goto off, 3)) (k : J x cells slots ws tgt lv st) : J x cells slots ws pc lv st := fun H locs ls hP hD hS hl => lv_goto h.1 h.2.1 d ht (k H locs ls hP hD hS hl)
theorem J_if_eq (h : Ok x cc own ret) {off : Int} {a : Int32} (tgt : Nat) (ht : (pc : Int) + off = (tgt : Int)) (d : decode cc pc = .ok (.ifCond .eq off, 3)) (kt : a = 0 → J x cells slots ws tgt lv st) (kf : ¬ a = 0 → J x cells slots ws (pc + 3) lv st) : J x cells slots ws pc lv (.int a :: st) := fun H locs ls hP hD hS hl => lv_if_eq h.1 h.2.1 d ht (fun c => kt c H locs ls hP hD hS hl) (fun c => kf c H locs ls hP hD hS hl)
theorem J_icmp_eq (h : Ok x cc own ret) {off : Int} {a b : Int32} (tgt : Nat) (ht : (pc : Int) + off = (tgt : Int)) (d : decode cc pc = .ok (.if_icmp .eq off, 3)) (kt : a = b → J x cells slots ws tgt lv st) (kf : ¬ a = b → J x cells slots ws (pc + 3) lv st) : J x cells slots ws pc lv (.int b :: .int a :: st) := fun H locs ls hP hD hS hl => lv_icmp_eq h.1 h.2.1 d ht (fun c => kt c H locs ls hP hD hS hl) (fun c => kf c H locs ls hP hD hS hl)
theorem J_if_ne (h : Ok x cc own ret) {off : Int} {a : Int32} (tgt : Nat) (ht : (pc : Int) + off = (tgt : Int)) (d : decode cc pc = .ok (.ifCond .ne off, 3)) (kt : ¬ a = 0 → J x cells slots ws tgt lv st) (kf : a = 0 → J x cells slots ws (pc + 3) lv st) : J x cells slots ws pc lv (.int a :: st) := fun H locs ls hP hD hS hl => lv_if_ne h.1 h.2.1 d ht (fun c => kt c H locs ls hP hD hS hl) (fun c => kf c H locs ls hP hD hS hl)
theorem J_icmp_ne (h : Ok x cc own ret) {off : Int} {a b : Int32} (tgt : Nat) (ht : (pc : Int) + off = (tgt : Int)) (d : decode cc pc = .ok (.if_icmp .ne off, 3)) (kt : ¬ a = b → J x cells slots ws tgt lv st) (kf : a = b → J x cells slots ws (pc + 3) lv st) : J x cells slots ws pc lv (.int b :: .int a :: st) := fun H locs ls hP hD hS hl => lv_icmp_ne h.1 h.2.1 d ht (fun c => kt c H locs ls hP hD hS hl) (fun c => kf c H locs ls hP hD hS hl)
theorem J_if_lt (h : Ok x cc own ret) {off : Int} {a : Int32} (tgt : Nat) (ht : (pc : Int) + off = (tgt : Int)) (d : decode cc pc = .ok (.ifCond .lt off, 3)) (kt : a < 0 → J x cells slots ws tgt lv st) (kf : ¬ a < 0 → J x cells slots ws (pc + 3) lv st) : J x cells slots ws pc lv (.int a :: st) := fun H locs ls hP hD hS hl => lv_if_lt h.1 h.2.1 d ht (fun c => kt c H locs ls hP hD hS hl) (fun c => kf c H locs ls hP hD hS hl)
theorem J_icmp_lt (h : Ok x cc own ret) {off : Int} {a b : Int32} (tgt : Nat) (ht : (pc : Int) + off = (tgt : Int)) (d : decode cc pc = .ok (.if_icmp .lt off, 3)) (kt : a < b → J x cells slots ws tgt lv st) (kf : ¬ a < b → J x cells slots ws (pc + 3) lv st) : J x cells slots ws pc lv (.int b :: .int a :: st) := fun H locs ls hP hD hS hl => lv_icmp_lt h.1 h.2.1 d ht (fun c => kt c H locs ls hP hD hS hl) (fun c => kf c H locs ls hP hD hS hl)
theorem J_if_ge (h : Ok x cc own ret) {off : Int} {a : Int32} (tgt : Nat) (ht : (pc : Int) + off = (tgt : Int)) (d : decode cc pc = .ok (.ifCond .ge off, 3)) (kt : 0 ≤ a → J x cells slots ws tgt lv st) (kf : ¬ 0 ≤ a → J x cells slots ws (pc + 3) lv st) : J x cells slots ws pc lv (.int a :: st) := fun H locs ls hP hD hS hl => lv_if_ge h.1 h.2.1 d ht (fun c => kt c H locs ls hP hD hS hl) (fun c => kf c H locs ls hP hD hS hl)
theorem J_icmp_ge (h : Ok x cc own ret) {off : Int} {a b : Int32} (tgt : Nat) (ht : (pc : Int) + off = (tgt : Int)) (d : decode cc pc = .ok (.if_icmp .ge off, 3)) (kt : b ≤ a → J x cells slots ws tgt lv st) (kf : ¬ b ≤ a → J x cells slots ws (pc + 3) lv st) : J x cells slots ws pc lv (.int b :: .int a :: st) := fun H locs ls hP hD hS hl => lv_icmp_ge h.1 h.2.1 d ht (fun c => kt c H locs ls hP hD hS hl) (fun c => kf c H locs ls hP hD hS hl)
theorem J_if_gt (h : Ok x cc own ret) {off : Int} {a : Int32} (tgt : Nat) (ht : (pc : Int) + off = (tgt : Int)) (d : decode cc pc = .ok (.ifCond .gt off, 3)) (kt : 0 < a → J x cells slots ws tgt lv st) (kf : ¬ 0 < a → J x cells slots ws (pc + 3) lv st) : J x cells slots ws pc lv (.int a :: st) := fun H locs ls hP hD hS hl => lv_if_gt h.1 h.2.1 d ht (fun c => kt c H locs ls hP hD hS hl) (fun c => kf c H locs ls hP hD hS hl)
theorem J_icmp_gt (h : Ok x cc own ret) {off : Int} {a b : Int32} (tgt : Nat) (ht : (pc : Int) + off = (tgt : Int)) (d : decode cc pc = .ok (.if_icmp .gt off, 3)) (kt : b < a → J x cells slots ws tgt lv st) (kf : ¬ b < a → J x cells slots ws (pc + 3) lv st) : J x cells slots ws pc lv (.int b :: .int a :: st) := fun H locs ls hP hD hS hl => lv_icmp_gt h.1 h.2.1 d ht (fun c => kt c H locs ls hP hD hS hl) (fun c => kf c H locs ls hP hD hS hl)
theorem J_if_le (h : Ok x cc own ret) {off : Int} {a : Int32} (tgt : Nat) (ht : (pc : Int) + off = (tgt : Int)) (d : decode cc pc = .ok (.ifCond .le off, 3)) (kt : a ≤ 0 → J x cells slots ws tgt lv st) (kf : ¬ a ≤ 0 → J x cells slots ws (pc + 3) lv st) : J x cells slots ws pc lv (.int a :: st) := fun H locs ls hP hD hS hl => lv_if_le h.1 h.2.1 d ht (fun c => kt c H locs ls hP hD hS hl) (fun c => kf c H locs ls hP hD hS hl)
theorem J_icmp_le (h : Ok x cc own ret) {off : Int} {a b : Int32} (tgt : Nat) (ht : (pc : Int) + off = (tgt : Int)) (d : decode cc pc = .ok (.if_icmp .le off, 3)) (kt : a ≤ b → J x cells slots ws tgt lv st) (kf : ¬ a ≤ b → J x cells slots ws (pc + 3) lv st) : J x cells slots ws pc lv (.int b :: .int a :: st) := fun H locs ls hP hD hS hl => lv_icmp_le h.1 h.2.1 d ht (fun c => kt c H locs ls hP hD hS hl) (fun c => kf c H locs ls hP hD hS hl)
theorem J_ifnull (h : Ok x cc own ret) {off : Int} {o : Option Nat} (tgt : Nat) (ht : (pc : Int) + off = (tgt : Int)) (d : decode cc pc = .ok (.ifnull off, 3)) (kt : o = none → J x cells slots ws tgt lv st) (kf : ¬ o = none → J x cells slots ws (pc + 3) lv st) : J x cells slots ws pc lv (va_rf o :: st) := by
  intro H locs ls hP hD hS hl
  cases o with
  | none => exact lv_ifnullN h.1 h.2.1 d ht (kt rfl H locs ls hP hD hS hl)
  | some v => exact lv_ifnull h.1 h.2.1 d (kf (fun q => by cases q) H locs ls hP hD hS hl)
theorem J_ifnonnull (h : Ok x cc own ret) {off : Int} {o : Option Nat} (tgt : Nat) (ht : (pc : Int) + off = (tgt : Int)) (d : decode cc pc = .ok (.ifnonnull off, 3)) (kt : ¬ o = none → J x cells slots ws tgt lv st) (kf : o = none → J x cells slots ws (pc + 3) lv st) : J x cells slots ws pc lv (va_rf o :: st) := by
  intro H locs ls hP hD hS hl
  cases o with
  | none => exact lv_ifnonnullN h.1 h.2.1 d (kf rfl H locs ls hP hD hS hl)
  | some v => exact lv_ifnonnull h.1 h.2.1 d ht (kt (fun q => by cases q) H locs ls hP hD hS hl)
theorem J_acmp_ne (h : Ok x cc own ret) {off : Int} {o u : Option Nat} (tgt : Nat) (ht : (pc : Int) + off = (tgt : Int)) (d : decode cc pc = .ok (.if_acmp .ne off, 3)) (kt : ¬ o = u → J x cells slots ws tgt lv st) (kf : o = u → J x cells slots ws (pc + 3) lv st) : J x cells slots ws pc lv (va_rf u :: va_rf o :: st) := fun H locs ls hP hD hS hl => lv_acmp_ne h.1 h.2.1 d ht (fun c => kt c H locs ls hP hD hS hl) (fun c => kf c H locs ls hP hD hS hl)
theorem J_ldc (h : Ok x cc own ret) {i : Nat} {v : Int32} (hw : Cond.constant own i v ∈ gd_tbl) (d : decode cc pc = .ok (.ldc i, 2)) (k : J x cells slots ws (pc + 2) lv (.int v :: st)) : J x cells slots ws pc lv st := fun H locs ls hP hD hS hl => lv_ldc h.1 h.2.1 h.2.2.2.2.1 (h.w hw) d (k H locs ls hP hD hS hl)
theorem J_ldc2 (h : Ok x cc own ret) {i : Nat} {v : Int64} (hw : Cond.constantLong own i v ∈ gd_tbl) (d : decode cc pc = .ok (.ldc2_w i, 3)) (k : J x cells slots ws (pc + 3) lv (.long v :: st)) : J x cells slots ws pc lv st := fun H locs ls hP hD hS hl => lv_ldc2 h.1 h.2.1 h.2.2.2.2.1 (h.w hw) d (k H locs ls hP hD hS hl)
theorem J_tabIn (h : Ok x cc own ret) {dflt lo hi off : Int} {offs : Array Int} {len : Nat} {a : Int32} (b : Int32) (tgt : Nat) (c : a = b) (h1 : ¬ b.toInt < lo) (h2 : ¬ hi < b.toInt) (ho : offs[(b.toInt - lo).toNat]? = some off) (ht : (pc : Int) + off = (tgt : Int)) (d : decode cc pc = .ok (.tableswitch dflt lo hi offs, len)) (k : J x cells slots ws tgt lv st) : J x cells slots ws pc lv (.int a :: st) := by
  subst c
  exact fun H locs ls hP hD hS hl => lv_tableIn h.1 h.2.1 d h1 h2 ho ht (k H locs ls hP hD hS hl)
theorem J_tabOut (h : Ok x cc own ret) {dflt lo hi : Int} {offs : Array Int} {len : Nat} {a : Int32} (tgt : Nat) (hc : a.toInt < lo ∨ hi < a.toInt) (ht : (pc : Int) + dflt = (tgt : Int)) (d : decode cc pc = .ok (.tableswitch dflt lo hi offs, len)) (k : J x cells slots ws tgt lv st) : J x cells slots ws pc lv (.int a :: st) := fun H locs ls hP hD hS hl => lv_tableOut h.1 h.2.1 d hc ht (k H locs ls hP hD hS hl)
theorem J_lookup (h : Ok x cc own ret) {dflt off : Int} {ps : Array (Int × Int)} {len : Nat} {a : Int32} (tgt : Nat) (hp : (ps.toList.zip (ps.toList.drop 1)).all (fun (a, next) => a.1 < next.1) = true) (ho : Op.lookupswitch.offset ps.toList dflt a.toInt = off) (ht : (pc : Int) + off = (tgt : Int)) (d : decode cc pc = .ok (.lookupswitch dflt ps, len)) (k : J x cells slots ws tgt lv st) : J x cells slots ws pc lv (.int a :: st) := fun H locs ls hP hD hS hl => lv_lookup h.1 h.2.1 d hp ho ht (k H locs ls hP hD hS hl)
theorem J_sub (lv' : List (Nat × Value)) (ks : List Nat) (hp : lv_pick lv ks = lv') (k : J x cells slots ws pc lv' st) : J x cells slots ws pc lv st := fun H locs ls hP hD hS hl => k H locs ls hP hD hS (lv_sub hl ks hp)
theorem J_widen {c2 s2 : Nat} (h1 : cells ≤ c2) (h2 : slots ≤ s2) (k : J x c2 s2 ws pc lv st) : J x cells slots ws pc lv st := fun H locs ls hP hD hS hl => W.widen h1 h2 (k H locs ls hP hD hS hl)
theorem J_eqw {ws2 : va_W} (e : ws = ws2) (k : J x cells slots ws2 pc lv st) : J x cells slots ws pc lv st := e ▸ k
-- returns
theorem J_iret {Po : Option Value → va_W → Prop} {v : Int32} (h : Ok x cc own (some .int)) (hr : Rt x cells slots Po) (hp : Po (some (.int v)) ws) (d : decode cc pc = .ok (.ireturn, 1)) : J x cells slots ws pc lv [.int v] := by
  intro H locs ls hP hD hS hl
  obtain ⟨Qc, e, hq⟩ := hr
  rw [e]
  exact W.iret h.1 h.2.1 h.2.2.1 (fun t ht hW => hq _ _ _ _ t hp hP hD hS ht) hS.2.2 d (hlocks := h.2.2.2.2.2.2.2.1)
theorem J_zret {Po : Option Value → va_W → Prop} {v : Int32} (h : Ok x cc own (some .boolean)) (hn : narrow .boolean (.int v) = .int v) (hr : Rt x cells slots Po) (hp : Po (some (.int v)) ws) (d : decode cc pc = .ok (.ireturn, 1)) : J x cells slots ws pc lv [.int v] := by
  intro H locs ls hP hD hS hl
  obtain ⟨Qc, e, hq⟩ := hr
  rw [e]
  exact W.zret h.1 h.2.1 h.2.2.1 hn (fun t ht hW => hq _ _ _ _ t hp hP hD hS ht) hS.2.2 d (hlocks := h.2.2.2.2.2.2.2.1)
theorem J_vret {Po : Option Value → va_W → Prop} (h : Ok x cc own none) (hr : Rt x cells slots Po) (hp : Po none ws) (d : decode cc pc = .ok (.return_, 1)) : J x cells slots ws pc lv [] := by
  intro H locs ls hP hD hS hl
  obtain ⟨Qc, e, hq⟩ := hr
  rw [e]
  exact W.vret h.1 h.2.1 h.2.2.1 (fun t ht hW => hq _ _ _ _ t hp hP hD hS ht) hS.2.2 d (hlocks := h.2.2.2.2.2.2.2.1)
theorem J_aret {Po : Option Value → va_W → Prop} {o : Option Nat} {C : String} (h : Ok x cc own (some (.object C))) (hr : Rt x cells slots Po) (hp : Po (some (va_rf o)) ws) (d : decode cc pc = .ok (.areturn, 1)) : J x cells slots ws pc lv [va_rf o] := by
  intro H locs ls hP hD hS hl
  obtain ⟨Qc, e, hq⟩ := hr
  rw [e]
  exact W.aret h.1 h.2.1 h.2.2.1 (Or.inl ⟨_, rfl⟩) (by cases o with | none => exact Or.inl rfl | some v => exact Or.inr ⟨v, rfl⟩) (fun t ht hW => hq _ _ _ _ t hp hP hD hS ht) hS.2.2 d (hlocks := h.2.2.2.2.2.2.2.1)
-- fields and arrays
theorem J_get (h : Ok x cc own ret) {a ci N index q0 kf : Nat} {C rf : String} {T : u_T} {fs : List Value} {v : Value} (hin : ∀ w ∈ u_ws C T N, w ∈ gd_tbl) (he : ws[q0]? = some (a, .inr (ci, fs))) (hc : clL[ci]? = some (C, T, N)) (hk : kf < N) (hlink : Cond.fieldLink own index rf (T kf).2.1 (T kf).2.2.1 ∈ gd_tbl) (hsame : ∀ y, (xS x).fieldFound? (T kf).1 (T kf).2.1 (T kf).2.2.1 = some y → (xS x).fieldFound? rf (T kf).2.1 (T kf).2.2.1 = some y) (hv : fs[kf]? = some v) (d : decode cc pc = .ok (.getfield index, 3)) (k : J x cells slots ws (pc + 3) lv (v :: st)) : J x cells slots ws pc lv (.ref a :: st) := fun H locs ls hP hD hS hl => va_get h.1 h.2.1 h.2.2.2.2.2.1 hin h.2.2.2.2.1 h.K hP q0 he hc kf hk (h.w hlink) hsame hv d (k H locs ls hP hD hS hl)
theorem J_put (h : Ok x cc own ret) {a ci N index q0 kf : Nat} {C rf : String} {T : u_T} {ty0 : Nat → FieldType} {ty : FieldType} {fs : List Value} {v : Value} (ws' : va_W) (hin : ∀ w ∈ u_ws C T N, w ∈ gd_tbl) (hty : ∀ k, k < N → parseFieldDescriptor (T k).2.2.1 = some (ty0 k)) (hnm : ∀ a, a < N → ∀ b, b < N → a ≠ b → (T a).2.1 ≠ (T b).2.1) (he : ws[q0]? = some (a, .inr (ci, fs))) (hc : clL[ci]? = some (C, T, N)) (hk : kf < N) (hlink : Cond.fieldLink own index rf (T kf).2.1 (T kf).2.2.1 ∈ gd_tbl) (hsame : ∀ y, (xS x).fieldFound? (T kf).1 (T kf).2.1 (T kf).2.2.1 = some y → (xS x).fieldFound? rf (T kf).2.1 (T kf).2.2.1 = some y) (hfin : (T kf).2.2.2 = false) (hd : parseFieldDescriptor (T kf).2.2.1 = some ty) (hn : narrow ty v = v) (hfit : fits ty v = true) (hl0 : kf < fs.length) (hw' : ws.set q0 (a, .inr (ci, fs.set kf v)) = ws') (d : decode cc pc = .ok (.putfield index, 3)) (k : J x cells slots ws' (pc + 3) lv st) : J x cells slots ws pc lv (v :: .ref a :: st) := by
  subst hw'
  exact fun H locs ls hP hD hS hl => va_put h.1 h.2.1 h.2.2.2.2.2.1 hin ty0 hty hnm h.2.2.2.2.1 h.K hP hD hS q0 he hc kf hk (h.w hlink) hsame hfin hd hn hfit hl0 d (fun H1 l1 hP1 hD1 hS1 => k H1 l1 ls hP1 hD1 hS1 hl)
theorem J_putF (h : Ok x cc own ret) {a ci N index q0 kf : Nat} {C rf : String} {T : u_T} {ty0 : Nat → FieldType} {ty : FieldType} {fs : List Value} {v : Value} (ws' : va_W) (hin : ∀ w ∈ u_ws C T N, w ∈ gd_tbl) (hty : ∀ k, k < N → parseFieldDescriptor (T k).2.2.1 = some (ty0 k)) (hnm : ∀ a, a < N → ∀ b, b < N → a ≠ b → (T a).2.1 ≠ (T b).2.1) (he : ws[q0]? = some (a, .inr (ci, fs))) (hc : clL[ci]? = some (C, T, N)) (hk : kf < N) (hlink : Cond.fieldLink own index rf (T kf).2.1 (T kf).2.2.1 ∈ gd_tbl) (hsame : ∀ y, (xS x).fieldFound? (T kf).1 (T kf).2.1 (T kf).2.2.1 = some y → (xS x).fieldFound? rf (T kf).2.1 (T kf).2.2.1 = some y) (hfin : (T kf).2.2.2 = true) (hin2 : (xT x).name = "<init>") (hdecl : (T kf).1 = own) (hd : parseFieldDescriptor (T kf).2.2.1 = some ty) (hn : narrow ty v = v) (hfit : fits ty v = true) (hl0 : kf < fs.length) (hw' : ws.set q0 (a, .inr (ci, fs.set kf v)) = ws') (d : decode cc pc = .ok (.putfield index, 3)) (k : J x cells slots ws' (pc + 3) lv st) : J x cells slots ws pc lv (v :: .ref a :: st) := by
  subst hw'
  exact fun H locs ls hP hD hS hl => va_putF h.1 h.2.1 h.2.2.2.2.2.1 hin ty0 hty hnm h.2.2.2.2.1 h.K hP hD hS q0 he hc kf hk (h.w hlink) hsame hfin hin2 hdecl hd hn hfit hl0 d (fun H1 l1 hP1 hD1 hS1 => k H1 l1 ls hP1 hD1 hS1 hl)
theorem J_iald (h : Ok x cc own ret) {a n q0 : Nat} {f : Nat → Int32} {i : Int32} (ha : ws[q0]? = some (a, .inl ((xG x).2.1, n, .inl f))) (hin : vp_in i n) (d : decode cc pc = .ok (.iaload, 1)) (k : J x cells slots ws (pc + 1) lv (.int (f i.toNatClampNeg) :: st)) : J x cells slots ws pc lv (.int i :: .ref a :: st) := fun H locs ls hP hD hS hl => va_iald h.1 h.2.1 h.K hP q0 0 ha rfl hin d (k H locs ls hP hD hS hl)
theorem J_iast (h : Ok x cc own ret) {a n q0 : Nat} {f : Nat → Int32} {i v : Int32} (ws' : va_W) (ha : ws[q0]? = some (a, .inl ((xG x).2.1, n, .inl f))) (hin : vp_in i n) (hw' : ws.set q0 (a, .inl ((xG x).2.1, n, .inl (upd f i.toNatClampNeg v))) = ws') (d : decode cc pc = .ok (.iastore, 1)) (k : J x cells slots ws' (pc + 1) lv st) : J x cells slots ws pc lv (.int v :: .int i :: .ref a :: st) := by
  subst hw'
  exact fun H locs ls hP hD hS hl => va_iast h.1 h.2.1 h.K hP hD hS q0 0 ha rfl hin d (fun H1 l1 hP1 hD1 hS1 => k H1 l1 ls hP1 hD1 hS1 hl)
theorem J_aald (h : Ok x cc own ret) {a n q0 t0 : Nat} {cA : ClassId} {C : String} {f : Nat → Option Nat} {i : Int32} (ha : ws[q0]? = some (a, .inl (cA, n, .inr (.inr (.inr (.inr f)))))) (ht : (tyL (xG x))[t0]? = some (cA, .object C)) (hin : vp_in i n) (d : decode cc pc = .ok (.aaload, 1)) (k : J x cells slots ws (pc + 1) lv (va_rf (f i.toNatClampNeg) :: st)) : J x cells slots ws pc lv (.int i :: .ref a :: st) := fun H locs ls hP hD hS hl => va_aldq h.1 h.2.1 h.K hP q0 t0 ha ht hin d (k H locs ls hP hD hS hl)
theorem J_aastN (h : Ok x cc own ret) {a n q0 t0 : Nat} {cA : ClassId} {C : String} {f : Nat → Option Nat} {i : Int32} (ws' : va_W) (ha : ws[q0]? = some (a, .inl (cA, n, .inr (.inr (.inr (.inr f)))))) (ht : (tyL (xG x))[t0]? = some (cA, .object C)) (hin : vp_in i n) (hw' : ws.set q0 (a, .inl (cA, n, .inr (.inr (.inr (.inr (va_up f i.toNatClampNeg none)))))) = ws') (d : decode cc pc = .ok (.aastore, 1)) (k : J x cells slots ws' (pc + 1) lv st) : J x cells slots ws pc lv (va_rf none :: .int i :: .ref a :: st) := by
  subst hw'
  exact fun H locs ls hP hD hS hl => va_astqN h.1 h.2.1 h.K hP hD hS q0 t0 ha ht hin d (fun H1 l1 hP1 hD1 hS1 => k H1 l1 ls hP1 hD1 hS1 hl)
theorem J_aast (h : Ok x cc own ret) {a n q0 t0 qk ci v : Nat} {cA : ClassId} {vs : List Value} {r : vw_C} {f : Nat → Option Nat} {i : Int32} (ws' : va_W) (ha : ws[q0]? = some (a, .inl (cA, n, .inr (.inr (.inr (.inr f)))))) (ht : (tyL (xG x))[t0]? = some (cA, .object r.1)) (hv : ws[qk]? = some (v, .inr (ci, vs))) (hc : clL[ci]? = some r) (hin : vp_in i n) (hw' : ws.set q0 (a, .inl (cA, n, .inr (.inr (.inr (.inr (va_up f i.toNatClampNeg (some v))))))) = ws') (d : decode cc pc = .ok (.aastore, 1)) (k : J x cells slots ws' (pc + 1) lv st) : J x cells slots ws pc lv (va_rf (some v) :: .int i :: .ref a :: st) := by
  subst hw'
  exact fun H locs ls hP hD hS hl => va_astq h.1 h.2.1 h.K hP hD hS q0 t0 qk ci ha ht hv hc hin d (fun H1 l1 hP1 hD1 hS1 => k H1 l1 ls hP1 hD1 hS1 hl)
theorem J_aastO (h : Ok x cc own ret) {a n q0 t0 qk ci v : Nat} {cA : ClassId} {E : String} {vs : List Value} {r : vw_C} {f : Nat → Option Nat} {i : Int32} (ws' : va_W) (ha : ws[q0]? = some (a, .inl (cA, n, .inr (.inr (.inr (.inr f)))))) (ht : (tyL (xG x))[t0]? = some (cA, .object E)) (hca : va_Nw (.castable r.1 E) (xS x)) (hv : ws[qk]? = some (v, .inr (ci, vs))) (hc : clL[ci]? = some r) (hin : vp_in i n) (hw' : ws.set q0 (a, .inl (cA, n, .inr (.inr (.inr (.inr (va_up f i.toNatClampNeg (some v))))))) = ws') (d : decode cc pc = .ok (.aastore, 1)) (k : J x cells slots ws' (pc + 1) lv st) : J x cells slots ws pc lv (va_rf (some v) :: .int i :: .ref a :: st) := by
  subst hw'
  exact fun H locs ls hP hD hS hl => va_astqO h.1 h.2.1 h.K hP hD hS q0 t0 qk ci ha ht hca hv hc hin d (fun H1 l1 hP1 hD1 hS1 => k H1 l1 ls hP1 hD1 hS1 hl)
end JL
/-- a method's contract: from the world ws, with arguments As, it returns; Po says what, and the world behind it -/
def Con (l : Launch) (g : Gy) (y : MethodName) (cc : ByteArray) (nL : Nat) (ret : Option FieldType) (rm : Room) (As : List Value) (ws : va_W) (Po : Option Value → va_W → Prop) : Prop :=
  ∀ sz : Nat, Met l y (Cond.code y cc nL ret :: gd_tbl) rm (va_Pc As (fun U => U.heap.size = sz ∧ va_P g.1 clL ws U.heap ∧ Wk g U ∧ va_D (fun _ => True) ws))
    (fun _ s1 oc t => ∃ (r : Option Value) (ws' : va_W), oc = .returned r ∧ Po r ws' ∧ va_P g.1 clL ws' t.heap ∧ va_D (va_A ws sz) ws' ∧ va_F (va_A ws sz) s1 t) rm.cells rm.slots (va_A ws sz)
theorem Con.of {l : Launch} {g : Gy} {y : MethodName} {cc : ByteArray} {nL : Nat} {ret : Option FieldType} {rm : Room} {As : List Value} {ws : va_W} {Po : Option Value → va_W → Prop} (hy : plainName y.cls = true) (hn : (lg_sl As).length ≤ nL)
    (body : ∀ x : Cx, Ok x cc y.cls ret → xL x = l → xG x = g → xR x = rm → xN x = nL → ((xT x).name = y.name) → Rt x rm.cells rm.slots Po → J x 0 0 ws 0 (lv_args 0 As) []) : Con l g y cc nL ret rm As ws Po := by
  intro sz
  refine Met.ofW (cc := cc) (maxL := nL) (ret := ret) hy rfl ?_
  intro p e s m args below meth c s₁ B hml hv
  obtain ⟨rfl, hsz, hP, hK, hD0⟩ := hv
  subst hsz
  have hts := atoms_spec (ws := Cond.code y cc nL ret :: gd_tbl) B.pre
  have hl := lv_entry As (n := nL) hn
  rw [lg_entry_eq]
  refine body (p, l, e, rm, s, m, As.toArray, below, meth, c, g, va_A ws s.heap.size, MQ below (fun _ s1 oc t => ∃ (r : Option Value) (ws' : va_W), oc = .returned r ∧ Po r ws' ∧ va_P g.1 clL ws' t.heap ∧ va_D (va_A ws s.heap.size) ws' ∧ va_F (va_A ws s.heap.size) s1 t) As.toArray s rm.cells rm.slots (va_A ws s.heap.size), nL) ⟨B.exec, B.bytes, B.returns, hml, findClass_of_methodNamed B.named, fun w hw => hts w (List.mem_cons_of_mem _ hw), hK, B.notSynchronized, fun q h => Or.inr h⟩ rfl rfl rfl rfl (name_of_methodNamed B.named B.method).1 ⟨_, rfl, ?_⟩ s.heap [] _ hP hD0.self va_S.rf hl
  intro r ws' H locs t hp hP1 hD1 hS1 ht
  exact ⟨r, ws', rfl, hp, by rw [ht]; exact hP1, hD1, hS1.F ht⟩
/-- the word lists of callees are among those of callers -/
theorem gd_call {y : MethodName} {cc : ByteArray} {nL : Nat} {ret : Option FieldType} (hc : Cond.code y cc nL ret ∈ gd_tbl) : GoodIn gd_tbl (Cond.code y cc nL ret :: gd_tbl) := by
  intro w hw
  rcases List.mem_cons.mp hw with e | hw
  · subst e
    exact gd_good _ hc
  · exact gd_good w hw
theorem gd_app {pre ws : List Cond} (h1 : ∀ w ∈ pre, w ∈ gd_tbl) (h2 : GoodIn gd_tbl ws) : GoodIn gd_tbl (pre ++ ws) := by
  intro w hw
  rcases List.mem_append.mp hw with hw | hw
  · exact gd_good w (h1 w hw)
  · exact h2 w hw
end
