section
-- ===== PART A: goes FIRST, ahead of the names: the tables' words, and 'selects' of the private methods out of them =====
/-- a private method of a class that the tables say can be made, by its rows of tables_1 -/
def lw_okq (q : MethodName × Nat) : Prop := (q.1.cls ≠ "java/lang/invoke/MethodHandle" ∧ q.1.cls ≠ "java/lang/invoke/VarHandle") ∧ Cond.instantiable q.1.cls q.2 ∈ tables_1 ∧ Cond.privateMethod q.1 ∈ tables_1 ∧ Cond.instanceMethod q.1 ∈ tables_1
theorem lw_p0 : lw_okq (⟨"AppendOnlyTree", "makesRoom", "(II)Z"⟩, 6) := ⟨⟨by decide +kernel, by decide +kernel⟩, List.mem_of_getElem? (i := 8) (by decide +kernel), List.mem_of_getElem? (i := 121) (by decide +kernel), List.mem_of_getElem? (i := 122) (by decide +kernel)⟩
theorem lw_p1 : lw_okq (⟨"AppendOnlyTree", "countedSync", "()V"⟩, 6) := ⟨⟨by decide +kernel, by decide +kernel⟩, List.mem_of_getElem? (i := 8) (by decide +kernel), List.mem_of_getElem? (i := 125) (by decide +kernel), List.mem_of_getElem? (i := 126) (by decide +kernel)⟩
theorem lw_p2 : lw_okq (⟨"AppendOnlyTree", "startAfresh", "()V"⟩, 6) := ⟨⟨by decide +kernel, by decide +kernel⟩, List.mem_of_getElem? (i := 8) (by decide +kernel), List.mem_of_getElem? (i := 136) (by decide +kernel), List.mem_of_getElem? (i := 137) (by decide +kernel)⟩
theorem lw_p3 : lw_okq (⟨"AppendOnlyTree", "perform", "(IIIIII)V"⟩, 6) := ⟨⟨by decide +kernel, by decide +kernel⟩, List.mem_of_getElem? (i := 8) (by decide +kernel), List.mem_of_getElem? (i := 144) (by decide +kernel), List.mem_of_getElem? (i := 145) (by decide +kernel)⟩
theorem lw_p4 : lw_okq (⟨"AppendOnlyTree$Tree", "takeEntry", "(II)I"⟩, 6) := ⟨⟨by decide +kernel, by decide +kernel⟩, List.mem_of_getElem? (i := 22) (by decide +kernel), List.mem_of_getElem? (i := 174) (by decide +kernel), List.mem_of_getElem? (i := 175) (by decide +kernel)⟩
theorem lw_p5 : lw_okq (⟨"AppendOnlyTreeModel", "copy", "(II)V"⟩, 9) := ⟨⟨by decide +kernel, by decide +kernel⟩, List.mem_of_getElem? (i := 270) (by decide +kernel), List.mem_of_getElem? (i := 276) (by decide +kernel), List.mem_of_getElem? (i := 277) (by decide +kernel)⟩
theorem lw_p6 : lw_okq (⟨"AppendOnlyTreeModel", "attempt", "(IIIII)I"⟩, 9) := ⟨⟨by decide +kernel, by decide +kernel⟩, List.mem_of_getElem? (i := 270) (by decide +kernel), List.mem_of_getElem? (i := 315) (by decide +kernel), List.mem_of_getElem? (i := 316) (by decide +kernel)⟩
theorem lw_p7 : lw_okq (⟨"AppendOnlyTreeModel", "objection", "(IIIII)I"⟩, 9) := ⟨⟨by decide +kernel, by decide +kernel⟩, List.mem_of_getElem? (i := 270) (by decide +kernel), List.mem_of_getElem? (i := 319) (by decide +kernel), List.mem_of_getElem? (i := 320) (by decide +kernel)⟩
theorem lw_p8 : lw_okq (⟨"AppendOnlyTreeModel", "isDir", "(I)Z"⟩, 9) := ⟨⟨by decide +kernel, by decide +kernel⟩, List.mem_of_getElem? (i := 270) (by decide +kernel), List.mem_of_getElem? (i := 323) (by decide +kernel), List.mem_of_getElem? (i := 324) (by decide +kernel)⟩
theorem lw_p9 : lw_okq (⟨"AppendOnlyTreeModel", "entryCount", "(I)I"⟩, 9) := ⟨⟨by decide +kernel, by decide +kernel⟩, List.mem_of_getElem? (i := 270) (by decide +kernel), List.mem_of_getElem? (i := 327) (by decide +kernel), List.mem_of_getElem? (i := 328) (by decide +kernel)⟩
theorem lw_p10 : lw_okq (⟨"AppendOnlyTreeModel", "nodes", "()I"⟩, 9) := ⟨⟨by decide +kernel, by decide +kernel⟩, List.mem_of_getElem? (i := 270) (by decide +kernel), List.mem_of_getElem? (i := 331) (by decide +kernel), List.mem_of_getElem? (i := 332) (by decide +kernel)⟩
theorem lw_p11 : lw_okq (⟨"AppendOnlyTreeModel", "liesIn", "(II)Z"⟩, 9) := ⟨⟨by decide +kernel, by decide +kernel⟩, List.mem_of_getElem? (i := 270) (by decide +kernel), List.mem_of_getElem? (i := 335) (by decide +kernel), List.mem_of_getElem? (i := 336) (by decide +kernel)⟩
theorem lw_p12 : lw_okq (⟨"AppendOnlyTreeModel", "cost", "(IIII)I"⟩, 9) := ⟨⟨by decide +kernel, by decide +kernel⟩, List.mem_of_getElem? (i := 270) (by decide +kernel), List.mem_of_getElem? (i := 339) (by decide +kernel), List.mem_of_getElem? (i := 340) (by decide +kernel)⟩
theorem lw_p13 : lw_okq (⟨"AppendOnlyTreeModel", "links", "(I)I"⟩, 9) := ⟨⟨by decide +kernel, by decide +kernel⟩, List.mem_of_getElem? (i := 270) (by decide +kernel), List.mem_of_getElem? (i := 343) (by decide +kernel), List.mem_of_getElem? (i := 344) (by decide +kernel)⟩
theorem lw_p14 : lw_okq (⟨"AppendOnlyTreeModel", "settle", "()V"⟩, 9) := ⟨⟨by decide +kernel, by decide +kernel⟩, List.mem_of_getElem? (i := 270) (by decide +kernel), List.mem_of_getElem? (i := 351) (by decide +kernel), List.mem_of_getElem? (i := 352) (by decide +kernel)⟩
theorem lw_p15 : lw_okq (⟨"AppendOnlyTreeModel", "live", "()I"⟩, 9) := ⟨⟨by decide +kernel, by decide +kernel⟩, List.mem_of_getElem? (i := 270) (by decide +kernel), List.mem_of_getElem? (i := 355) (by decide +kernel), List.mem_of_getElem? (i := 356) (by decide +kernel)⟩
def lw_privs_1 : List (MethodName × Nat) := [(⟨"AppendOnlyTree", "makesRoom", "(II)Z"⟩, 6), (⟨"AppendOnlyTree", "countedSync", "()V"⟩, 6), (⟨"AppendOnlyTree", "startAfresh", "()V"⟩, 6), (⟨"AppendOnlyTree", "perform", "(IIIIII)V"⟩, 6), (⟨"AppendOnlyTree$Tree", "takeEntry", "(II)I"⟩, 6), (⟨"AppendOnlyTreeModel", "copy", "(II)V"⟩, 9), (⟨"AppendOnlyTreeModel", "attempt", "(IIIII)I"⟩, 9), (⟨"AppendOnlyTreeModel", "objection", "(IIIII)I"⟩, 9), (⟨"AppendOnlyTreeModel", "isDir", "(I)Z"⟩, 9), (⟨"AppendOnlyTreeModel", "entryCount", "(I)I"⟩, 9), (⟨"AppendOnlyTreeModel", "nodes", "()I"⟩, 9), (⟨"AppendOnlyTreeModel", "liesIn", "(II)Z"⟩, 9), (⟨"AppendOnlyTreeModel", "cost", "(IIII)I"⟩, 9), (⟨"AppendOnlyTreeModel", "links", "(I)I"⟩, 9), (⟨"AppendOnlyTreeModel", "settle", "()V"⟩, 9), (⟨"AppendOnlyTreeModel", "live", "()I"⟩, 9)]
theorem lw_r1 : ∀ q ∈ lw_privs_1, lw_okq q := List.forall_mem_cons.mpr ⟨lw_p0, List.forall_mem_cons.mpr ⟨lw_p1, List.forall_mem_cons.mpr ⟨lw_p2, List.forall_mem_cons.mpr ⟨lw_p3, List.forall_mem_cons.mpr ⟨lw_p4, List.forall_mem_cons.mpr ⟨lw_p5, List.forall_mem_cons.mpr ⟨lw_p6, List.forall_mem_cons.mpr ⟨lw_p7, List.forall_mem_cons.mpr ⟨lw_p8, List.forall_mem_cons.mpr ⟨lw_p9, List.forall_mem_cons.mpr ⟨lw_p10, List.forall_mem_cons.mpr ⟨lw_p11, List.forall_mem_cons.mpr ⟨lw_p12, List.forall_mem_cons.mpr ⟨lw_p13, List.forall_mem_cons.mpr ⟨lw_p14, List.forall_mem_cons.mpr ⟨lw_p15, fun _ h => absurd h List.not_mem_nil⟩⟩⟩⟩⟩⟩⟩⟩⟩⟩⟩⟩⟩⟩⟩⟩
theorem lw_p16 : lw_okq (⟨"AppendOnlyTreeModel", "perform", "(IIIII)I"⟩, 9) := ⟨⟨by decide +kernel, by decide +kernel⟩, List.mem_of_getElem? (i := 270) (by decide +kernel), List.mem_of_getElem? (i := 359) (by decide +kernel), List.mem_of_getElem? (i := 360) (by decide +kernel)⟩
theorem lw_p17 : lw_okq (⟨"AppendOnlyTreeModel", "leastAbsent", "()I"⟩, 9) := ⟨⟨by decide +kernel, by decide +kernel⟩, List.mem_of_getElem? (i := 270) (by decide +kernel), List.mem_of_getElem? (i := 363) (by decide +kernel), List.mem_of_getElem? (i := 364) (by decide +kernel)⟩
def lw_privs_2 : List (MethodName × Nat) := [(⟨"AppendOnlyTreeModel", "perform", "(IIIII)I"⟩, 9), (⟨"AppendOnlyTreeModel", "leastAbsent", "()I"⟩, 9)]
theorem lw_r2 : ∀ q ∈ lw_privs_2, lw_okq q := List.forall_mem_cons.mpr ⟨lw_p16, List.forall_mem_cons.mpr ⟨lw_p17, fun _ h => absurd h List.not_mem_nil⟩⟩
def lw_privs : List (MethodName × Nat) := lw_privs_1 ++ (lw_privs_2)
def lw_tbl : List Cond := k2_sels lw_privs ++ tables_1
theorem lw_privs_ok : ∀ q ∈ lw_privs, lw_okq q := by
  show ∀ q ∈ lw_privs_1 ++ (lw_privs_2), lw_okq q
  exact List.forall_mem_append.mpr ⟨lw_r1, lw_r2⟩
end
section
def wT : List Cond := lw_tbl.filter goodWord
theorem wT_in {w : Cond} (h : w ∈ wT) : w ∈ lw_tbl := (List.mem_filter.mp h).1
theorem wT_g {w : Cond} (h : w ∈ wT) : goodWord w = true := (List.mem_filter.mp h).2
theorem lw_a {w : Cond} (h : w ∈ tables_1_1) (g : goodWord w = true) : w ∈ wT := List.mem_filter.mpr ⟨List.mem_append_right _ (List.mem_append_left _ h), g⟩
theorem lw_b {w : Cond} (h : w ∈ tables_1_2) (g : goodWord w = true) : w ∈ wT := List.mem_filter.mpr ⟨List.mem_append_right _ (List.mem_append_right _ h), g⟩
theorem lw_s {w : Cond} (h : w ∈ k2_sels lw_privs) (g : goodWord w = true) : w ∈ wT := List.mem_filter.mpr ⟨List.mem_append_left _ h, g⟩
theorem mc {a w : Cond} (h : w ∈ wT) : w ∈ a :: wT := List.mem_cons_of_mem _ h
theorem gIn {a : Cond} {ws : List Cond} (h : ∀ w ∈ ws, w ∈ wT) : GoodIn (a :: wT) ws := fun w hw => ⟨mc (h w hw), good_of_word (wT_g (h w hw))⟩
theorem gInL {ws : List Cond} (h : ∀ w ∈ ws, w ∈ wT) : GoodIn lw_tbl ws := fun w hw => ⟨wT_in (h w hw), good_of_word (wT_g (h w hw))⟩
theorem memV {own C : String} {idx n : Nat} {y : MethodName} {c : ByteArray} {r : Option FieldType} (h1 : Cond.methodLink own idx y ∈ wT) (h2 : Cond.instanceMethod y ∈ wT) (h3 : Cond.selects C y y ∈ wT) (h4 : Cond.initialized C ∈ wT) (h5 : Cond.code y c n r ∈ wT) : ∀ w ∈ wsV own idx C y (Cond.code y c n r :: wT), w ∈ wT := by
  intro w hw
  unfold wsV at hw
  rcases List.mem_append.mp hw with h | h
  · rcases List.mem_cons.mp h with rfl | h
    · exact h1
    rcases List.mem_cons.mp h with rfl | h
    · exact h2
    rcases List.mem_cons.mp h with rfl | h
    · exact h3
    rcases List.mem_cons.mp h with rfl | h
    · exact h4
    · cases h
  · rcases List.mem_cons.mp h with rfl | h
    · exact h5
    · exact h
theorem memS {own : String} {idx n : Nat} {y : MethodName} {c : ByteArray} {r : Option FieldType} (h1 : Cond.methodLink own idx y ∈ wT) (h2 : Cond.static y ∈ wT) (h4 : Cond.initialized own ∈ wT) (h5 : Cond.code y c n r ∈ wT) : ∀ w ∈ wsS own idx y (Cond.code y c n r :: wT), w ∈ wT := by
  intro w hw
  unfold wsS at hw
  rcases List.mem_append.mp hw with h | h
  · rcases List.mem_cons.mp h with rfl | h
    · exact h1
    rcases List.mem_cons.mp h with rfl | h
    · exact h2
    rcases List.mem_cons.mp h with rfl | h
    · exact h4
    · cases h
  · rcases List.mem_cons.mp h with rfl | h
    · exact h5
    · exact h
theorem memI {n : Nat} {y : MethodName} {c : ByteArray} {r : Option FieldType} (h5 : Cond.code y c n r ∈ wT) : ∀ w ∈ (Cond.code y c n r :: wT), w ∈ wT := by
  intro w h
  rcases List.mem_cons.mp h with rfl | h
  · exact h5
  · exact h
abbrev RX0 : String := "AppendOnlyTree$Log"
def TX0 : u_T := fun k => match k with
  | 0 => ("AppendOnlyTree$Log", "rows", "[I", true)
  | _ => ("AppendOnlyTree$Log", "length", "I", false)
def tyX0 : Nat → FieldType := fun k => match k with
  | 0 => .array .int
  | _ => .int
abbrev wsX00 : List Cond := u_ws RX0 TX0 2
theorem nmX0 : ∀ a, a < 2 → ∀ b, b < 2 → a ≠ b → (TX0 a).2.1 ≠ (TX0 b).2.1 := by decide +kernel
theorem inX0 : ∀ w ∈ wsX00, w ∈ wT := by decide +kernel
theorem tyX0_ok : ∀ k, k < 2 → parseFieldDescriptor (TX0 k).2.2.1 = some (tyX0 k) := by decide +kernel
abbrev RX1 : String := "AppendOnlyTree$Tree"
def TX1 : u_T := fun k => match k with
  | 0 => ("AppendOnlyTree$Tree", "kinds", "[I", true)
  | 1 => ("AppendOnlyTree$Tree", "sizes", "[I", true)
  | 2 => ("AppendOnlyTree$Tree", "links", "[I", true)
  | 3 => ("AppendOnlyTree$Tree", "homes", "[I", true)
  | 4 => ("AppendOnlyTree$Tree", "targets", "[I", true)
  | _ => ("AppendOnlyTree$Tree", "values", "[I", true)
def tyX1 : Nat → FieldType := fun k => match k with
  | 0 => .array .int
  | 1 => .array .int
  | 2 => .array .int
  | 3 => .array .int
  | 4 => .array .int
  | _ => .array .int
abbrev wsX10 : List Cond := u_ws RX1 TX1 6
theorem nmX1 : ∀ a, a < 6 → ∀ b, b < 6 → a ≠ b → (TX1 a).2.1 ≠ (TX1 b).2.1 := by decide +kernel
theorem inX1 : ∀ w ∈ wsX10, w ∈ wT := by decide +kernel
theorem tyX1_ok : ∀ k, k < 6 → parseFieldDescriptor (TX1 k).2.2.1 = some (tyX1 k) := by decide +kernel
abbrev RX2 : String := "AppendOnlyTree"
def TX2 : u_T := fun k => match k with
  | 0 => ("AppendOnlyTree", "limit", "I", true)
  | 1 => ("AppendOnlyTree", "tree", "LAppendOnlyTree$Tree;", true)
  | 2 => ("AppendOnlyTree", "safe", "LAppendOnlyTree$Tree;", true)
  | 3 => ("AppendOnlyTree", "log", "LAppendOnlyTree$Log;", true)
  | 4 => ("AppendOnlyTree", "kept", "I", false)
  | _ => ("AppendOnlyTree", "syncs", "I", false)
def tyX2 : Nat → FieldType := fun k => match k with
  | 0 => .int
  | 1 => .object "AppendOnlyTree$Tree"
  | 2 => .object "AppendOnlyTree$Tree"
  | 3 => .object "AppendOnlyTree$Log"
  | 4 => .int
  | _ => .int
abbrev wsX20 : List Cond := u_ws RX2 TX2 6
theorem nmX2 : ∀ a, a < 6 → ∀ b, b < 6 → a ≠ b → (TX2 a).2.1 ≠ (TX2 b).2.1 := by decide +kernel
theorem inX2 : ∀ w ∈ wsX20, w ∈ wT := by decide +kernel
theorem tyX2_ok : ∀ k, k < 6 → parseFieldDescriptor (TX2 k).2.2.1 = some (tyX2 k) := by decide +kernel
abbrev RX3 : String := "AppendOnlyTreeModel"
def TX3 : u_T := fun k => match k with
  | 0 => ("AppendOnlyTreeModel", "limit", "I", true)
  | 1 => ("AppendOnlyTreeModel", "kind", "[I", true)
  | 2 => ("AppendOnlyTreeModel", "size", "[I", true)
  | 3 => ("AppendOnlyTreeModel", "content", "[I", true)
  | 4 => ("AppendOnlyTreeModel", "entries", "[I", true)
  | 5 => ("AppendOnlyTreeModel", "kept", "I", false)
  | 6 => ("AppendOnlyTreeModel", "syncs", "I", false)
  | 7 => ("AppendOnlyTreeModel", "changes", "I", false)
  | _ => ("AppendOnlyTreeModel", "change", "[I", true)
def tyX3 : Nat → FieldType := fun k => match k with
  | 0 => .int
  | 1 => .array .int
  | 2 => .array .int
  | 3 => .array .int
  | 4 => .array .int
  | 5 => .int
  | 6 => .int
  | 7 => .int
  | _ => .array .int
abbrev wsX30 : List Cond := u_ws RX3 TX3 9
theorem nmX3 : ∀ a, a < 9 → ∀ b, b < 9 → a ≠ b → (TX3 a).2.1 ≠ (TX3 b).2.1 := by decide +kernel
theorem inX3 : ∀ w ∈ wsX30, w ∈ wT := by decide +kernel
theorem tyX3_ok : ∀ k, k < 9 → parseFieldDescriptor (TX3 k).2.2.1 = some (tyX3 k) := by decide +kernel
abbrev RL : String := "AppendOnlyTreeLaw"
abbrev vwCl : List vw_C := [(RX0, TX0, 2), (RX1, TX1, 6), (RX2, TX2, 6), (RX3, TX3, 9)]
abbrev cX2_init : ByteArray := prog_1_method_1_code
abbrev yX2_init : MethodName := ⟨"AppendOnlyTree", "<init>", "(I)V"⟩
abbrev wsX2_init : List Cond := .code yX2_init cX2_init 3 none :: wT
abbrev cX2_create : ByteArray := prog_1_method_2_code
abbrev yX2_create : MethodName := ⟨"AppendOnlyTree", "create", "(IIZ)I"⟩
abbrev wsX2_create : List Cond := .code yX2_create cX2_create 6 (some .int) :: wT
abbrev cX2_link : ByteArray := prog_1_method_3_code
abbrev yX2_link : MethodName := ⟨"AppendOnlyTree", "link", "(III)I"⟩
abbrev wsX2_link : List Cond := .code yX2_link cX2_link 5 (some .int) :: wT
abbrev cX2_remove : ByteArray := prog_1_method_4_code
abbrev yX2_remove : MethodName := ⟨"AppendOnlyTree", "remove", "(II)I"⟩
abbrev wsX2_remove : List Cond := .code yX2_remove cX2_remove 6 (some .int) :: wT
abbrev cX2_rename : ByteArray := prog_1_method_5_code
abbrev yX2_rename : MethodName := ⟨"AppendOnlyTree", "rename", "(IIII)I"⟩
abbrev wsX2_rename : List Cond := .code yX2_rename cX2_rename 6 (some .int) :: wT
abbrev cX2_write : ByteArray := prog_1_method_6_code
abbrev yX2_write : MethodName := ⟨"AppendOnlyTree", "write", "(III)I"⟩
abbrev wsX2_write : List Cond := .code yX2_write cX2_write 5 (some .int) :: wT
abbrev cX2_cut : ByteArray := prog_1_method_7_code
abbrev yX2_cut : MethodName := ⟨"AppendOnlyTree", "cut", "(II)I"⟩
abbrev wsX2_cut : List Cond := .code yX2_cut cX2_cut 4 (some .int) :: wT
abbrev cX2_sync : ByteArray := prog_1_method_8_code
abbrev yX2_sync : MethodName := ⟨"AppendOnlyTree", "sync", "()I"⟩
abbrev wsX2_sync : List Cond := .code yX2_sync cX2_sync 1 (some .int) :: wT
abbrev cX2_crash : ByteArray := prog_1_method_9_code
abbrev yX2_crash : MethodName := ⟨"AppendOnlyTree", "crash", "(I)I"⟩
abbrev wsX2_crash : List Cond := .code yX2_crash cX2_crash 4 (some .int) :: wT
abbrev cX2_find : ByteArray := prog_1_method_10_code
abbrev yX2_find : MethodName := ⟨"AppendOnlyTree", "find", "(II)I"⟩
abbrev wsX2_find : List Cond := .code yX2_find cX2_find 3 (some .int) :: wT
abbrev cX2_entry : ByteArray := prog_1_method_11_code
abbrev yX2_entry : MethodName := ⟨"AppendOnlyTree", "entry", "(II)I"⟩
abbrev wsX2_entry : List Cond := .code yX2_entry cX2_entry 3 (some .int) :: wT
abbrev cX2_read : ByteArray := prog_1_method_12_code
abbrev yX2_read : MethodName := ⟨"AppendOnlyTree", "read", "(II)J"⟩
abbrev wsX2_read : List Cond := .code yX2_read cX2_read 3 (some .long) :: wT
abbrev cX2_tell : ByteArray := prog_1_method_13_code
abbrev yX2_tell : MethodName := ⟨"AppendOnlyTree", "tell", "(II)I"⟩
abbrev wsX2_tell : List Cond := .code yX2_tell cX2_tell 3 (some .int) :: wT
abbrev cX2_count : ByteArray := prog_1_method_14_code
abbrev yX2_count : MethodName := ⟨"AppendOnlyTree", "count", "(I)I"⟩
abbrev wsX2_count : List Cond := .code yX2_count cX2_count 2 (some .int) :: wT
abbrev cX2_isNode : ByteArray := prog_1_method_15_code
abbrev yX2_isNode : MethodName := ⟨"AppendOnlyTree", "isNode", "(I)Z"⟩
abbrev wsX2_isNode : List Cond := .code yX2_isNode cX2_isNode 1 (some .boolean) :: wT
abbrev cX2_isName : ByteArray := prog_1_method_16_code
abbrev yX2_isName : MethodName := ⟨"AppendOnlyTree", "isName", "(I)Z"⟩
abbrev wsX2_isName : List Cond := .code yX2_isName cX2_isName 1 (some .boolean) :: wT
abbrev cX2_costOf : ByteArray := prog_1_method_17_code
abbrev yX2_costOf : MethodName := ⟨"AppendOnlyTree", "costOf", "(II)I"⟩
abbrev wsX2_costOf : List Cond := .code yX2_costOf cX2_costOf 2 (some .int) :: wT
abbrev cX2_makesRoom : ByteArray := prog_1_method_18_code
abbrev yX2_makesRoom : MethodName := ⟨"AppendOnlyTree", "makesRoom", "(II)Z"⟩
abbrev wsX2_makesRoom : List Cond := .code yX2_makesRoom cX2_makesRoom 3 (some .boolean) :: wT
abbrev cX2_perform : ByteArray := prog_1_method_19_code
abbrev yX2_perform : MethodName := ⟨"AppendOnlyTree", "perform", "(IIIIII)V"⟩
abbrev wsX2_perform : List Cond := .code yX2_perform cX2_perform 7 none :: wT
abbrev cX2_countedSync : ByteArray := prog_1_method_20_code
abbrev yX2_countedSync : MethodName := ⟨"AppendOnlyTree", "countedSync", "()V"⟩
abbrev wsX2_countedSync : List Cond := .code yX2_countedSync cX2_countedSync 1 none :: wT
abbrev cX2_startAfresh : ByteArray := prog_1_method_21_code
abbrev yX2_startAfresh : MethodName := ⟨"AppendOnlyTree", "startAfresh", "()V"⟩
abbrev wsX2_startAfresh : List Cond := .code yX2_startAfresh cX2_startAfresh 1 none :: wT
abbrev cX3_init : ByteArray := prog_5_method_1_code
abbrev yX3_init : MethodName := ⟨"AppendOnlyTreeModel", "<init>", "(I)V"⟩
abbrev wsX3_init : List Cond := .code yX3_init cX3_init 4 none :: wT
abbrev cX3_copy : ByteArray := prog_5_method_2_code
abbrev yX3_copy : MethodName := ⟨"AppendOnlyTreeModel", "copy", "(II)V"⟩
abbrev wsX3_copy : List Cond := .code yX3_copy cX3_copy 4 none :: wT
abbrev cX3_out : ByteArray := prog_5_method_3_code
abbrev yX3_out : MethodName := ⟨"AppendOnlyTreeModel", "out", "(II)Z"⟩
abbrev wsX3_out : List Cond := .code yX3_out cX3_out 2 (some .boolean) :: wT
abbrev cX3_live : ByteArray := prog_5_method_4_code
abbrev yX3_live : MethodName := ⟨"AppendOnlyTreeModel", "live", "()I"⟩
abbrev wsX3_live : List Cond := .code yX3_live cX3_live 3 (some .int) :: wT
abbrev cX3_nodes : ByteArray := prog_5_method_5_code
abbrev yX3_nodes : MethodName := ⟨"AppendOnlyTreeModel", "nodes", "()I"⟩
abbrev wsX3_nodes : List Cond := .code yX3_nodes cX3_nodes 3 (some .int) :: wT
abbrev cX3_entryCount : ByteArray := prog_5_method_6_code
abbrev yX3_entryCount : MethodName := ⟨"AppendOnlyTreeModel", "entryCount", "(I)I"⟩
abbrev wsX3_entryCount : List Cond := .code yX3_entryCount cX3_entryCount 4 (some .int) :: wT
abbrev cX3_links : ByteArray := prog_5_method_7_code
abbrev yX3_links : MethodName := ⟨"AppendOnlyTreeModel", "links", "(I)I"⟩
abbrev wsX3_links : List Cond := .code yX3_links cX3_links 4 (some .int) :: wT
abbrev cX3_isDir : ByteArray := prog_5_method_8_code
abbrev yX3_isDir : MethodName := ⟨"AppendOnlyTreeModel", "isDir", "(I)Z"⟩
abbrev wsX3_isDir : List Cond := .code yX3_isDir cX3_isDir 2 (some .boolean) :: wT
abbrev cX3_liesIn : ByteArray := prog_5_method_9_code
abbrev yX3_liesIn : MethodName := ⟨"AppendOnlyTreeModel", "liesIn", "(II)Z"⟩
abbrev wsX3_liesIn : List Cond := .code yX3_liesIn cX3_liesIn 7 (some .boolean) :: wT
abbrev cX3_leastAbsent : ByteArray := prog_5_method_10_code
abbrev yX3_leastAbsent : MethodName := ⟨"AppendOnlyTreeModel", "leastAbsent", "()I"⟩
abbrev wsX3_leastAbsent : List Cond := .code yX3_leastAbsent cX3_leastAbsent 2 (some .int) :: wT
abbrev cX3_objection : ByteArray := prog_5_method_11_code
abbrev yX3_objection : MethodName := ⟨"AppendOnlyTreeModel", "objection", "(IIIII)I"⟩
abbrev wsX3_objection : List Cond := .code yX3_objection cX3_objection 6 (some .int) :: wT
abbrev cX3_cost : ByteArray := prog_5_method_12_code
abbrev yX3_cost : MethodName := ⟨"AppendOnlyTreeModel", "cost", "(IIII)I"⟩
abbrev wsX3_cost : List Cond := .code yX3_cost cX3_cost 5 (some .int) :: wT
abbrev cX3_perform : ByteArray := prog_5_method_13_code
abbrev yX3_perform : MethodName := ⟨"AppendOnlyTreeModel", "perform", "(IIIII)I"⟩
abbrev wsX3_perform : List Cond := .code yX3_perform cX3_perform 7 (some .int) :: wT
abbrev cX3_settle : ByteArray := prog_5_method_14_code
abbrev yX3_settle : MethodName := ⟨"AppendOnlyTreeModel", "settle", "()V"⟩
abbrev wsX3_settle : List Cond := .code yX3_settle cX3_settle 1 none :: wT
abbrev cX3_attempt : ByteArray := prog_5_method_15_code
abbrev yX3_attempt : MethodName := ⟨"AppendOnlyTreeModel", "attempt", "(IIIII)I"⟩
abbrev wsX3_attempt : List Cond := .code yX3_attempt cX3_attempt 10 (some .int) :: wT
abbrev cX3_create : ByteArray := prog_5_method_16_code
abbrev yX3_create : MethodName := ⟨"AppendOnlyTreeModel", "create", "(IIZ)I"⟩
abbrev wsX3_create : List Cond := .code yX3_create cX3_create 4 (some .int) :: wT
abbrev cX3_link : ByteArray := prog_5_method_17_code
abbrev yX3_link : MethodName := ⟨"AppendOnlyTreeModel", "link", "(III)I"⟩
abbrev wsX3_link : List Cond := .code yX3_link cX3_link 4 (some .int) :: wT
abbrev cX3_remove : ByteArray := prog_5_method_18_code
abbrev yX3_remove : MethodName := ⟨"AppendOnlyTreeModel", "remove", "(II)I"⟩
abbrev wsX3_remove : List Cond := .code yX3_remove cX3_remove 3 (some .int) :: wT
abbrev cX3_rename : ByteArray := prog_5_method_19_code
abbrev yX3_rename : MethodName := ⟨"AppendOnlyTreeModel", "rename", "(IIII)I"⟩
abbrev wsX3_rename : List Cond := .code yX3_rename cX3_rename 5 (some .int) :: wT
abbrev cX3_write : ByteArray := prog_5_method_20_code
abbrev yX3_write : MethodName := ⟨"AppendOnlyTreeModel", "write", "(III)I"⟩
abbrev wsX3_write : List Cond := .code yX3_write cX3_write 4 (some .int) :: wT
abbrev cX3_cut : ByteArray := prog_5_method_21_code
abbrev yX3_cut : MethodName := ⟨"AppendOnlyTreeModel", "cut", "(II)I"⟩
abbrev wsX3_cut : List Cond := .code yX3_cut cX3_cut 3 (some .int) :: wT
abbrev cX3_sync : ByteArray := prog_5_method_22_code
abbrev yX3_sync : MethodName := ⟨"AppendOnlyTreeModel", "sync", "()I"⟩
abbrev wsX3_sync : List Cond := .code yX3_sync cX3_sync 1 (some .int) :: wT
abbrev cX3_crash : ByteArray := prog_5_method_23_code
abbrev yX3_crash : MethodName := ⟨"AppendOnlyTreeModel", "crash", "(I)I"⟩
abbrev wsX3_crash : List Cond := .code yX3_crash cX3_crash 4 (some .int) :: wT
abbrev cX3_find : ByteArray := prog_5_method_24_code
abbrev yX3_find : MethodName := ⟨"AppendOnlyTreeModel", "find", "(II)I"⟩
abbrev wsX3_find : List Cond := .code yX3_find cX3_find 3 (some .int) :: wT
abbrev cX3_entry : ByteArray := prog_5_method_25_code
abbrev yX3_entry : MethodName := ⟨"AppendOnlyTreeModel", "entry", "(II)I"⟩
abbrev wsX3_entry : List Cond := .code yX3_entry cX3_entry 5 (some .int) :: wT
abbrev cX3_read : ByteArray := prog_5_method_26_code
abbrev yX3_read : MethodName := ⟨"AppendOnlyTreeModel", "read", "(II)J"⟩
abbrev wsX3_read : List Cond := .code yX3_read cX3_read 3 (some .long) :: wT
abbrev cX3_tell : ByteArray := prog_5_method_27_code
abbrev yX3_tell : MethodName := ⟨"AppendOnlyTreeModel", "tell", "(II)I"⟩
abbrev wsX3_tell : List Cond := .code yX3_tell cX3_tell 3 (some .int) :: wT
abbrev cX3_count : ByteArray := prog_5_method_28_code
abbrev yX3_count : MethodName := ⟨"AppendOnlyTreeModel", "count", "(I)I"⟩
abbrev wsX3_count : List Cond := .code yX3_count cX3_count 2 (some .int) :: wT
abbrev cX0_init : ByteArray := prog_2_method_1_code
abbrev yX0_init : MethodName := ⟨"AppendOnlyTree$Log", "<init>", "()V"⟩
abbrev wsX0_init : List Cond := .code yX0_init cX0_init 1 none :: wT
abbrev cX0_length : ByteArray := prog_2_method_2_code
abbrev yX0_length : MethodName := ⟨"AppendOnlyTree$Log", "length", "()I"⟩
abbrev wsX0_length : List Cond := .code yX0_length cX0_length 1 (some .int) :: wT
abbrev cX0_clear : ByteArray := prog_2_method_3_code
abbrev yX0_clear : MethodName := ⟨"AppendOnlyTree$Log", "clear", "()V"⟩
abbrev wsX0_clear : List Cond := .code yX0_clear cX0_clear 1 none :: wT
abbrev cX0_append : ByteArray := prog_2_method_4_code
abbrev yX0_append : MethodName := ⟨"AppendOnlyTree$Log", "append", "(IIIII)V"⟩
abbrev wsX0_append : List Cond := .code yX0_append cX0_append 7 none :: wT
abbrev cX0_redo : ByteArray := prog_2_method_5_code
abbrev yX0_redo : MethodName := ⟨"AppendOnlyTree$Log", "redo", "(ILAppendOnlyTree$Tree;)V"⟩
abbrev wsX0_redo : List Cond := .code yX0_redo cX0_redo 8 none :: wT
abbrev cX1_init : ByteArray := prog_3_method_1_code
abbrev yX1_init : MethodName := ⟨"AppendOnlyTree$Tree", "<init>", "()V"⟩
abbrev wsX1_init : List Cond := .code yX1_init cX1_init 1 none :: wT
abbrev cX1_copyFrom : ByteArray := prog_3_method_2_code
abbrev yX1_copyFrom : MethodName := ⟨"AppendOnlyTree$Tree", "copyFrom", "(LAppendOnlyTree$Tree;)V"⟩
abbrev wsX1_copyFrom : List Cond := .code yX1_copyFrom cX1_copyFrom 2 none :: wT
abbrev cX1_kind : ByteArray := prog_3_method_3_code
abbrev yX1_kind : MethodName := ⟨"AppendOnlyTree$Tree", "kind", "(I)I"⟩
abbrev wsX1_kind : List Cond := .code yX1_kind cX1_kind 2 (some .int) :: wT
abbrev cX1_isFile : ByteArray := prog_3_method_4_code
abbrev yX1_isFile : MethodName := ⟨"AppendOnlyTree$Tree", "isFile", "(I)Z"⟩
abbrev wsX1_isFile : List Cond := .code yX1_isFile cX1_isFile 2 (some .boolean) :: wT
abbrev cX1_isDirectory : ByteArray := prog_3_method_5_code
abbrev yX1_isDirectory : MethodName := ⟨"AppendOnlyTree$Tree", "isDirectory", "(I)Z"⟩
abbrev wsX1_isDirectory : List Cond := .code yX1_isDirectory cX1_isDirectory 2 (some .boolean) :: wT
abbrev cX1_size : ByteArray := prog_3_method_6_code
abbrev yX1_size : MethodName := ⟨"AppendOnlyTree$Tree", "size", "(I)I"⟩
abbrev wsX1_size : List Cond := .code yX1_size cX1_size 2 (some .int) :: wT
abbrev cX1_links : ByteArray := prog_3_method_7_code
abbrev yX1_links : MethodName := ⟨"AppendOnlyTree$Tree", "links", "(I)I"⟩
abbrev wsX1_links : List Cond := .code yX1_links cX1_links 2 (some .int) :: wT
abbrev cX1_target : ByteArray := prog_3_method_8_code
abbrev yX1_target : MethodName := ⟨"AppendOnlyTree$Tree", "target", "(II)I"⟩
abbrev wsX1_target : List Cond := .code yX1_target cX1_target 3 (some .int) :: wT
abbrev cX1_value : ByteArray := prog_3_method_9_code
abbrev yX1_value : MethodName := ⟨"AppendOnlyTree$Tree", "value", "(II)I"⟩
abbrev wsX1_value : List Cond := .code yX1_value cX1_value 3 (some .int) :: wT
abbrev cX1_nthName : ByteArray := prog_3_method_10_code
abbrev yX1_nthName : MethodName := ⟨"AppendOnlyTree$Tree", "nthName", "(II)I"⟩
abbrev wsX1_nthName : List Cond := .code yX1_nthName cX1_nthName 5 (some .int) :: wT
abbrev cX1_leastFreeNode : ByteArray := prog_3_method_11_code
abbrev yX1_leastFreeNode : MethodName := ⟨"AppendOnlyTree$Tree", "leastFreeNode", "()I"⟩
abbrev wsX1_leastFreeNode : List Cond := .code yX1_leastFreeNode cX1_leastFreeNode 2 (some .int) :: wT
abbrev cX1_nodesThere : ByteArray := prog_3_method_12_code
abbrev yX1_nodesThere : MethodName := ⟨"AppendOnlyTree$Tree", "nodesThere", "()I"⟩
abbrev wsX1_nodesThere : List Cond := .code yX1_nodesThere cX1_nodesThere 3 (some .int) :: wT
abbrev cX1_blocks : ByteArray := prog_3_method_13_code
abbrev yX1_blocks : MethodName := ⟨"AppendOnlyTree$Tree", "blocks", "(I)I"⟩
abbrev wsX1_blocks : List Cond := .code yX1_blocks cX1_blocks 2 (some .int) :: wT
abbrev cX1_live : ByteArray := prog_3_method_14_code
abbrev yX1_live : MethodName := ⟨"AppendOnlyTree$Tree", "live", "()I"⟩
abbrev wsX1_live : List Cond := .code yX1_live cX1_live 3 (some .int) :: wT
abbrev cX1_liesIn : ByteArray := prog_3_method_15_code
abbrev yX1_liesIn : MethodName := ⟨"AppendOnlyTree$Tree", "liesIn", "(II)Z"⟩
abbrev wsX1_liesIn : List Cond := .code yX1_liesIn cX1_liesIn 5 (some .boolean) :: wT
abbrev cX1_addNode : ByteArray := prog_3_method_16_code
abbrev yX1_addNode : MethodName := ⟨"AppendOnlyTree$Tree", "addNode", "(III)V"⟩
abbrev wsX1_addNode : List Cond := .code yX1_addNode cX1_addNode 5 none :: wT
abbrev cX1_addEntry : ByteArray := prog_3_method_17_code
abbrev yX1_addEntry : MethodName := ⟨"AppendOnlyTree$Tree", "addEntry", "(III)V"⟩
abbrev wsX1_addEntry : List Cond := .code yX1_addEntry cX1_addEntry 4 none :: wT
abbrev cX1_dropEntry : ByteArray := prog_3_method_18_code
abbrev yX1_dropEntry : MethodName := ⟨"AppendOnlyTree$Tree", "dropEntry", "(II)V"⟩
abbrev wsX1_dropEntry : List Cond := .code yX1_dropEntry cX1_dropEntry 4 none :: wT
abbrev cX1_moveEntry : ByteArray := prog_3_method_19_code
abbrev yX1_moveEntry : MethodName := ⟨"AppendOnlyTree$Tree", "moveEntry", "(IIII)V"⟩
abbrev wsX1_moveEntry : List Cond := .code yX1_moveEntry cX1_moveEntry 6 none :: wT
abbrev cX1_setInt : ByteArray := prog_3_method_20_code
abbrev yX1_setInt : MethodName := ⟨"AppendOnlyTree$Tree", "setInt", "(III)V"⟩
abbrev wsX1_setInt : List Cond := .code yX1_setInt cX1_setInt 4 none :: wT
abbrev cX1_setSize : ByteArray := prog_3_method_21_code
abbrev yX1_setSize : MethodName := ⟨"AppendOnlyTree$Tree", "setSize", "(II)V"⟩
abbrev wsX1_setSize : List Cond := .code yX1_setSize cX1_setSize 3 none :: wT
abbrev cX1_takeEntry : ByteArray := prog_3_method_22_code
abbrev yX1_takeEntry : MethodName := ⟨"AppendOnlyTree$Tree", "takeEntry", "(II)I"⟩
abbrev wsX1_takeEntry : List Cond := .code yX1_takeEntry cX1_takeEntry 4 (some .int) :: wT
abbrev cL_cell : ByteArray := method_2_code
abbrev yL_cell : MethodName := ⟨"AppendOnlyTreeLaw", "cell", "([II)I"⟩
abbrev wsL_cell : List Cond := .code yL_cell cL_cell 2 (some .int) :: wT
abbrev cL_law : ByteArray := code
abbrev yL_law : MethodName := ⟨"AppendOnlyTreeLaw", "law", "([I)Z"⟩
theorem q_0 : ((Jvm.Cond.initialized "AppendOnlyTreeLaw") : Cond) ∈ wT := lw_a (List.mem_of_getElem? (i := 0) rfl) rfl
theorem q_1 : ((Jvm.Cond.initialized "AppendOnlyTree") : Cond) ∈ wT := lw_a (List.mem_of_getElem? (i := 1) rfl) rfl
theorem q_2 : ((Jvm.Cond.initialized "java/lang/Math") : Cond) ∈ wT := lw_a (List.mem_of_getElem? (i := 2) rfl) rfl
theorem q_3 : ((Jvm.Cond.initialized "AppendOnlyTree$Tree") : Cond) ∈ wT := lw_a (List.mem_of_getElem? (i := 3) rfl) rfl
theorem q_4 : ((Jvm.Cond.initialized "AppendOnlyTree$Log") : Cond) ∈ wT := lw_a (List.mem_of_getElem? (i := 4) rfl) rfl
theorem q_5 : ((Jvm.Cond.initialized "AppendOnlyTreeModel") : Cond) ∈ wT := lw_a (List.mem_of_getElem? (i := 5) rfl) rfl
theorem q_6 : ((Jvm.Cond.initialized "java/lang/System") : Cond) ∈ wT := lw_a (List.mem_of_getElem? (i := 6) rfl) rfl
theorem q_7 : ((Jvm.Cond.classLink "AppendOnlyTreeLaw" (7 : Nat) "AppendOnlyTree") : Cond) ∈ wT := lw_a (List.mem_of_getElem? (i := 7) rfl) rfl
theorem q_8 : ((Jvm.Cond.instantiable "AppendOnlyTree" (6 : Nat)) : Cond) ∈ wT := lw_a (List.mem_of_getElem? (i := 8) rfl) rfl
theorem q_9 : ((Jvm.Cond.methodLink "AppendOnlyTreeLaw" (15 : Nat) ({ cls := "AppendOnlyTree", name := "<init>", desc := "(I)V" } : Jvm.MethodName)) : Cond) ∈ wT := lw_a (List.mem_of_getElem? (i := 9) rfl) rfl
theorem q_10 : ((Jvm.Cond.instanceMethod ({ cls := "AppendOnlyTree", name := "<init>", desc := "(I)V" } : Jvm.MethodName)) : Cond) ∈ wT := lw_a (List.mem_of_getElem? (i := 10) rfl) rfl
theorem q_11 : ((Jvm.Cond.code ({ cls := "AppendOnlyTree", name := "<init>", desc := "(I)V" } : Jvm.MethodName) prog_1_method_1_code (3 : Nat) (Option.none : Option Jvm.ClassFile.FieldType)) : Cond) ∈ wT := lw_a (List.mem_of_getElem? (i := 11) rfl) rfl
theorem q_12 : ((Jvm.Cond.methodLink "AppendOnlyTree" (1 : Nat) ({ cls := "java/lang/Object", name := "<init>", desc := "()V" } : Jvm.MethodName)) : Cond) ∈ wT := lw_a (List.mem_of_getElem? (i := 12) rfl) rfl
theorem q_13 : ((Jvm.Cond.instanceMethod ({ cls := "java/lang/Object", name := "<init>", desc := "()V" } : Jvm.MethodName)) : Cond) ∈ wT := lw_a (List.mem_of_getElem? (i := 13) rfl) rfl
theorem q_14 : ((Jvm.Cond.code ({ cls := "java/lang/Object", name := "<init>", desc := "()V" } : Jvm.MethodName) object_method_1_code (1 : Nat) (Option.none : Option Jvm.ClassFile.FieldType)) : Cond) ∈ wT := lw_a (List.mem_of_getElem? (i := 14) rfl) rfl
theorem q_15 : ((Jvm.Cond.methodLink "AppendOnlyTree" (9 : Nat) ({ cls := "java/lang/Math", name := "min", desc := "(II)I" } : Jvm.MethodName)) : Cond) ∈ wT := lw_a (List.mem_of_getElem? (i := 15) rfl) rfl
theorem q_16 : ((Jvm.Cond.static ({ cls := "java/lang/Math", name := "min", desc := "(II)I" } : Jvm.MethodName)) : Cond) ∈ wT := lw_a (List.mem_of_getElem? (i := 16) rfl) rfl
theorem q_17 : ((Jvm.Cond.code ({ cls := "java/lang/Math", name := "min", desc := "(II)I" } : Jvm.MethodName) prog_6_method_69_code (2 : Nat) (Option.some Jvm.ClassFile.FieldType.int)) : Cond) ∈ wT := lw_a (List.mem_of_getElem? (i := 17) rfl) rfl
theorem q_18 : ((Jvm.Cond.methodLink "AppendOnlyTree" (15 : Nat) ({ cls := "java/lang/Math", name := "max", desc := "(II)I" } : Jvm.MethodName)) : Cond) ∈ wT := lw_a (List.mem_of_getElem? (i := 18) rfl) rfl
theorem q_19 : ((Jvm.Cond.static ({ cls := "java/lang/Math", name := "max", desc := "(II)I" } : Jvm.MethodName)) : Cond) ∈ wT := lw_a (List.mem_of_getElem? (i := 19) rfl) rfl
theorem q_20 : ((Jvm.Cond.code ({ cls := "java/lang/Math", name := "max", desc := "(II)I" } : Jvm.MethodName) prog_6_method_65_code (2 : Nat) (Option.some Jvm.ClassFile.FieldType.int)) : Cond) ∈ wT := lw_a (List.mem_of_getElem? (i := 20) rfl) rfl
theorem q_21 : ((Jvm.Cond.classLink "AppendOnlyTree" (22 : Nat) "AppendOnlyTree$Tree") : Cond) ∈ wT := lw_a (List.mem_of_getElem? (i := 21) rfl) rfl
theorem q_22 : ((Jvm.Cond.instantiable "AppendOnlyTree$Tree" (6 : Nat)) : Cond) ∈ wT := lw_a (List.mem_of_getElem? (i := 22) rfl) rfl
theorem q_23 : ((Jvm.Cond.methodLink "AppendOnlyTree" (24 : Nat) ({ cls := "AppendOnlyTree$Tree", name := "<init>", desc := "()V" } : Jvm.MethodName)) : Cond) ∈ wT := lw_a (List.mem_of_getElem? (i := 23) rfl) rfl
theorem q_24 : ((Jvm.Cond.instanceMethod ({ cls := "AppendOnlyTree$Tree", name := "<init>", desc := "()V" } : Jvm.MethodName)) : Cond) ∈ wT := lw_a (List.mem_of_getElem? (i := 24) rfl) rfl
theorem q_25 : ((Jvm.Cond.code ({ cls := "AppendOnlyTree$Tree", name := "<init>", desc := "()V" } : Jvm.MethodName) prog_3_method_1_code (1 : Nat) (Option.none : Option Jvm.ClassFile.FieldType)) : Cond) ∈ wT := lw_a (List.mem_of_getElem? (i := 25) rfl) rfl
theorem q_26 : ((Jvm.Cond.methodLink "AppendOnlyTree$Tree" (3 : Nat) ({ cls := "java/lang/Object", name := "<init>", desc := "()V" } : Jvm.MethodName)) : Cond) ∈ wT := lw_a (List.mem_of_getElem? (i := 26) rfl) rfl
theorem q_27 : ((Jvm.Cond.fieldLink "AppendOnlyTree$Tree" (9 : Nat) "AppendOnlyTree$Tree" "kinds" "[I") : Cond) ∈ wT := lw_a (List.mem_of_getElem? (i := 27) rfl) rfl
theorem q_28 : ((Jvm.Cond.fieldLink "AppendOnlyTree$Tree" (15 : Nat) "AppendOnlyTree$Tree" "sizes" "[I") : Cond) ∈ wT := lw_a (List.mem_of_getElem? (i := 28) rfl) rfl
theorem q_29 : ((Jvm.Cond.fieldLink "AppendOnlyTree$Tree" (18 : Nat) "AppendOnlyTree$Tree" "links" "[I") : Cond) ∈ wT := lw_a (List.mem_of_getElem? (i := 29) rfl) rfl
theorem q_30 : ((Jvm.Cond.fieldLink "AppendOnlyTree$Tree" (21 : Nat) "AppendOnlyTree$Tree" "homes" "[I") : Cond) ∈ wT := lw_a (List.mem_of_getElem? (i := 30) rfl) rfl
theorem q_31 : ((Jvm.Cond.fieldLink "AppendOnlyTree$Tree" (24 : Nat) "AppendOnlyTree$Tree" "targets" "[I") : Cond) ∈ wT := lw_a (List.mem_of_getElem? (i := 31) rfl) rfl
theorem q_32 : ((Jvm.Cond.fieldLink "AppendOnlyTree$Tree" (27 : Nat) "AppendOnlyTree$Tree" "values" "[I") : Cond) ∈ wT := lw_a (List.mem_of_getElem? (i := 32) rfl) rfl
theorem q_33 : ((Jvm.Cond.arrayClass Jvm.ClassFile.FieldType.int) : Cond) ∈ wT := lw_a (List.mem_of_getElem? (i := 46) rfl) rfl
theorem q_34 : ((Jvm.Cond.classLink "AppendOnlyTree" (32 : Nat) "AppendOnlyTree$Log") : Cond) ∈ wT := lw_a (List.mem_of_getElem? (i := 47) rfl) rfl
theorem q_35 : ((Jvm.Cond.instantiable "AppendOnlyTree$Log" (2 : Nat)) : Cond) ∈ wT := lw_a (List.mem_of_getElem? (i := 48) rfl) rfl
theorem q_36 : ((Jvm.Cond.methodLink "AppendOnlyTree" (34 : Nat) ({ cls := "AppendOnlyTree$Log", name := "<init>", desc := "()V" } : Jvm.MethodName)) : Cond) ∈ wT := lw_a (List.mem_of_getElem? (i := 49) rfl) rfl
theorem q_37 : ((Jvm.Cond.instanceMethod ({ cls := "AppendOnlyTree$Log", name := "<init>", desc := "()V" } : Jvm.MethodName)) : Cond) ∈ wT := lw_a (List.mem_of_getElem? (i := 50) rfl) rfl
theorem q_38 : ((Jvm.Cond.code ({ cls := "AppendOnlyTree$Log", name := "<init>", desc := "()V" } : Jvm.MethodName) prog_2_method_1_code (1 : Nat) (Option.none : Option Jvm.ClassFile.FieldType)) : Cond) ∈ wT := lw_a (List.mem_of_getElem? (i := 51) rfl) rfl
theorem q_39 : ((Jvm.Cond.methodLink "AppendOnlyTree$Log" (3 : Nat) ({ cls := "java/lang/Object", name := "<init>", desc := "()V" } : Jvm.MethodName)) : Cond) ∈ wT := lw_a (List.mem_of_getElem? (i := 52) rfl) rfl
theorem q_40 : ((Jvm.Cond.fieldLink "AppendOnlyTree$Log" (11 : Nat) "AppendOnlyTree$Log" "rows" "[I") : Cond) ∈ wT := lw_a (List.mem_of_getElem? (i := 53) rfl) rfl
theorem q_41 : ((Jvm.Cond.fieldLink "AppendOnlyTree$Log" (15 : Nat) "AppendOnlyTree$Log" "length" "I") : Cond) ∈ wT := lw_a (List.mem_of_getElem? (i := 54) rfl) rfl
theorem q_42 : ((Jvm.Cond.methodLink "AppendOnlyTree" (39 : Nat) ({ cls := "AppendOnlyTree$Tree", name := "live", desc := "()I" } : Jvm.MethodName)) : Cond) ∈ wT := lw_a (List.mem_of_getElem? (i := 60) rfl) rfl
theorem q_43 : ((Jvm.Cond.instanceMethod ({ cls := "AppendOnlyTree$Tree", name := "live", desc := "()I" } : Jvm.MethodName)) : Cond) ∈ wT := lw_a (List.mem_of_getElem? (i := 61) rfl) rfl
theorem q_44 : ((Jvm.Cond.selects "AppendOnlyTree$Tree" ({ cls := "AppendOnlyTree$Tree", name := "live", desc := "()I" } : Jvm.MethodName) ({ cls := "AppendOnlyTree$Tree", name := "live", desc := "()I" } : Jvm.MethodName)) : Cond) ∈ wT := lw_a (List.mem_of_getElem? (i := 62) rfl) rfl
theorem q_45 : ((Jvm.Cond.code ({ cls := "AppendOnlyTree$Tree", name := "live", desc := "()I" } : Jvm.MethodName) prog_3_method_14_code (3 : Nat) (Option.some Jvm.ClassFile.FieldType.int)) : Cond) ∈ wT := lw_a (List.mem_of_getElem? (i := 63) rfl) rfl
theorem q_46 : ((Jvm.Cond.methodLink "AppendOnlyTree$Tree" (44 : Nat) ({ cls := "AppendOnlyTree$Tree", name := "blocks", desc := "(I)I" } : Jvm.MethodName)) : Cond) ∈ wT := lw_a (List.mem_of_getElem? (i := 64) rfl) rfl
theorem q_47 : ((Jvm.Cond.instanceMethod ({ cls := "AppendOnlyTree$Tree", name := "blocks", desc := "(I)I" } : Jvm.MethodName)) : Cond) ∈ wT := lw_a (List.mem_of_getElem? (i := 65) rfl) rfl
theorem q_48 : ((Jvm.Cond.selects "AppendOnlyTree$Tree" ({ cls := "AppendOnlyTree$Tree", name := "blocks", desc := "(I)I" } : Jvm.MethodName) ({ cls := "AppendOnlyTree$Tree", name := "blocks", desc := "(I)I" } : Jvm.MethodName)) : Cond) ∈ wT := lw_a (List.mem_of_getElem? (i := 66) rfl) rfl
theorem q_49 : ((Jvm.Cond.code ({ cls := "AppendOnlyTree$Tree", name := "blocks", desc := "(I)I" } : Jvm.MethodName) prog_3_method_13_code (2 : Nat) (Option.some Jvm.ClassFile.FieldType.int)) : Cond) ∈ wT := lw_a (List.mem_of_getElem? (i := 67) rfl) rfl
theorem q_50 : ((Jvm.Cond.methodLink "AppendOnlyTree$Tree" (40 : Nat) ({ cls := "AppendOnlyTree$Tree", name := "isFile", desc := "(I)Z" } : Jvm.MethodName)) : Cond) ∈ wT := lw_a (List.mem_of_getElem? (i := 68) rfl) rfl
theorem q_51 : ((Jvm.Cond.instanceMethod ({ cls := "AppendOnlyTree$Tree", name := "isFile", desc := "(I)Z" } : Jvm.MethodName)) : Cond) ∈ wT := lw_a (List.mem_of_getElem? (i := 69) rfl) rfl
theorem q_52 : ((Jvm.Cond.selects "AppendOnlyTree$Tree" ({ cls := "AppendOnlyTree$Tree", name := "isFile", desc := "(I)Z" } : Jvm.MethodName) ({ cls := "AppendOnlyTree$Tree", name := "isFile", desc := "(I)Z" } : Jvm.MethodName)) : Cond) ∈ wT := lw_a (List.mem_of_getElem? (i := 70) rfl) rfl
theorem q_53 : ((Jvm.Cond.code ({ cls := "AppendOnlyTree$Tree", name := "isFile", desc := "(I)Z" } : Jvm.MethodName) prog_3_method_4_code (2 : Nat) (Option.some Jvm.ClassFile.FieldType.boolean)) : Cond) ∈ wT := lw_a (List.mem_of_getElem? (i := 71) rfl) rfl
theorem q_54 : ((Jvm.Cond.fieldLink "AppendOnlyTree" (18 : Nat) "AppendOnlyTree" "limit" "I") : Cond) ∈ wT := lw_a (List.mem_of_getElem? (i := 72) rfl) rfl
theorem q_55 : ((Jvm.Cond.fieldLink "AppendOnlyTree" (25 : Nat) "AppendOnlyTree" "tree" "LAppendOnlyTree$Tree;") : Cond) ∈ wT := lw_a (List.mem_of_getElem? (i := 73) rfl) rfl
theorem q_56 : ((Jvm.Cond.fieldLink "AppendOnlyTree" (29 : Nat) "AppendOnlyTree" "safe" "LAppendOnlyTree$Tree;") : Cond) ∈ wT := lw_a (List.mem_of_getElem? (i := 74) rfl) rfl
theorem q_57 : ((Jvm.Cond.fieldLink "AppendOnlyTree" (35 : Nat) "AppendOnlyTree" "log" "LAppendOnlyTree$Log;") : Cond) ∈ wT := lw_a (List.mem_of_getElem? (i := 75) rfl) rfl
theorem q_58 : ((Jvm.Cond.fieldLink "AppendOnlyTree" (43 : Nat) "AppendOnlyTree" "kept" "I") : Cond) ∈ wT := lw_a (List.mem_of_getElem? (i := 76) rfl) rfl
theorem q_59 : ((Jvm.Cond.fieldLink "AppendOnlyTree" (46 : Nat) "AppendOnlyTree" "syncs" "I") : Cond) ∈ wT := lw_a (List.mem_of_getElem? (i := 77) rfl) rfl
theorem q_60 : ((Jvm.Cond.methodLink "AppendOnlyTreeLaw" (21 : Nat) ({ cls := "AppendOnlyTree", name := "create", desc := "(IIZ)I" } : Jvm.MethodName)) : Cond) ∈ wT := lw_a (List.mem_of_getElem? (i := 91) rfl) rfl
theorem q_61 : ((Jvm.Cond.instanceMethod ({ cls := "AppendOnlyTree", name := "create", desc := "(IIZ)I" } : Jvm.MethodName)) : Cond) ∈ wT := lw_a (List.mem_of_getElem? (i := 92) rfl) rfl
theorem q_62 : ((Jvm.Cond.selects "AppendOnlyTree" ({ cls := "AppendOnlyTree", name := "create", desc := "(IIZ)I" } : Jvm.MethodName) ({ cls := "AppendOnlyTree", name := "create", desc := "(IIZ)I" } : Jvm.MethodName)) : Cond) ∈ wT := lw_a (List.mem_of_getElem? (i := 93) rfl) rfl
theorem q_63 : ((Jvm.Cond.code ({ cls := "AppendOnlyTree", name := "create", desc := "(IIZ)I" } : Jvm.MethodName) prog_1_method_2_code (6 : Nat) (Option.some Jvm.ClassFile.FieldType.int)) : Cond) ∈ wT := lw_a (List.mem_of_getElem? (i := 94) rfl) rfl
theorem q_64 : ((Jvm.Cond.methodLink "AppendOnlyTree" (49 : Nat) ({ cls := "AppendOnlyTree", name := "isNode", desc := "(I)Z" } : Jvm.MethodName)) : Cond) ∈ wT := lw_a (List.mem_of_getElem? (i := 95) rfl) rfl
theorem q_65 : ((Jvm.Cond.static ({ cls := "AppendOnlyTree", name := "isNode", desc := "(I)Z" } : Jvm.MethodName)) : Cond) ∈ wT := lw_a (List.mem_of_getElem? (i := 96) rfl) rfl
theorem q_66 : ((Jvm.Cond.code ({ cls := "AppendOnlyTree", name := "isNode", desc := "(I)Z" } : Jvm.MethodName) prog_1_method_15_code (1 : Nat) (Option.some Jvm.ClassFile.FieldType.boolean)) : Cond) ∈ wT := lw_a (List.mem_of_getElem? (i := 97) rfl) rfl
theorem q_67 : ((Jvm.Cond.methodLink "AppendOnlyTree" (53 : Nat) ({ cls := "AppendOnlyTree", name := "isName", desc := "(I)Z" } : Jvm.MethodName)) : Cond) ∈ wT := lw_a (List.mem_of_getElem? (i := 98) rfl) rfl
theorem q_68 : ((Jvm.Cond.static ({ cls := "AppendOnlyTree", name := "isName", desc := "(I)Z" } : Jvm.MethodName)) : Cond) ∈ wT := lw_a (List.mem_of_getElem? (i := 99) rfl) rfl
theorem q_69 : ((Jvm.Cond.code ({ cls := "AppendOnlyTree", name := "isName", desc := "(I)Z" } : Jvm.MethodName) prog_1_method_16_code (1 : Nat) (Option.some Jvm.ClassFile.FieldType.boolean)) : Cond) ∈ wT := lw_a (List.mem_of_getElem? (i := 100) rfl) rfl
theorem q_70 : ((Jvm.Cond.methodLink "AppendOnlyTree" (56 : Nat) ({ cls := "AppendOnlyTree$Tree", name := "isDirectory", desc := "(I)Z" } : Jvm.MethodName)) : Cond) ∈ wT := lw_a (List.mem_of_getElem? (i := 101) rfl) rfl
theorem q_71 : ((Jvm.Cond.instanceMethod ({ cls := "AppendOnlyTree$Tree", name := "isDirectory", desc := "(I)Z" } : Jvm.MethodName)) : Cond) ∈ wT := lw_a (List.mem_of_getElem? (i := 102) rfl) rfl
theorem q_72 : ((Jvm.Cond.selects "AppendOnlyTree$Tree" ({ cls := "AppendOnlyTree$Tree", name := "isDirectory", desc := "(I)Z" } : Jvm.MethodName) ({ cls := "AppendOnlyTree$Tree", name := "isDirectory", desc := "(I)Z" } : Jvm.MethodName)) : Cond) ∈ wT := lw_a (List.mem_of_getElem? (i := 103) rfl) rfl
theorem q_73 : ((Jvm.Cond.code ({ cls := "AppendOnlyTree$Tree", name := "isDirectory", desc := "(I)Z" } : Jvm.MethodName) prog_3_method_5_code (2 : Nat) (Option.some Jvm.ClassFile.FieldType.boolean)) : Cond) ∈ wT := lw_a (List.mem_of_getElem? (i := 104) rfl) rfl
theorem q_74 : ((Jvm.Cond.methodLink "AppendOnlyTree" (59 : Nat) ({ cls := "AppendOnlyTree$Tree", name := "target", desc := "(II)I" } : Jvm.MethodName)) : Cond) ∈ wT := lw_a (List.mem_of_getElem? (i := 105) rfl) rfl
theorem q_75 : ((Jvm.Cond.instanceMethod ({ cls := "AppendOnlyTree$Tree", name := "target", desc := "(II)I" } : Jvm.MethodName)) : Cond) ∈ wT := lw_a (List.mem_of_getElem? (i := 106) rfl) rfl
theorem q_76 : ((Jvm.Cond.selects "AppendOnlyTree$Tree" ({ cls := "AppendOnlyTree$Tree", name := "target", desc := "(II)I" } : Jvm.MethodName) ({ cls := "AppendOnlyTree$Tree", name := "target", desc := "(II)I" } : Jvm.MethodName)) : Cond) ∈ wT := lw_a (List.mem_of_getElem? (i := 107) rfl) rfl
theorem q_77 : ((Jvm.Cond.code ({ cls := "AppendOnlyTree$Tree", name := "target", desc := "(II)I" } : Jvm.MethodName) prog_3_method_8_code (3 : Nat) (Option.some Jvm.ClassFile.FieldType.int)) : Cond) ∈ wT := lw_a (List.mem_of_getElem? (i := 108) rfl) rfl
theorem q_78 : ((Jvm.Cond.methodLink "AppendOnlyTree" (62 : Nat) ({ cls := "AppendOnlyTree$Tree", name := "leastFreeNode", desc := "()I" } : Jvm.MethodName)) : Cond) ∈ wT := lw_a (List.mem_of_getElem? (i := 109) rfl) rfl
theorem q_79 : ((Jvm.Cond.instanceMethod ({ cls := "AppendOnlyTree$Tree", name := "leastFreeNode", desc := "()I" } : Jvm.MethodName)) : Cond) ∈ wT := lw_a (List.mem_of_getElem? (i := 110) rfl) rfl
theorem q_80 : ((Jvm.Cond.selects "AppendOnlyTree$Tree" ({ cls := "AppendOnlyTree$Tree", name := "leastFreeNode", desc := "()I" } : Jvm.MethodName) ({ cls := "AppendOnlyTree$Tree", name := "leastFreeNode", desc := "()I" } : Jvm.MethodName)) : Cond) ∈ wT := lw_a (List.mem_of_getElem? (i := 111) rfl) rfl
theorem q_81 : ((Jvm.Cond.code ({ cls := "AppendOnlyTree$Tree", name := "leastFreeNode", desc := "()I" } : Jvm.MethodName) prog_3_method_11_code (2 : Nat) (Option.some Jvm.ClassFile.FieldType.int)) : Cond) ∈ wT := lw_a (List.mem_of_getElem? (i := 112) rfl) rfl
theorem q_82 : ((Jvm.Cond.methodLink "AppendOnlyTree" (65 : Nat) ({ cls := "AppendOnlyTree$Tree", name := "size", desc := "(I)I" } : Jvm.MethodName)) : Cond) ∈ wT := lw_a (List.mem_of_getElem? (i := 113) rfl) rfl
theorem q_83 : ((Jvm.Cond.instanceMethod ({ cls := "AppendOnlyTree$Tree", name := "size", desc := "(I)I" } : Jvm.MethodName)) : Cond) ∈ wT := lw_a (List.mem_of_getElem? (i := 114) rfl) rfl
theorem q_84 : ((Jvm.Cond.selects "AppendOnlyTree$Tree" ({ cls := "AppendOnlyTree$Tree", name := "size", desc := "(I)I" } : Jvm.MethodName) ({ cls := "AppendOnlyTree$Tree", name := "size", desc := "(I)I" } : Jvm.MethodName)) : Cond) ∈ wT := lw_a (List.mem_of_getElem? (i := 115) rfl) rfl
theorem q_85 : ((Jvm.Cond.code ({ cls := "AppendOnlyTree$Tree", name := "size", desc := "(I)I" } : Jvm.MethodName) prog_3_method_6_code (2 : Nat) (Option.some Jvm.ClassFile.FieldType.int)) : Cond) ∈ wT := lw_a (List.mem_of_getElem? (i := 116) rfl) rfl
theorem q_86 : ((Jvm.Cond.methodLink "AppendOnlyTree" (69 : Nat) ({ cls := "AppendOnlyTree", name := "costOf", desc := "(II)I" } : Jvm.MethodName)) : Cond) ∈ wT := lw_a (List.mem_of_getElem? (i := 117) rfl) rfl
theorem q_87 : ((Jvm.Cond.static ({ cls := "AppendOnlyTree", name := "costOf", desc := "(II)I" } : Jvm.MethodName)) : Cond) ∈ wT := lw_a (List.mem_of_getElem? (i := 118) rfl) rfl
theorem q_88 : ((Jvm.Cond.code ({ cls := "AppendOnlyTree", name := "costOf", desc := "(II)I" } : Jvm.MethodName) prog_1_method_17_code (2 : Nat) (Option.some Jvm.ClassFile.FieldType.int)) : Cond) ∈ wT := lw_a (List.mem_of_getElem? (i := 119) rfl) rfl
theorem q_89 : ((Jvm.Cond.methodLink "AppendOnlyTree" (72 : Nat) ({ cls := "AppendOnlyTree", name := "makesRoom", desc := "(II)Z" } : Jvm.MethodName)) : Cond) ∈ wT := lw_a (List.mem_of_getElem? (i := 120) rfl) rfl
theorem q_90 : ((Jvm.Cond.instanceMethod ({ cls := "AppendOnlyTree", name := "makesRoom", desc := "(II)Z" } : Jvm.MethodName)) : Cond) ∈ wT := lw_a (List.mem_of_getElem? (i := 122) rfl) rfl
theorem q_91 : ((Jvm.Cond.code ({ cls := "AppendOnlyTree", name := "makesRoom", desc := "(II)Z" } : Jvm.MethodName) prog_1_method_18_code (3 : Nat) (Option.some Jvm.ClassFile.FieldType.boolean)) : Cond) ∈ wT := lw_a (List.mem_of_getElem? (i := 123) rfl) rfl
theorem q_92 : ((Jvm.Cond.methodLink "AppendOnlyTree" (92 : Nat) ({ cls := "AppendOnlyTree", name := "countedSync", desc := "()V" } : Jvm.MethodName)) : Cond) ∈ wT := lw_a (List.mem_of_getElem? (i := 124) rfl) rfl
theorem q_93 : ((Jvm.Cond.instanceMethod ({ cls := "AppendOnlyTree", name := "countedSync", desc := "()V" } : Jvm.MethodName)) : Cond) ∈ wT := lw_a (List.mem_of_getElem? (i := 126) rfl) rfl
theorem q_94 : ((Jvm.Cond.code ({ cls := "AppendOnlyTree", name := "countedSync", desc := "()V" } : Jvm.MethodName) prog_1_method_20_code (1 : Nat) (Option.none : Option Jvm.ClassFile.FieldType)) : Cond) ∈ wT := lw_a (List.mem_of_getElem? (i := 127) rfl) rfl
theorem q_95 : ((Jvm.Cond.methodLink "AppendOnlyTree" (102 : Nat) ({ cls := "AppendOnlyTree$Tree", name := "copyFrom", desc := "(LAppendOnlyTree$Tree;)V" } : Jvm.MethodName)) : Cond) ∈ wT := lw_a (List.mem_of_getElem? (i := 128) rfl) rfl
theorem q_96 : ((Jvm.Cond.instanceMethod ({ cls := "AppendOnlyTree$Tree", name := "copyFrom", desc := "(LAppendOnlyTree$Tree;)V" } : Jvm.MethodName)) : Cond) ∈ wT := lw_a (List.mem_of_getElem? (i := 129) rfl) rfl
theorem q_97 : ((Jvm.Cond.selects "AppendOnlyTree$Tree" ({ cls := "AppendOnlyTree$Tree", name := "copyFrom", desc := "(LAppendOnlyTree$Tree;)V" } : Jvm.MethodName) ({ cls := "AppendOnlyTree$Tree", name := "copyFrom", desc := "(LAppendOnlyTree$Tree;)V" } : Jvm.MethodName)) : Cond) ∈ wT := lw_a (List.mem_of_getElem? (i := 130) rfl) rfl
theorem q_98 : ((Jvm.Cond.code ({ cls := "AppendOnlyTree$Tree", name := "copyFrom", desc := "(LAppendOnlyTree$Tree;)V" } : Jvm.MethodName) prog_3_method_2_code (2 : Nat) (Option.none : Option Jvm.ClassFile.FieldType)) : Cond) ∈ wT := lw_a (List.mem_of_getElem? (i := 131) rfl) rfl
theorem q_99 : ((Jvm.Cond.methodLink "AppendOnlyTree$Tree" (30 : Nat) ({ cls := "java/lang/System", name := "arraycopy", desc := "(Ljava/lang/Object;ILjava/lang/Object;II)V" } : Jvm.MethodName)) : Cond) ∈ wT := lw_a (List.mem_of_getElem? (i := 132) rfl) rfl
theorem q_100 : ((Jvm.Cond.static ({ cls := "java/lang/System", name := "arraycopy", desc := "(Ljava/lang/Object;ILjava/lang/Object;II)V" } : Jvm.MethodName)) : Cond) ∈ wT := lw_a (List.mem_of_getElem? (i := 133) rfl) rfl
theorem q_101 : ((Jvm.Cond.native ({ cls := "java/lang/System", name := "arraycopy", desc := "(Ljava/lang/Object;ILjava/lang/Object;II)V" } : Jvm.MethodName)) : Cond) ∈ wT := lw_a (List.mem_of_getElem? (i := 134) rfl) rfl
theorem q_102 : ((Jvm.Cond.methodLink "AppendOnlyTree" (106 : Nat) ({ cls := "AppendOnlyTree", name := "startAfresh", desc := "()V" } : Jvm.MethodName)) : Cond) ∈ wT := lw_a (List.mem_of_getElem? (i := 135) rfl) rfl
theorem q_103 : ((Jvm.Cond.instanceMethod ({ cls := "AppendOnlyTree", name := "startAfresh", desc := "()V" } : Jvm.MethodName)) : Cond) ∈ wT := lw_a (List.mem_of_getElem? (i := 137) rfl) rfl
theorem q_104 : ((Jvm.Cond.code ({ cls := "AppendOnlyTree", name := "startAfresh", desc := "()V" } : Jvm.MethodName) prog_1_method_21_code (1 : Nat) (Option.none : Option Jvm.ClassFile.FieldType)) : Cond) ∈ wT := lw_a (List.mem_of_getElem? (i := 138) rfl) rfl
theorem q_105 : ((Jvm.Cond.methodLink "AppendOnlyTree" (127 : Nat) ({ cls := "AppendOnlyTree$Log", name := "clear", desc := "()V" } : Jvm.MethodName)) : Cond) ∈ wT := lw_a (List.mem_of_getElem? (i := 139) rfl) rfl
theorem q_106 : ((Jvm.Cond.instanceMethod ({ cls := "AppendOnlyTree$Log", name := "clear", desc := "()V" } : Jvm.MethodName)) : Cond) ∈ wT := lw_a (List.mem_of_getElem? (i := 140) rfl) rfl
theorem q_107 : ((Jvm.Cond.selects "AppendOnlyTree$Log" ({ cls := "AppendOnlyTree$Log", name := "clear", desc := "()V" } : Jvm.MethodName) ({ cls := "AppendOnlyTree$Log", name := "clear", desc := "()V" } : Jvm.MethodName)) : Cond) ∈ wT := lw_a (List.mem_of_getElem? (i := 141) rfl) rfl
theorem q_108 : ((Jvm.Cond.code ({ cls := "AppendOnlyTree$Log", name := "clear", desc := "()V" } : Jvm.MethodName) prog_2_method_3_code (1 : Nat) (Option.none : Option Jvm.ClassFile.FieldType)) : Cond) ∈ wT := lw_a (List.mem_of_getElem? (i := 142) rfl) rfl
theorem q_109 : ((Jvm.Cond.methodLink "AppendOnlyTree" (76 : Nat) ({ cls := "AppendOnlyTree", name := "perform", desc := "(IIIIII)V" } : Jvm.MethodName)) : Cond) ∈ wT := lw_a (List.mem_of_getElem? (i := 143) rfl) rfl
theorem q_110 : ((Jvm.Cond.instanceMethod ({ cls := "AppendOnlyTree", name := "perform", desc := "(IIIIII)V" } : Jvm.MethodName)) : Cond) ∈ wT := lw_a (List.mem_of_getElem? (i := 145) rfl) rfl
theorem q_111 : ((Jvm.Cond.code ({ cls := "AppendOnlyTree", name := "perform", desc := "(IIIIII)V" } : Jvm.MethodName) prog_1_method_19_code (7 : Nat) (Option.none : Option Jvm.ClassFile.FieldType)) : Cond) ∈ wT := lw_a (List.mem_of_getElem? (i := 146) rfl) rfl
theorem q_112 : ((Jvm.Cond.methodLink "AppendOnlyTree" (123 : Nat) ({ cls := "AppendOnlyTree$Log", name := "append", desc := "(IIIII)V" } : Jvm.MethodName)) : Cond) ∈ wT := lw_a (List.mem_of_getElem? (i := 147) rfl) rfl
theorem q_113 : ((Jvm.Cond.instanceMethod ({ cls := "AppendOnlyTree$Log", name := "append", desc := "(IIIII)V" } : Jvm.MethodName)) : Cond) ∈ wT := lw_a (List.mem_of_getElem? (i := 148) rfl) rfl
theorem q_114 : ((Jvm.Cond.selects "AppendOnlyTree$Log" ({ cls := "AppendOnlyTree$Log", name := "append", desc := "(IIIII)V" } : Jvm.MethodName) ({ cls := "AppendOnlyTree$Log", name := "append", desc := "(IIIII)V" } : Jvm.MethodName)) : Cond) ∈ wT := lw_a (List.mem_of_getElem? (i := 149) rfl) rfl
theorem q_115 : ((Jvm.Cond.code ({ cls := "AppendOnlyTree$Log", name := "append", desc := "(IIIII)V" } : Jvm.MethodName) prog_2_method_4_code (7 : Nat) (Option.none : Option Jvm.ClassFile.FieldType)) : Cond) ∈ wT := lw_a (List.mem_of_getElem? (i := 150) rfl) rfl
theorem q_116 : ((Jvm.Cond.methodLink "AppendOnlyTree" (95 : Nat) ({ cls := "AppendOnlyTree$Log", name := "length", desc := "()I" } : Jvm.MethodName)) : Cond) ∈ wT := lw_a (List.mem_of_getElem? (i := 151) rfl) rfl
theorem q_117 : ((Jvm.Cond.instanceMethod ({ cls := "AppendOnlyTree$Log", name := "length", desc := "()I" } : Jvm.MethodName)) : Cond) ∈ wT := lw_a (List.mem_of_getElem? (i := 152) rfl) rfl
theorem q_118 : ((Jvm.Cond.selects "AppendOnlyTree$Log" ({ cls := "AppendOnlyTree$Log", name := "length", desc := "()I" } : Jvm.MethodName) ({ cls := "AppendOnlyTree$Log", name := "length", desc := "()I" } : Jvm.MethodName)) : Cond) ∈ wT := lw_a (List.mem_of_getElem? (i := 153) rfl) rfl
theorem q_119 : ((Jvm.Cond.code ({ cls := "AppendOnlyTree$Log", name := "length", desc := "()I" } : Jvm.MethodName) prog_2_method_2_code (1 : Nat) (Option.some Jvm.ClassFile.FieldType.int)) : Cond) ∈ wT := lw_a (List.mem_of_getElem? (i := 154) rfl) rfl
theorem q_120 : ((Jvm.Cond.methodLink "AppendOnlyTree" (98 : Nat) ({ cls := "AppendOnlyTree$Log", name := "redo", desc := "(ILAppendOnlyTree$Tree;)V" } : Jvm.MethodName)) : Cond) ∈ wT := lw_a (List.mem_of_getElem? (i := 155) rfl) rfl
theorem q_121 : ((Jvm.Cond.instanceMethod ({ cls := "AppendOnlyTree$Log", name := "redo", desc := "(ILAppendOnlyTree$Tree;)V" } : Jvm.MethodName)) : Cond) ∈ wT := lw_a (List.mem_of_getElem? (i := 156) rfl) rfl
theorem q_122 : ((Jvm.Cond.selects "AppendOnlyTree$Log" ({ cls := "AppendOnlyTree$Log", name := "redo", desc := "(ILAppendOnlyTree$Tree;)V" } : Jvm.MethodName) ({ cls := "AppendOnlyTree$Log", name := "redo", desc := "(ILAppendOnlyTree$Tree;)V" } : Jvm.MethodName)) : Cond) ∈ wT := lw_a (List.mem_of_getElem? (i := 157) rfl) rfl
theorem q_123 : ((Jvm.Cond.code ({ cls := "AppendOnlyTree$Log", name := "redo", desc := "(ILAppendOnlyTree$Tree;)V" } : Jvm.MethodName) prog_2_method_5_code (8 : Nat) (Option.none : Option Jvm.ClassFile.FieldType)) : Cond) ∈ wT := lw_a (List.mem_of_getElem? (i := 158) rfl) rfl
theorem q_124 : ((Jvm.Cond.methodLink "AppendOnlyTree$Log" (19 : Nat) ({ cls := "AppendOnlyTree$Tree", name := "addNode", desc := "(III)V" } : Jvm.MethodName)) : Cond) ∈ wT := lw_a (List.mem_of_getElem? (i := 159) rfl) rfl
theorem q_125 : ((Jvm.Cond.instanceMethod ({ cls := "AppendOnlyTree$Tree", name := "addNode", desc := "(III)V" } : Jvm.MethodName)) : Cond) ∈ wT := lw_a (List.mem_of_getElem? (i := 160) rfl) rfl
theorem q_126 : ((Jvm.Cond.selects "AppendOnlyTree$Tree" ({ cls := "AppendOnlyTree$Tree", name := "addNode", desc := "(III)V" } : Jvm.MethodName) ({ cls := "AppendOnlyTree$Tree", name := "addNode", desc := "(III)V" } : Jvm.MethodName)) : Cond) ∈ wT := lw_a (List.mem_of_getElem? (i := 161) rfl) rfl
theorem q_127 : ((Jvm.Cond.code ({ cls := "AppendOnlyTree$Tree", name := "addNode", desc := "(III)V" } : Jvm.MethodName) prog_3_method_16_code (5 : Nat) (Option.none : Option Jvm.ClassFile.FieldType)) : Cond) ∈ wT := lw_a (List.mem_of_getElem? (i := 162) rfl) rfl
theorem q_128 : ((Jvm.Cond.methodLink "AppendOnlyTree$Tree" (48 : Nat) ({ cls := "AppendOnlyTree$Tree", name := "leastFreeNode", desc := "()I" } : Jvm.MethodName)) : Cond) ∈ wT := lw_a (List.mem_of_getElem? (i := 163) rfl) rfl
theorem q_129 : ((Jvm.Cond.methodLink "AppendOnlyTree$Tree" (52 : Nat) ({ cls := "AppendOnlyTree$Tree", name := "addEntry", desc := "(III)V" } : Jvm.MethodName)) : Cond) ∈ wT := lw_a (List.mem_of_getElem? (i := 164) rfl) rfl
theorem q_130 : ((Jvm.Cond.instanceMethod ({ cls := "AppendOnlyTree$Tree", name := "addEntry", desc := "(III)V" } : Jvm.MethodName)) : Cond) ∈ wT := lw_a (List.mem_of_getElem? (i := 165) rfl) rfl
theorem q_131 : ((Jvm.Cond.selects "AppendOnlyTree$Tree" ({ cls := "AppendOnlyTree$Tree", name := "addEntry", desc := "(III)V" } : Jvm.MethodName) ({ cls := "AppendOnlyTree$Tree", name := "addEntry", desc := "(III)V" } : Jvm.MethodName)) : Cond) ∈ wT := lw_a (List.mem_of_getElem? (i := 166) rfl) rfl
theorem q_132 : ((Jvm.Cond.code ({ cls := "AppendOnlyTree$Tree", name := "addEntry", desc := "(III)V" } : Jvm.MethodName) prog_3_method_17_code (4 : Nat) (Option.none : Option Jvm.ClassFile.FieldType)) : Cond) ∈ wT := lw_a (List.mem_of_getElem? (i := 167) rfl) rfl
theorem q_133 : ((Jvm.Cond.methodLink "AppendOnlyTree$Log" (25 : Nat) ({ cls := "AppendOnlyTree$Tree", name := "addEntry", desc := "(III)V" } : Jvm.MethodName)) : Cond) ∈ wT := lw_a (List.mem_of_getElem? (i := 168) rfl) rfl
theorem q_134 : ((Jvm.Cond.methodLink "AppendOnlyTree$Log" (28 : Nat) ({ cls := "AppendOnlyTree$Tree", name := "dropEntry", desc := "(II)V" } : Jvm.MethodName)) : Cond) ∈ wT := lw_a (List.mem_of_getElem? (i := 169) rfl) rfl
theorem q_135 : ((Jvm.Cond.instanceMethod ({ cls := "AppendOnlyTree$Tree", name := "dropEntry", desc := "(II)V" } : Jvm.MethodName)) : Cond) ∈ wT := lw_a (List.mem_of_getElem? (i := 170) rfl) rfl
theorem q_136 : ((Jvm.Cond.selects "AppendOnlyTree$Tree" ({ cls := "AppendOnlyTree$Tree", name := "dropEntry", desc := "(II)V" } : Jvm.MethodName) ({ cls := "AppendOnlyTree$Tree", name := "dropEntry", desc := "(II)V" } : Jvm.MethodName)) : Cond) ∈ wT := lw_a (List.mem_of_getElem? (i := 171) rfl) rfl
theorem q_137 : ((Jvm.Cond.code ({ cls := "AppendOnlyTree$Tree", name := "dropEntry", desc := "(II)V" } : Jvm.MethodName) prog_3_method_18_code (4 : Nat) (Option.none : Option Jvm.ClassFile.FieldType)) : Cond) ∈ wT := lw_a (List.mem_of_getElem? (i := 172) rfl) rfl
theorem q_138 : ((Jvm.Cond.methodLink "AppendOnlyTree$Tree" (56 : Nat) ({ cls := "AppendOnlyTree$Tree", name := "takeEntry", desc := "(II)I" } : Jvm.MethodName)) : Cond) ∈ wT := lw_a (List.mem_of_getElem? (i := 173) rfl) rfl
theorem q_139 : ((Jvm.Cond.instanceMethod ({ cls := "AppendOnlyTree$Tree", name := "takeEntry", desc := "(II)I" } : Jvm.MethodName)) : Cond) ∈ wT := lw_a (List.mem_of_getElem? (i := 175) rfl) rfl
theorem q_140 : ((Jvm.Cond.code ({ cls := "AppendOnlyTree$Tree", name := "takeEntry", desc := "(II)I" } : Jvm.MethodName) prog_3_method_22_code (4 : Nat) (Option.some Jvm.ClassFile.FieldType.int)) : Cond) ∈ wT := lw_a (List.mem_of_getElem? (i := 176) rfl) rfl
theorem q_141 : ((Jvm.Cond.methodLink "AppendOnlyTree$Tree" (36 : Nat) ({ cls := "AppendOnlyTree$Tree", name := "target", desc := "(II)I" } : Jvm.MethodName)) : Cond) ∈ wT := lw_a (List.mem_of_getElem? (i := 177) rfl) rfl
theorem q_142 : ((Jvm.Cond.methodLink "AppendOnlyTree$Log" (32 : Nat) ({ cls := "AppendOnlyTree$Tree", name := "moveEntry", desc := "(IIII)V" } : Jvm.MethodName)) : Cond) ∈ wT := lw_a (List.mem_of_getElem? (i := 178) rfl) rfl
theorem q_143 : ((Jvm.Cond.instanceMethod ({ cls := "AppendOnlyTree$Tree", name := "moveEntry", desc := "(IIII)V" } : Jvm.MethodName)) : Cond) ∈ wT := lw_a (List.mem_of_getElem? (i := 179) rfl) rfl
theorem q_144 : ((Jvm.Cond.selects "AppendOnlyTree$Tree" ({ cls := "AppendOnlyTree$Tree", name := "moveEntry", desc := "(IIII)V" } : Jvm.MethodName) ({ cls := "AppendOnlyTree$Tree", name := "moveEntry", desc := "(IIII)V" } : Jvm.MethodName)) : Cond) ∈ wT := lw_a (List.mem_of_getElem? (i := 180) rfl) rfl
theorem q_145 : ((Jvm.Cond.code ({ cls := "AppendOnlyTree$Tree", name := "moveEntry", desc := "(IIII)V" } : Jvm.MethodName) prog_3_method_19_code (6 : Nat) (Option.none : Option Jvm.ClassFile.FieldType)) : Cond) ∈ wT := lw_a (List.mem_of_getElem? (i := 181) rfl) rfl
theorem q_146 : ((Jvm.Cond.methodLink "AppendOnlyTree$Log" (36 : Nat) ({ cls := "AppendOnlyTree$Tree", name := "setInt", desc := "(III)V" } : Jvm.MethodName)) : Cond) ∈ wT := lw_a (List.mem_of_getElem? (i := 182) rfl) rfl
theorem q_147 : ((Jvm.Cond.instanceMethod ({ cls := "AppendOnlyTree$Tree", name := "setInt", desc := "(III)V" } : Jvm.MethodName)) : Cond) ∈ wT := lw_a (List.mem_of_getElem? (i := 183) rfl) rfl
theorem q_148 : ((Jvm.Cond.selects "AppendOnlyTree$Tree" ({ cls := "AppendOnlyTree$Tree", name := "setInt", desc := "(III)V" } : Jvm.MethodName) ({ cls := "AppendOnlyTree$Tree", name := "setInt", desc := "(III)V" } : Jvm.MethodName)) : Cond) ∈ wT := lw_a (List.mem_of_getElem? (i := 184) rfl) rfl
theorem q_149 : ((Jvm.Cond.code ({ cls := "AppendOnlyTree$Tree", name := "setInt", desc := "(III)V" } : Jvm.MethodName) prog_3_method_20_code (4 : Nat) (Option.none : Option Jvm.ClassFile.FieldType)) : Cond) ∈ wT := lw_a (List.mem_of_getElem? (i := 185) rfl) rfl
theorem q_150 : ((Jvm.Cond.methodLink "AppendOnlyTree$Tree" (59 : Nat) ({ cls := "java/lang/Math", name := "max", desc := "(II)I" } : Jvm.MethodName)) : Cond) ∈ wT := lw_a (List.mem_of_getElem? (i := 186) rfl) rfl
theorem q_151 : ((Jvm.Cond.methodLink "AppendOnlyTree$Log" (39 : Nat) ({ cls := "AppendOnlyTree$Tree", name := "setSize", desc := "(II)V" } : Jvm.MethodName)) : Cond) ∈ wT := lw_a (List.mem_of_getElem? (i := 187) rfl) rfl
theorem q_152 : ((Jvm.Cond.instanceMethod ({ cls := "AppendOnlyTree$Tree", name := "setSize", desc := "(II)V" } : Jvm.MethodName)) : Cond) ∈ wT := lw_a (List.mem_of_getElem? (i := 188) rfl) rfl
theorem q_153 : ((Jvm.Cond.selects "AppendOnlyTree$Tree" ({ cls := "AppendOnlyTree$Tree", name := "setSize", desc := "(II)V" } : Jvm.MethodName) ({ cls := "AppendOnlyTree$Tree", name := "setSize", desc := "(II)V" } : Jvm.MethodName)) : Cond) ∈ wT := lw_a (List.mem_of_getElem? (i := 189) rfl) rfl
theorem q_154 : ((Jvm.Cond.code ({ cls := "AppendOnlyTree$Tree", name := "setSize", desc := "(II)V" } : Jvm.MethodName) prog_3_method_21_code (3 : Nat) (Option.none : Option Jvm.ClassFile.FieldType)) : Cond) ∈ wT := lw_a (List.mem_of_getElem? (i := 190) rfl) rfl
theorem q_155 : ((Jvm.Cond.methodLink "AppendOnlyTreeLaw" (26 : Nat) ({ cls := "AppendOnlyTree", name := "link", desc := "(III)I" } : Jvm.MethodName)) : Cond) ∈ wT := lw_a (List.mem_of_getElem? (i := 191) rfl) rfl
theorem q_156 : ((Jvm.Cond.instanceMethod ({ cls := "AppendOnlyTree", name := "link", desc := "(III)I" } : Jvm.MethodName)) : Cond) ∈ wT := lw_a (List.mem_of_getElem? (i := 192) rfl) rfl
theorem q_157 : ((Jvm.Cond.selects "AppendOnlyTree" ({ cls := "AppendOnlyTree", name := "link", desc := "(III)I" } : Jvm.MethodName) ({ cls := "AppendOnlyTree", name := "link", desc := "(III)I" } : Jvm.MethodName)) : Cond) ∈ wT := lw_a (List.mem_of_getElem? (i := 193) rfl) rfl
theorem q_158 : ((Jvm.Cond.code ({ cls := "AppendOnlyTree", name := "link", desc := "(III)I" } : Jvm.MethodName) prog_1_method_3_code (5 : Nat) (Option.some Jvm.ClassFile.FieldType.int)) : Cond) ∈ wT := lw_a (List.mem_of_getElem? (i := 194) rfl) rfl
theorem q_159 : ((Jvm.Cond.methodLink "AppendOnlyTree" (80 : Nat) ({ cls := "AppendOnlyTree$Tree", name := "isFile", desc := "(I)Z" } : Jvm.MethodName)) : Cond) ∈ wT := lw_a (List.mem_of_getElem? (i := 195) rfl) rfl
theorem q_160 : ((Jvm.Cond.methodLink "AppendOnlyTreeLaw" (31 : Nat) ({ cls := "AppendOnlyTree", name := "remove", desc := "(II)I" } : Jvm.MethodName)) : Cond) ∈ wT := lw_a (List.mem_of_getElem? (i := 196) rfl) rfl
theorem q_161 : ((Jvm.Cond.instanceMethod ({ cls := "AppendOnlyTree", name := "remove", desc := "(II)I" } : Jvm.MethodName)) : Cond) ∈ wT := lw_a (List.mem_of_getElem? (i := 197) rfl) rfl
theorem q_162 : ((Jvm.Cond.selects "AppendOnlyTree" ({ cls := "AppendOnlyTree", name := "remove", desc := "(II)I" } : Jvm.MethodName) ({ cls := "AppendOnlyTree", name := "remove", desc := "(II)I" } : Jvm.MethodName)) : Cond) ∈ wT := lw_a (List.mem_of_getElem? (i := 198) rfl) rfl
theorem q_163 : ((Jvm.Cond.code ({ cls := "AppendOnlyTree", name := "remove", desc := "(II)I" } : Jvm.MethodName) prog_1_method_4_code (6 : Nat) (Option.some Jvm.ClassFile.FieldType.int)) : Cond) ∈ wT := lw_a (List.mem_of_getElem? (i := 199) rfl) rfl
theorem q_164 : ((Jvm.Cond.methodLink "AppendOnlyTree" (83 : Nat) ({ cls := "AppendOnlyTree$Tree", name := "links", desc := "(I)I" } : Jvm.MethodName)) : Cond) ∈ wT := lw_a (List.mem_of_getElem? (i := 200) rfl) rfl
theorem q_165 : ((Jvm.Cond.instanceMethod ({ cls := "AppendOnlyTree$Tree", name := "links", desc := "(I)I" } : Jvm.MethodName)) : Cond) ∈ wT := lw_a (List.mem_of_getElem? (i := 201) rfl) rfl
theorem q_166 : ((Jvm.Cond.selects "AppendOnlyTree$Tree" ({ cls := "AppendOnlyTree$Tree", name := "links", desc := "(I)I" } : Jvm.MethodName) ({ cls := "AppendOnlyTree$Tree", name := "links", desc := "(I)I" } : Jvm.MethodName)) : Cond) ∈ wT := lw_a (List.mem_of_getElem? (i := 202) rfl) rfl
theorem q_167 : ((Jvm.Cond.code ({ cls := "AppendOnlyTree$Tree", name := "links", desc := "(I)I" } : Jvm.MethodName) prog_3_method_7_code (2 : Nat) (Option.some Jvm.ClassFile.FieldType.int)) : Cond) ∈ wT := lw_a (List.mem_of_getElem? (i := 203) rfl) rfl
theorem q_168 : ((Jvm.Cond.methodLink "AppendOnlyTree" (86 : Nat) ({ cls := "AppendOnlyTree$Tree", name := "blocks", desc := "(I)I" } : Jvm.MethodName)) : Cond) ∈ wT := lw_a (List.mem_of_getElem? (i := 204) rfl) rfl
theorem q_169 : ((Jvm.Cond.methodLink "AppendOnlyTreeLaw" (36 : Nat) ({ cls := "AppendOnlyTree", name := "rename", desc := "(IIII)I" } : Jvm.MethodName)) : Cond) ∈ wT := lw_a (List.mem_of_getElem? (i := 205) rfl) rfl
theorem q_170 : ((Jvm.Cond.instanceMethod ({ cls := "AppendOnlyTree", name := "rename", desc := "(IIII)I" } : Jvm.MethodName)) : Cond) ∈ wT := lw_a (List.mem_of_getElem? (i := 206) rfl) rfl
theorem q_171 : ((Jvm.Cond.selects "AppendOnlyTree" ({ cls := "AppendOnlyTree", name := "rename", desc := "(IIII)I" } : Jvm.MethodName) ({ cls := "AppendOnlyTree", name := "rename", desc := "(IIII)I" } : Jvm.MethodName)) : Cond) ∈ wT := lw_a (List.mem_of_getElem? (i := 207) rfl) rfl
theorem q_172 : ((Jvm.Cond.code ({ cls := "AppendOnlyTree", name := "rename", desc := "(IIII)I" } : Jvm.MethodName) prog_1_method_5_code (6 : Nat) (Option.some Jvm.ClassFile.FieldType.int)) : Cond) ∈ wT := lw_a (List.mem_of_getElem? (i := 208) rfl) rfl
theorem q_173 : ((Jvm.Cond.methodLink "AppendOnlyTree" (89 : Nat) ({ cls := "AppendOnlyTree$Tree", name := "liesIn", desc := "(II)Z" } : Jvm.MethodName)) : Cond) ∈ wT := lw_a (List.mem_of_getElem? (i := 209) rfl) rfl
theorem q_174 : ((Jvm.Cond.instanceMethod ({ cls := "AppendOnlyTree$Tree", name := "liesIn", desc := "(II)Z" } : Jvm.MethodName)) : Cond) ∈ wT := lw_a (List.mem_of_getElem? (i := 210) rfl) rfl
theorem q_175 : ((Jvm.Cond.selects "AppendOnlyTree$Tree" ({ cls := "AppendOnlyTree$Tree", name := "liesIn", desc := "(II)Z" } : Jvm.MethodName) ({ cls := "AppendOnlyTree$Tree", name := "liesIn", desc := "(II)Z" } : Jvm.MethodName)) : Cond) ∈ wT := lw_a (List.mem_of_getElem? (i := 211) rfl) rfl
theorem q_176 : ((Jvm.Cond.code ({ cls := "AppendOnlyTree$Tree", name := "liesIn", desc := "(II)Z" } : Jvm.MethodName) prog_3_method_15_code (5 : Nat) (Option.some Jvm.ClassFile.FieldType.boolean)) : Cond) ∈ wT := lw_a (List.mem_of_getElem? (i := 212) rfl) rfl
theorem q_177 : ((Jvm.Cond.methodLink "AppendOnlyTreeLaw" (41 : Nat) ({ cls := "AppendOnlyTree", name := "write", desc := "(III)I" } : Jvm.MethodName)) : Cond) ∈ wT := lw_a (List.mem_of_getElem? (i := 213) rfl) rfl
theorem q_178 : ((Jvm.Cond.instanceMethod ({ cls := "AppendOnlyTree", name := "write", desc := "(III)I" } : Jvm.MethodName)) : Cond) ∈ wT := lw_a (List.mem_of_getElem? (i := 214) rfl) rfl
theorem q_179 : ((Jvm.Cond.selects "AppendOnlyTree" ({ cls := "AppendOnlyTree", name := "write", desc := "(III)I" } : Jvm.MethodName) ({ cls := "AppendOnlyTree", name := "write", desc := "(III)I" } : Jvm.MethodName)) : Cond) ∈ wT := lw_a (List.mem_of_getElem? (i := 215) rfl) rfl
theorem q_180 : ((Jvm.Cond.code ({ cls := "AppendOnlyTree", name := "write", desc := "(III)I" } : Jvm.MethodName) prog_1_method_6_code (5 : Nat) (Option.some Jvm.ClassFile.FieldType.int)) : Cond) ∈ wT := lw_a (List.mem_of_getElem? (i := 216) rfl) rfl
theorem q_181 : ((Jvm.Cond.methodLink "AppendOnlyTreeLaw" (45 : Nat) ({ cls := "AppendOnlyTree", name := "cut", desc := "(II)I" } : Jvm.MethodName)) : Cond) ∈ wT := lw_a (List.mem_of_getElem? (i := 217) rfl) rfl
theorem q_182 : ((Jvm.Cond.instanceMethod ({ cls := "AppendOnlyTree", name := "cut", desc := "(II)I" } : Jvm.MethodName)) : Cond) ∈ wT := lw_a (List.mem_of_getElem? (i := 218) rfl) rfl
theorem q_183 : ((Jvm.Cond.selects "AppendOnlyTree" ({ cls := "AppendOnlyTree", name := "cut", desc := "(II)I" } : Jvm.MethodName) ({ cls := "AppendOnlyTree", name := "cut", desc := "(II)I" } : Jvm.MethodName)) : Cond) ∈ wT := lw_a (List.mem_of_getElem? (i := 219) rfl) rfl
theorem q_184 : ((Jvm.Cond.code ({ cls := "AppendOnlyTree", name := "cut", desc := "(II)I" } : Jvm.MethodName) prog_1_method_7_code (4 : Nat) (Option.some Jvm.ClassFile.FieldType.int)) : Cond) ∈ wT := lw_a (List.mem_of_getElem? (i := 220) rfl) rfl
theorem q_185 : ((Jvm.Cond.methodLink "AppendOnlyTreeLaw" (49 : Nat) ({ cls := "AppendOnlyTree", name := "sync", desc := "()I" } : Jvm.MethodName)) : Cond) ∈ wT := lw_a (List.mem_of_getElem? (i := 221) rfl) rfl
theorem q_186 : ((Jvm.Cond.instanceMethod ({ cls := "AppendOnlyTree", name := "sync", desc := "()I" } : Jvm.MethodName)) : Cond) ∈ wT := lw_a (List.mem_of_getElem? (i := 222) rfl) rfl
theorem q_187 : ((Jvm.Cond.selects "AppendOnlyTree" ({ cls := "AppendOnlyTree", name := "sync", desc := "()I" } : Jvm.MethodName) ({ cls := "AppendOnlyTree", name := "sync", desc := "()I" } : Jvm.MethodName)) : Cond) ∈ wT := lw_a (List.mem_of_getElem? (i := 223) rfl) rfl
theorem q_188 : ((Jvm.Cond.code ({ cls := "AppendOnlyTree", name := "sync", desc := "()I" } : Jvm.MethodName) prog_1_method_8_code (1 : Nat) (Option.some Jvm.ClassFile.FieldType.int)) : Cond) ∈ wT := lw_a (List.mem_of_getElem? (i := 224) rfl) rfl
theorem q_189 : ((Jvm.Cond.methodLink "AppendOnlyTreeLaw" (54 : Nat) ({ cls := "AppendOnlyTree", name := "crash", desc := "(I)I" } : Jvm.MethodName)) : Cond) ∈ wT := lw_a (List.mem_of_getElem? (i := 225) rfl) rfl
theorem q_190 : ((Jvm.Cond.instanceMethod ({ cls := "AppendOnlyTree", name := "crash", desc := "(I)I" } : Jvm.MethodName)) : Cond) ∈ wT := lw_a (List.mem_of_getElem? (i := 226) rfl) rfl
theorem q_191 : ((Jvm.Cond.selects "AppendOnlyTree" ({ cls := "AppendOnlyTree", name := "crash", desc := "(I)I" } : Jvm.MethodName) ({ cls := "AppendOnlyTree", name := "crash", desc := "(I)I" } : Jvm.MethodName)) : Cond) ∈ wT := lw_a (List.mem_of_getElem? (i := 227) rfl) rfl
theorem q_192 : ((Jvm.Cond.code ({ cls := "AppendOnlyTree", name := "crash", desc := "(I)I" } : Jvm.MethodName) prog_1_method_9_code (4 : Nat) (Option.some Jvm.ClassFile.FieldType.int)) : Cond) ∈ wT := lw_a (List.mem_of_getElem? (i := 228) rfl) rfl
theorem q_193 : ((Jvm.Cond.methodLink "AppendOnlyTreeLaw" (59 : Nat) ({ cls := "AppendOnlyTree", name := "find", desc := "(II)I" } : Jvm.MethodName)) : Cond) ∈ wT := lw_a (List.mem_of_getElem? (i := 229) rfl) rfl
theorem q_194 : ((Jvm.Cond.instanceMethod ({ cls := "AppendOnlyTree", name := "find", desc := "(II)I" } : Jvm.MethodName)) : Cond) ∈ wT := lw_a (List.mem_of_getElem? (i := 230) rfl) rfl
theorem q_195 : ((Jvm.Cond.selects "AppendOnlyTree" ({ cls := "AppendOnlyTree", name := "find", desc := "(II)I" } : Jvm.MethodName) ({ cls := "AppendOnlyTree", name := "find", desc := "(II)I" } : Jvm.MethodName)) : Cond) ∈ wT := lw_a (List.mem_of_getElem? (i := 231) rfl) rfl
theorem q_196 : ((Jvm.Cond.code ({ cls := "AppendOnlyTree", name := "find", desc := "(II)I" } : Jvm.MethodName) prog_1_method_10_code (3 : Nat) (Option.some Jvm.ClassFile.FieldType.int)) : Cond) ∈ wT := lw_a (List.mem_of_getElem? (i := 232) rfl) rfl
theorem q_197 : ((Jvm.Cond.methodLink "AppendOnlyTreeLaw" (63 : Nat) ({ cls := "AppendOnlyTree", name := "entry", desc := "(II)I" } : Jvm.MethodName)) : Cond) ∈ wT := lw_a (List.mem_of_getElem? (i := 233) rfl) rfl
theorem q_198 : ((Jvm.Cond.instanceMethod ({ cls := "AppendOnlyTree", name := "entry", desc := "(II)I" } : Jvm.MethodName)) : Cond) ∈ wT := lw_a (List.mem_of_getElem? (i := 234) rfl) rfl
theorem q_199 : ((Jvm.Cond.selects "AppendOnlyTree" ({ cls := "AppendOnlyTree", name := "entry", desc := "(II)I" } : Jvm.MethodName) ({ cls := "AppendOnlyTree", name := "entry", desc := "(II)I" } : Jvm.MethodName)) : Cond) ∈ wT := lw_a (List.mem_of_getElem? (i := 235) rfl) rfl
theorem q_200 : ((Jvm.Cond.code ({ cls := "AppendOnlyTree", name := "entry", desc := "(II)I" } : Jvm.MethodName) prog_1_method_11_code (3 : Nat) (Option.some Jvm.ClassFile.FieldType.int)) : Cond) ∈ wT := lw_a (List.mem_of_getElem? (i := 236) rfl) rfl
theorem q_201 : ((Jvm.Cond.methodLink "AppendOnlyTree" (109 : Nat) ({ cls := "AppendOnlyTree$Tree", name := "nthName", desc := "(II)I" } : Jvm.MethodName)) : Cond) ∈ wT := lw_a (List.mem_of_getElem? (i := 237) rfl) rfl
theorem q_202 : ((Jvm.Cond.instanceMethod ({ cls := "AppendOnlyTree$Tree", name := "nthName", desc := "(II)I" } : Jvm.MethodName)) : Cond) ∈ wT := lw_a (List.mem_of_getElem? (i := 238) rfl) rfl
theorem q_203 : ((Jvm.Cond.selects "AppendOnlyTree$Tree" ({ cls := "AppendOnlyTree$Tree", name := "nthName", desc := "(II)I" } : Jvm.MethodName) ({ cls := "AppendOnlyTree$Tree", name := "nthName", desc := "(II)I" } : Jvm.MethodName)) : Cond) ∈ wT := lw_a (List.mem_of_getElem? (i := 239) rfl) rfl
theorem q_204 : ((Jvm.Cond.code ({ cls := "AppendOnlyTree$Tree", name := "nthName", desc := "(II)I" } : Jvm.MethodName) prog_3_method_10_code (5 : Nat) (Option.some Jvm.ClassFile.FieldType.int)) : Cond) ∈ wT := lw_b (List.mem_of_getElem? (i := 0) rfl) rfl
theorem q_205 : ((Jvm.Cond.methodLink "AppendOnlyTreeLaw" (67 : Nat) ({ cls := "AppendOnlyTree", name := "read", desc := "(II)J" } : Jvm.MethodName)) : Cond) ∈ wT := lw_b (List.mem_of_getElem? (i := 1) rfl) rfl
theorem q_206 : ((Jvm.Cond.instanceMethod ({ cls := "AppendOnlyTree", name := "read", desc := "(II)J" } : Jvm.MethodName)) : Cond) ∈ wT := lw_b (List.mem_of_getElem? (i := 2) rfl) rfl
theorem q_207 : ((Jvm.Cond.selects "AppendOnlyTree" ({ cls := "AppendOnlyTree", name := "read", desc := "(II)J" } : Jvm.MethodName) ({ cls := "AppendOnlyTree", name := "read", desc := "(II)J" } : Jvm.MethodName)) : Cond) ∈ wT := lw_b (List.mem_of_getElem? (i := 3) rfl) rfl
theorem q_208 : ((Jvm.Cond.code ({ cls := "AppendOnlyTree", name := "read", desc := "(II)J" } : Jvm.MethodName) prog_1_method_12_code (3 : Nat) (Option.some Jvm.ClassFile.FieldType.long)) : Cond) ∈ wT := lw_b (List.mem_of_getElem? (i := 4) rfl) rfl
theorem q_209 : ((Jvm.Cond.constantLong "AppendOnlyTree" (112 : Nat) (1000000000000 : Int64)) : Cond) ∈ wT := lw_b (List.mem_of_getElem? (i := 5) rfl) rfl
theorem q_210 : ((Jvm.Cond.methodLink "AppendOnlyTree" (114 : Nat) ({ cls := "AppendOnlyTree$Tree", name := "value", desc := "(II)I" } : Jvm.MethodName)) : Cond) ∈ wT := lw_b (List.mem_of_getElem? (i := 6) rfl) rfl
theorem q_211 : ((Jvm.Cond.instanceMethod ({ cls := "AppendOnlyTree$Tree", name := "value", desc := "(II)I" } : Jvm.MethodName)) : Cond) ∈ wT := lw_b (List.mem_of_getElem? (i := 7) rfl) rfl
theorem q_212 : ((Jvm.Cond.selects "AppendOnlyTree$Tree" ({ cls := "AppendOnlyTree$Tree", name := "value", desc := "(II)I" } : Jvm.MethodName) ({ cls := "AppendOnlyTree$Tree", name := "value", desc := "(II)I" } : Jvm.MethodName)) : Cond) ∈ wT := lw_b (List.mem_of_getElem? (i := 8) rfl) rfl
theorem q_213 : ((Jvm.Cond.code ({ cls := "AppendOnlyTree$Tree", name := "value", desc := "(II)I" } : Jvm.MethodName) prog_3_method_9_code (3 : Nat) (Option.some Jvm.ClassFile.FieldType.int)) : Cond) ∈ wT := lw_b (List.mem_of_getElem? (i := 9) rfl) rfl
theorem q_214 : ((Jvm.Cond.methodLink "AppendOnlyTreeLaw" (72 : Nat) ({ cls := "AppendOnlyTree", name := "tell", desc := "(II)I" } : Jvm.MethodName)) : Cond) ∈ wT := lw_b (List.mem_of_getElem? (i := 10) rfl) rfl
theorem q_215 : ((Jvm.Cond.instanceMethod ({ cls := "AppendOnlyTree", name := "tell", desc := "(II)I" } : Jvm.MethodName)) : Cond) ∈ wT := lw_b (List.mem_of_getElem? (i := 11) rfl) rfl
theorem q_216 : ((Jvm.Cond.selects "AppendOnlyTree" ({ cls := "AppendOnlyTree", name := "tell", desc := "(II)I" } : Jvm.MethodName) ({ cls := "AppendOnlyTree", name := "tell", desc := "(II)I" } : Jvm.MethodName)) : Cond) ∈ wT := lw_b (List.mem_of_getElem? (i := 12) rfl) rfl
theorem q_217 : ((Jvm.Cond.code ({ cls := "AppendOnlyTree", name := "tell", desc := "(II)I" } : Jvm.MethodName) prog_1_method_13_code (3 : Nat) (Option.some Jvm.ClassFile.FieldType.int)) : Cond) ∈ wT := lw_b (List.mem_of_getElem? (i := 13) rfl) rfl
theorem q_218 : ((Jvm.Cond.methodLink "AppendOnlyTree" (117 : Nat) ({ cls := "AppendOnlyTree$Tree", name := "kind", desc := "(I)I" } : Jvm.MethodName)) : Cond) ∈ wT := lw_b (List.mem_of_getElem? (i := 14) rfl) rfl
theorem q_219 : ((Jvm.Cond.instanceMethod ({ cls := "AppendOnlyTree$Tree", name := "kind", desc := "(I)I" } : Jvm.MethodName)) : Cond) ∈ wT := lw_b (List.mem_of_getElem? (i := 15) rfl) rfl
theorem q_220 : ((Jvm.Cond.selects "AppendOnlyTree$Tree" ({ cls := "AppendOnlyTree$Tree", name := "kind", desc := "(I)I" } : Jvm.MethodName) ({ cls := "AppendOnlyTree$Tree", name := "kind", desc := "(I)I" } : Jvm.MethodName)) : Cond) ∈ wT := lw_b (List.mem_of_getElem? (i := 16) rfl) rfl
theorem q_221 : ((Jvm.Cond.code ({ cls := "AppendOnlyTree$Tree", name := "kind", desc := "(I)I" } : Jvm.MethodName) prog_3_method_3_code (2 : Nat) (Option.some Jvm.ClassFile.FieldType.int)) : Cond) ∈ wT := lw_b (List.mem_of_getElem? (i := 17) rfl) rfl
theorem q_222 : ((Jvm.Cond.methodLink "AppendOnlyTreeLaw" (76 : Nat) ({ cls := "AppendOnlyTree", name := "count", desc := "(I)I" } : Jvm.MethodName)) : Cond) ∈ wT := lw_b (List.mem_of_getElem? (i := 18) rfl) rfl
theorem q_223 : ((Jvm.Cond.instanceMethod ({ cls := "AppendOnlyTree", name := "count", desc := "(I)I" } : Jvm.MethodName)) : Cond) ∈ wT := lw_b (List.mem_of_getElem? (i := 19) rfl) rfl
theorem q_224 : ((Jvm.Cond.selects "AppendOnlyTree" ({ cls := "AppendOnlyTree", name := "count", desc := "(I)I" } : Jvm.MethodName) ({ cls := "AppendOnlyTree", name := "count", desc := "(I)I" } : Jvm.MethodName)) : Cond) ∈ wT := lw_b (List.mem_of_getElem? (i := 20) rfl) rfl
theorem q_225 : ((Jvm.Cond.code ({ cls := "AppendOnlyTree", name := "count", desc := "(I)I" } : Jvm.MethodName) prog_1_method_14_code (2 : Nat) (Option.some Jvm.ClassFile.FieldType.int)) : Cond) ∈ wT := lw_b (List.mem_of_getElem? (i := 21) rfl) rfl
theorem q_226 : ((Jvm.Cond.methodLink "AppendOnlyTree" (120 : Nat) ({ cls := "AppendOnlyTree$Tree", name := "nodesThere", desc := "()I" } : Jvm.MethodName)) : Cond) ∈ wT := lw_b (List.mem_of_getElem? (i := 22) rfl) rfl
theorem q_227 : ((Jvm.Cond.instanceMethod ({ cls := "AppendOnlyTree$Tree", name := "nodesThere", desc := "()I" } : Jvm.MethodName)) : Cond) ∈ wT := lw_b (List.mem_of_getElem? (i := 23) rfl) rfl
theorem q_228 : ((Jvm.Cond.selects "AppendOnlyTree$Tree" ({ cls := "AppendOnlyTree$Tree", name := "nodesThere", desc := "()I" } : Jvm.MethodName) ({ cls := "AppendOnlyTree$Tree", name := "nodesThere", desc := "()I" } : Jvm.MethodName)) : Cond) ∈ wT := lw_b (List.mem_of_getElem? (i := 24) rfl) rfl
theorem q_229 : ((Jvm.Cond.code ({ cls := "AppendOnlyTree$Tree", name := "nodesThere", desc := "()I" } : Jvm.MethodName) prog_3_method_12_code (3 : Nat) (Option.some Jvm.ClassFile.FieldType.int)) : Cond) ∈ wT := lw_b (List.mem_of_getElem? (i := 25) rfl) rfl
theorem q_230 : ((Jvm.Cond.methodLink "AppendOnlyTreeLaw" (9 : Nat) ({ cls := "AppendOnlyTreeLaw", name := "cell", desc := "([II)I" } : Jvm.MethodName)) : Cond) ∈ wT := lw_b (List.mem_of_getElem? (i := 26) rfl) rfl
theorem q_231 : ((Jvm.Cond.static ({ cls := "AppendOnlyTreeLaw", name := "cell", desc := "([II)I" } : Jvm.MethodName)) : Cond) ∈ wT := lw_b (List.mem_of_getElem? (i := 27) rfl) rfl
theorem q_232 : ((Jvm.Cond.code ({ cls := "AppendOnlyTreeLaw", name := "cell", desc := "([II)I" } : Jvm.MethodName) method_2_code (2 : Nat) (Option.some Jvm.ClassFile.FieldType.int)) : Cond) ∈ wT := lw_b (List.mem_of_getElem? (i := 28) rfl) rfl
theorem q_233 : ((Jvm.Cond.classLink "AppendOnlyTreeLaw" (18 : Nat) "AppendOnlyTreeModel") : Cond) ∈ wT := lw_b (List.mem_of_getElem? (i := 29) rfl) rfl
theorem q_234 : ((Jvm.Cond.instantiable "AppendOnlyTreeModel" (9 : Nat)) : Cond) ∈ wT := lw_b (List.mem_of_getElem? (i := 30) rfl) rfl
theorem q_235 : ((Jvm.Cond.methodLink "AppendOnlyTreeLaw" (20 : Nat) ({ cls := "AppendOnlyTreeModel", name := "<init>", desc := "(I)V" } : Jvm.MethodName)) : Cond) ∈ wT := lw_b (List.mem_of_getElem? (i := 31) rfl) rfl
theorem q_236 : ((Jvm.Cond.instanceMethod ({ cls := "AppendOnlyTreeModel", name := "<init>", desc := "(I)V" } : Jvm.MethodName)) : Cond) ∈ wT := lw_b (List.mem_of_getElem? (i := 32) rfl) rfl
theorem q_237 : ((Jvm.Cond.code ({ cls := "AppendOnlyTreeModel", name := "<init>", desc := "(I)V" } : Jvm.MethodName) prog_5_method_1_code (4 : Nat) (Option.none : Option Jvm.ClassFile.FieldType)) : Cond) ∈ wT := lw_b (List.mem_of_getElem? (i := 33) rfl) rfl
theorem q_238 : ((Jvm.Cond.methodLink "AppendOnlyTreeModel" (1 : Nat) ({ cls := "java/lang/Object", name := "<init>", desc := "()V" } : Jvm.MethodName)) : Cond) ∈ wT := lw_b (List.mem_of_getElem? (i := 34) rfl) rfl
theorem q_239 : ((Jvm.Cond.methodLink "AppendOnlyTreeModel" (32 : Nat) ({ cls := "AppendOnlyTreeModel", name := "copy", desc := "(II)V" } : Jvm.MethodName)) : Cond) ∈ wT := lw_b (List.mem_of_getElem? (i := 35) rfl) rfl
theorem q_240 : ((Jvm.Cond.instanceMethod ({ cls := "AppendOnlyTreeModel", name := "copy", desc := "(II)V" } : Jvm.MethodName)) : Cond) ∈ wT := lw_b (List.mem_of_getElem? (i := 37) rfl) rfl
theorem q_241 : ((Jvm.Cond.code ({ cls := "AppendOnlyTreeModel", name := "copy", desc := "(II)V" } : Jvm.MethodName) prog_5_method_2_code (4 : Nat) (Option.none : Option Jvm.ClassFile.FieldType)) : Cond) ∈ wT := lw_b (List.mem_of_getElem? (i := 38) rfl) rfl
theorem q_242 : ((Jvm.Cond.fieldLink "AppendOnlyTreeModel" (29 : Nat) "AppendOnlyTreeModel" "limit" "I") : Cond) ∈ wT := lw_b (List.mem_of_getElem? (i := 39) rfl) rfl
theorem q_243 : ((Jvm.Cond.fieldLink "AppendOnlyTreeModel" (7 : Nat) "AppendOnlyTreeModel" "kind" "[I") : Cond) ∈ wT := lw_b (List.mem_of_getElem? (i := 40) rfl) rfl
theorem q_244 : ((Jvm.Cond.fieldLink "AppendOnlyTreeModel" (13 : Nat) "AppendOnlyTreeModel" "size" "[I") : Cond) ∈ wT := lw_b (List.mem_of_getElem? (i := 41) rfl) rfl
theorem q_245 : ((Jvm.Cond.fieldLink "AppendOnlyTreeModel" (16 : Nat) "AppendOnlyTreeModel" "content" "[I") : Cond) ∈ wT := lw_b (List.mem_of_getElem? (i := 42) rfl) rfl
theorem q_246 : ((Jvm.Cond.fieldLink "AppendOnlyTreeModel" (19 : Nat) "AppendOnlyTreeModel" "entries" "[I") : Cond) ∈ wT := lw_b (List.mem_of_getElem? (i := 43) rfl) rfl
theorem q_247 : ((Jvm.Cond.fieldLink "AppendOnlyTreeModel" (22 : Nat) "AppendOnlyTreeModel" "kept" "I") : Cond) ∈ wT := lw_b (List.mem_of_getElem? (i := 44) rfl) rfl
theorem q_248 : ((Jvm.Cond.fieldLink "AppendOnlyTreeModel" (87 : Nat) "AppendOnlyTreeModel" "syncs" "I") : Cond) ∈ wT := lw_b (List.mem_of_getElem? (i := 45) rfl) rfl
theorem q_249 : ((Jvm.Cond.fieldLink "AppendOnlyTreeModel" (58 : Nat) "AppendOnlyTreeModel" "changes" "I") : Cond) ∈ wT := lw_b (List.mem_of_getElem? (i := 46) rfl) rfl
theorem q_250 : ((Jvm.Cond.fieldLink "AppendOnlyTreeModel" (26 : Nat) "AppendOnlyTreeModel" "change" "[I") : Cond) ∈ wT := lw_b (List.mem_of_getElem? (i := 47) rfl) rfl
theorem q_251 : ((Jvm.Cond.methodLink "AppendOnlyTreeLaw" (25 : Nat) ({ cls := "AppendOnlyTreeModel", name := "create", desc := "(IIZ)I" } : Jvm.MethodName)) : Cond) ∈ wT := lw_b (List.mem_of_getElem? (i := 67) rfl) rfl
theorem q_252 : ((Jvm.Cond.instanceMethod ({ cls := "AppendOnlyTreeModel", name := "create", desc := "(IIZ)I" } : Jvm.MethodName)) : Cond) ∈ wT := lw_b (List.mem_of_getElem? (i := 68) rfl) rfl
theorem q_253 : ((Jvm.Cond.selects "AppendOnlyTreeModel" ({ cls := "AppendOnlyTreeModel", name := "create", desc := "(IIZ)I" } : Jvm.MethodName) ({ cls := "AppendOnlyTreeModel", name := "create", desc := "(IIZ)I" } : Jvm.MethodName)) : Cond) ∈ wT := lw_b (List.mem_of_getElem? (i := 69) rfl) rfl
theorem q_254 : ((Jvm.Cond.code ({ cls := "AppendOnlyTreeModel", name := "create", desc := "(IIZ)I" } : Jvm.MethodName) prog_5_method_16_code (4 : Nat) (Option.some Jvm.ClassFile.FieldType.int)) : Cond) ∈ wT := lw_b (List.mem_of_getElem? (i := 70) rfl) rfl
theorem q_255 : ((Jvm.Cond.methodLink "AppendOnlyTreeModel" (78 : Nat) ({ cls := "AppendOnlyTreeModel", name := "out", desc := "(II)Z" } : Jvm.MethodName)) : Cond) ∈ wT := lw_b (List.mem_of_getElem? (i := 71) rfl) rfl
theorem q_256 : ((Jvm.Cond.static ({ cls := "AppendOnlyTreeModel", name := "out", desc := "(II)Z" } : Jvm.MethodName)) : Cond) ∈ wT := lw_b (List.mem_of_getElem? (i := 72) rfl) rfl
theorem q_257 : ((Jvm.Cond.code ({ cls := "AppendOnlyTreeModel", name := "out", desc := "(II)Z" } : Jvm.MethodName) prog_5_method_3_code (2 : Nat) (Option.some Jvm.ClassFile.FieldType.boolean)) : Cond) ∈ wT := lw_b (List.mem_of_getElem? (i := 73) rfl) rfl
theorem q_258 : ((Jvm.Cond.methodLink "AppendOnlyTreeModel" (81 : Nat) ({ cls := "AppendOnlyTreeModel", name := "attempt", desc := "(IIIII)I" } : Jvm.MethodName)) : Cond) ∈ wT := lw_b (List.mem_of_getElem? (i := 74) rfl) rfl
theorem q_259 : ((Jvm.Cond.instanceMethod ({ cls := "AppendOnlyTreeModel", name := "attempt", desc := "(IIIII)I" } : Jvm.MethodName)) : Cond) ∈ wT := lw_b (List.mem_of_getElem? (i := 76) rfl) rfl
theorem q_260 : ((Jvm.Cond.code ({ cls := "AppendOnlyTreeModel", name := "attempt", desc := "(IIIII)I" } : Jvm.MethodName) prog_5_method_15_code (10 : Nat) (Option.some Jvm.ClassFile.FieldType.int)) : Cond) ∈ wT := lw_b (List.mem_of_getElem? (i := 77) rfl) rfl
theorem q_261 : ((Jvm.Cond.methodLink "AppendOnlyTreeModel" (64 : Nat) ({ cls := "AppendOnlyTreeModel", name := "objection", desc := "(IIIII)I" } : Jvm.MethodName)) : Cond) ∈ wT := lw_b (List.mem_of_getElem? (i := 78) rfl) rfl
theorem q_262 : ((Jvm.Cond.instanceMethod ({ cls := "AppendOnlyTreeModel", name := "objection", desc := "(IIIII)I" } : Jvm.MethodName)) : Cond) ∈ wT := lw_b (List.mem_of_getElem? (i := 80) rfl) rfl
theorem q_263 : ((Jvm.Cond.code ({ cls := "AppendOnlyTreeModel", name := "objection", desc := "(IIIII)I" } : Jvm.MethodName) prog_5_method_11_code (6 : Nat) (Option.some Jvm.ClassFile.FieldType.int)) : Cond) ∈ wT := lw_b (List.mem_of_getElem? (i := 81) rfl) rfl
theorem q_264 : ((Jvm.Cond.methodLink "AppendOnlyTreeModel" (36 : Nat) ({ cls := "AppendOnlyTreeModel", name := "isDir", desc := "(I)Z" } : Jvm.MethodName)) : Cond) ∈ wT := lw_b (List.mem_of_getElem? (i := 82) rfl) rfl
theorem q_265 : ((Jvm.Cond.instanceMethod ({ cls := "AppendOnlyTreeModel", name := "isDir", desc := "(I)Z" } : Jvm.MethodName)) : Cond) ∈ wT := lw_b (List.mem_of_getElem? (i := 84) rfl) rfl
theorem q_266 : ((Jvm.Cond.code ({ cls := "AppendOnlyTreeModel", name := "isDir", desc := "(I)Z" } : Jvm.MethodName) prog_5_method_8_code (2 : Nat) (Option.some Jvm.ClassFile.FieldType.boolean)) : Cond) ∈ wT := lw_b (List.mem_of_getElem? (i := 85) rfl) rfl
theorem q_267 : ((Jvm.Cond.methodLink "AppendOnlyTreeModel" (40 : Nat) ({ cls := "AppendOnlyTreeModel", name := "entryCount", desc := "(I)I" } : Jvm.MethodName)) : Cond) ∈ wT := lw_b (List.mem_of_getElem? (i := 86) rfl) rfl
theorem q_268 : ((Jvm.Cond.instanceMethod ({ cls := "AppendOnlyTreeModel", name := "entryCount", desc := "(I)I" } : Jvm.MethodName)) : Cond) ∈ wT := lw_b (List.mem_of_getElem? (i := 88) rfl) rfl
theorem q_269 : ((Jvm.Cond.code ({ cls := "AppendOnlyTreeModel", name := "entryCount", desc := "(I)I" } : Jvm.MethodName) prog_5_method_6_code (4 : Nat) (Option.some Jvm.ClassFile.FieldType.int)) : Cond) ∈ wT := lw_b (List.mem_of_getElem? (i := 89) rfl) rfl
theorem q_270 : ((Jvm.Cond.methodLink "AppendOnlyTreeModel" (44 : Nat) ({ cls := "AppendOnlyTreeModel", name := "nodes", desc := "()I" } : Jvm.MethodName)) : Cond) ∈ wT := lw_b (List.mem_of_getElem? (i := 90) rfl) rfl
theorem q_271 : ((Jvm.Cond.instanceMethod ({ cls := "AppendOnlyTreeModel", name := "nodes", desc := "()I" } : Jvm.MethodName)) : Cond) ∈ wT := lw_b (List.mem_of_getElem? (i := 92) rfl) rfl
theorem q_272 : ((Jvm.Cond.code ({ cls := "AppendOnlyTreeModel", name := "nodes", desc := "()I" } : Jvm.MethodName) prog_5_method_5_code (3 : Nat) (Option.some Jvm.ClassFile.FieldType.int)) : Cond) ∈ wT := lw_b (List.mem_of_getElem? (i := 93) rfl) rfl
theorem q_273 : ((Jvm.Cond.methodLink "AppendOnlyTreeModel" (48 : Nat) ({ cls := "AppendOnlyTreeModel", name := "liesIn", desc := "(II)Z" } : Jvm.MethodName)) : Cond) ∈ wT := lw_b (List.mem_of_getElem? (i := 94) rfl) rfl
theorem q_274 : ((Jvm.Cond.instanceMethod ({ cls := "AppendOnlyTreeModel", name := "liesIn", desc := "(II)Z" } : Jvm.MethodName)) : Cond) ∈ wT := lw_b (List.mem_of_getElem? (i := 96) rfl) rfl
theorem q_275 : ((Jvm.Cond.code ({ cls := "AppendOnlyTreeModel", name := "liesIn", desc := "(II)Z" } : Jvm.MethodName) prog_5_method_9_code (7 : Nat) (Option.some Jvm.ClassFile.FieldType.boolean)) : Cond) ∈ wT := lw_b (List.mem_of_getElem? (i := 97) rfl) rfl
theorem q_276 : ((Jvm.Cond.methodLink "AppendOnlyTreeModel" (68 : Nat) ({ cls := "AppendOnlyTreeModel", name := "cost", desc := "(IIII)I" } : Jvm.MethodName)) : Cond) ∈ wT := lw_b (List.mem_of_getElem? (i := 98) rfl) rfl
theorem q_277 : ((Jvm.Cond.instanceMethod ({ cls := "AppendOnlyTreeModel", name := "cost", desc := "(IIII)I" } : Jvm.MethodName)) : Cond) ∈ wT := lw_b (List.mem_of_getElem? (i := 100) rfl) rfl
theorem q_278 : ((Jvm.Cond.code ({ cls := "AppendOnlyTreeModel", name := "cost", desc := "(IIII)I" } : Jvm.MethodName) prog_5_method_12_code (5 : Nat) (Option.some Jvm.ClassFile.FieldType.int)) : Cond) ∈ wT := lw_b (List.mem_of_getElem? (i := 101) rfl) rfl
theorem q_279 : ((Jvm.Cond.methodLink "AppendOnlyTreeModel" (52 : Nat) ({ cls := "AppendOnlyTreeModel", name := "links", desc := "(I)I" } : Jvm.MethodName)) : Cond) ∈ wT := lw_b (List.mem_of_getElem? (i := 102) rfl) rfl
theorem q_280 : ((Jvm.Cond.instanceMethod ({ cls := "AppendOnlyTreeModel", name := "links", desc := "(I)I" } : Jvm.MethodName)) : Cond) ∈ wT := lw_b (List.mem_of_getElem? (i := 104) rfl) rfl
theorem q_281 : ((Jvm.Cond.code ({ cls := "AppendOnlyTreeModel", name := "links", desc := "(I)I" } : Jvm.MethodName) prog_5_method_7_code (4 : Nat) (Option.some Jvm.ClassFile.FieldType.int)) : Cond) ∈ wT := lw_b (List.mem_of_getElem? (i := 105) rfl) rfl
theorem q_282 : ((Jvm.Cond.methodLink "AppendOnlyTreeModel" (72 : Nat) ({ cls := "AppendOnlyTreeModel", name := "sync", desc := "()I" } : Jvm.MethodName)) : Cond) ∈ wT := lw_b (List.mem_of_getElem? (i := 106) rfl) rfl
theorem q_283 : ((Jvm.Cond.instanceMethod ({ cls := "AppendOnlyTreeModel", name := "sync", desc := "()I" } : Jvm.MethodName)) : Cond) ∈ wT := lw_b (List.mem_of_getElem? (i := 107) rfl) rfl
theorem q_284 : ((Jvm.Cond.selects "AppendOnlyTreeModel" ({ cls := "AppendOnlyTreeModel", name := "sync", desc := "()I" } : Jvm.MethodName) ({ cls := "AppendOnlyTreeModel", name := "sync", desc := "()I" } : Jvm.MethodName)) : Cond) ∈ wT := lw_b (List.mem_of_getElem? (i := 108) rfl) rfl
theorem q_285 : ((Jvm.Cond.code ({ cls := "AppendOnlyTreeModel", name := "sync", desc := "()I" } : Jvm.MethodName) prog_5_method_22_code (1 : Nat) (Option.some Jvm.ClassFile.FieldType.int)) : Cond) ∈ wT := lw_b (List.mem_of_getElem? (i := 109) rfl) rfl
theorem q_286 : ((Jvm.Cond.methodLink "AppendOnlyTreeModel" (84 : Nat) ({ cls := "AppendOnlyTreeModel", name := "settle", desc := "()V" } : Jvm.MethodName)) : Cond) ∈ wT := lw_b (List.mem_of_getElem? (i := 110) rfl) rfl
theorem q_287 : ((Jvm.Cond.instanceMethod ({ cls := "AppendOnlyTreeModel", name := "settle", desc := "()V" } : Jvm.MethodName)) : Cond) ∈ wT := lw_b (List.mem_of_getElem? (i := 112) rfl) rfl
theorem q_288 : ((Jvm.Cond.code ({ cls := "AppendOnlyTreeModel", name := "settle", desc := "()V" } : Jvm.MethodName) prog_5_method_14_code (1 : Nat) (Option.none : Option Jvm.ClassFile.FieldType)) : Cond) ∈ wT := lw_b (List.mem_of_getElem? (i := 113) rfl) rfl
theorem q_289 : ((Jvm.Cond.methodLink "AppendOnlyTreeModel" (61 : Nat) ({ cls := "AppendOnlyTreeModel", name := "live", desc := "()I" } : Jvm.MethodName)) : Cond) ∈ wT := lw_b (List.mem_of_getElem? (i := 114) rfl) rfl
theorem q_290 : ((Jvm.Cond.instanceMethod ({ cls := "AppendOnlyTreeModel", name := "live", desc := "()I" } : Jvm.MethodName)) : Cond) ∈ wT := lw_b (List.mem_of_getElem? (i := 116) rfl) rfl
theorem q_291 : ((Jvm.Cond.code ({ cls := "AppendOnlyTreeModel", name := "live", desc := "()I" } : Jvm.MethodName) prog_5_method_4_code (3 : Nat) (Option.some Jvm.ClassFile.FieldType.int)) : Cond) ∈ wT := lw_b (List.mem_of_getElem? (i := 117) rfl) rfl
theorem q_292 : ((Jvm.Cond.methodLink "AppendOnlyTreeModel" (75 : Nat) ({ cls := "AppendOnlyTreeModel", name := "perform", desc := "(IIIII)I" } : Jvm.MethodName)) : Cond) ∈ wT := lw_b (List.mem_of_getElem? (i := 118) rfl) rfl
theorem q_293 : ((Jvm.Cond.instanceMethod ({ cls := "AppendOnlyTreeModel", name := "perform", desc := "(IIIII)I" } : Jvm.MethodName)) : Cond) ∈ wT := lw_b (List.mem_of_getElem? (i := 120) rfl) rfl
theorem q_294 : ((Jvm.Cond.code ({ cls := "AppendOnlyTreeModel", name := "perform", desc := "(IIIII)I" } : Jvm.MethodName) prog_5_method_13_code (7 : Nat) (Option.some Jvm.ClassFile.FieldType.int)) : Cond) ∈ wT := lw_b (List.mem_of_getElem? (i := 121) rfl) rfl
theorem q_295 : ((Jvm.Cond.methodLink "AppendOnlyTreeModel" (55 : Nat) ({ cls := "AppendOnlyTreeModel", name := "leastAbsent", desc := "()I" } : Jvm.MethodName)) : Cond) ∈ wT := lw_b (List.mem_of_getElem? (i := 122) rfl) rfl
theorem q_296 : ((Jvm.Cond.instanceMethod ({ cls := "AppendOnlyTreeModel", name := "leastAbsent", desc := "()I" } : Jvm.MethodName)) : Cond) ∈ wT := lw_b (List.mem_of_getElem? (i := 124) rfl) rfl
theorem q_297 : ((Jvm.Cond.code ({ cls := "AppendOnlyTreeModel", name := "leastAbsent", desc := "()I" } : Jvm.MethodName) prog_5_method_10_code (2 : Nat) (Option.some Jvm.ClassFile.FieldType.int)) : Cond) ∈ wT := lw_b (List.mem_of_getElem? (i := 125) rfl) rfl
theorem q_298 : ((Jvm.Cond.methodLink "AppendOnlyTreeLaw" (30 : Nat) ({ cls := "AppendOnlyTreeModel", name := "link", desc := "(III)I" } : Jvm.MethodName)) : Cond) ∈ wT := lw_b (List.mem_of_getElem? (i := 126) rfl) rfl
theorem q_299 : ((Jvm.Cond.instanceMethod ({ cls := "AppendOnlyTreeModel", name := "link", desc := "(III)I" } : Jvm.MethodName)) : Cond) ∈ wT := lw_b (List.mem_of_getElem? (i := 127) rfl) rfl
theorem q_300 : ((Jvm.Cond.selects "AppendOnlyTreeModel" ({ cls := "AppendOnlyTreeModel", name := "link", desc := "(III)I" } : Jvm.MethodName) ({ cls := "AppendOnlyTreeModel", name := "link", desc := "(III)I" } : Jvm.MethodName)) : Cond) ∈ wT := lw_b (List.mem_of_getElem? (i := 128) rfl) rfl
theorem q_301 : ((Jvm.Cond.code ({ cls := "AppendOnlyTreeModel", name := "link", desc := "(III)I" } : Jvm.MethodName) prog_5_method_17_code (4 : Nat) (Option.some Jvm.ClassFile.FieldType.int)) : Cond) ∈ wT := lw_b (List.mem_of_getElem? (i := 129) rfl) rfl
theorem q_302 : ((Jvm.Cond.methodLink "AppendOnlyTreeLaw" (35 : Nat) ({ cls := "AppendOnlyTreeModel", name := "remove", desc := "(II)I" } : Jvm.MethodName)) : Cond) ∈ wT := lw_b (List.mem_of_getElem? (i := 130) rfl) rfl
theorem q_303 : ((Jvm.Cond.instanceMethod ({ cls := "AppendOnlyTreeModel", name := "remove", desc := "(II)I" } : Jvm.MethodName)) : Cond) ∈ wT := lw_b (List.mem_of_getElem? (i := 131) rfl) rfl
theorem q_304 : ((Jvm.Cond.selects "AppendOnlyTreeModel" ({ cls := "AppendOnlyTreeModel", name := "remove", desc := "(II)I" } : Jvm.MethodName) ({ cls := "AppendOnlyTreeModel", name := "remove", desc := "(II)I" } : Jvm.MethodName)) : Cond) ∈ wT := lw_b (List.mem_of_getElem? (i := 132) rfl) rfl
theorem q_305 : ((Jvm.Cond.code ({ cls := "AppendOnlyTreeModel", name := "remove", desc := "(II)I" } : Jvm.MethodName) prog_5_method_18_code (3 : Nat) (Option.some Jvm.ClassFile.FieldType.int)) : Cond) ∈ wT := lw_b (List.mem_of_getElem? (i := 133) rfl) rfl
theorem q_306 : ((Jvm.Cond.methodLink "AppendOnlyTreeLaw" (40 : Nat) ({ cls := "AppendOnlyTreeModel", name := "rename", desc := "(IIII)I" } : Jvm.MethodName)) : Cond) ∈ wT := lw_b (List.mem_of_getElem? (i := 134) rfl) rfl
theorem q_307 : ((Jvm.Cond.instanceMethod ({ cls := "AppendOnlyTreeModel", name := "rename", desc := "(IIII)I" } : Jvm.MethodName)) : Cond) ∈ wT := lw_b (List.mem_of_getElem? (i := 135) rfl) rfl
theorem q_308 : ((Jvm.Cond.selects "AppendOnlyTreeModel" ({ cls := "AppendOnlyTreeModel", name := "rename", desc := "(IIII)I" } : Jvm.MethodName) ({ cls := "AppendOnlyTreeModel", name := "rename", desc := "(IIII)I" } : Jvm.MethodName)) : Cond) ∈ wT := lw_b (List.mem_of_getElem? (i := 136) rfl) rfl
theorem q_309 : ((Jvm.Cond.code ({ cls := "AppendOnlyTreeModel", name := "rename", desc := "(IIII)I" } : Jvm.MethodName) prog_5_method_19_code (5 : Nat) (Option.some Jvm.ClassFile.FieldType.int)) : Cond) ∈ wT := lw_b (List.mem_of_getElem? (i := 137) rfl) rfl
theorem q_310 : ((Jvm.Cond.methodLink "AppendOnlyTreeLaw" (44 : Nat) ({ cls := "AppendOnlyTreeModel", name := "write", desc := "(III)I" } : Jvm.MethodName)) : Cond) ∈ wT := lw_b (List.mem_of_getElem? (i := 138) rfl) rfl
theorem q_311 : ((Jvm.Cond.instanceMethod ({ cls := "AppendOnlyTreeModel", name := "write", desc := "(III)I" } : Jvm.MethodName)) : Cond) ∈ wT := lw_b (List.mem_of_getElem? (i := 139) rfl) rfl
theorem q_312 : ((Jvm.Cond.selects "AppendOnlyTreeModel" ({ cls := "AppendOnlyTreeModel", name := "write", desc := "(III)I" } : Jvm.MethodName) ({ cls := "AppendOnlyTreeModel", name := "write", desc := "(III)I" } : Jvm.MethodName)) : Cond) ∈ wT := lw_b (List.mem_of_getElem? (i := 140) rfl) rfl
theorem q_313 : ((Jvm.Cond.code ({ cls := "AppendOnlyTreeModel", name := "write", desc := "(III)I" } : Jvm.MethodName) prog_5_method_20_code (4 : Nat) (Option.some Jvm.ClassFile.FieldType.int)) : Cond) ∈ wT := lw_b (List.mem_of_getElem? (i := 141) rfl) rfl
theorem q_314 : ((Jvm.Cond.methodLink "AppendOnlyTreeLaw" (48 : Nat) ({ cls := "AppendOnlyTreeModel", name := "cut", desc := "(II)I" } : Jvm.MethodName)) : Cond) ∈ wT := lw_b (List.mem_of_getElem? (i := 142) rfl) rfl
theorem q_315 : ((Jvm.Cond.instanceMethod ({ cls := "AppendOnlyTreeModel", name := "cut", desc := "(II)I" } : Jvm.MethodName)) : Cond) ∈ wT := lw_b (List.mem_of_getElem? (i := 143) rfl) rfl
theorem q_316 : ((Jvm.Cond.selects "AppendOnlyTreeModel" ({ cls := "AppendOnlyTreeModel", name := "cut", desc := "(II)I" } : Jvm.MethodName) ({ cls := "AppendOnlyTreeModel", name := "cut", desc := "(II)I" } : Jvm.MethodName)) : Cond) ∈ wT := lw_b (List.mem_of_getElem? (i := 144) rfl) rfl
theorem q_317 : ((Jvm.Cond.code ({ cls := "AppendOnlyTreeModel", name := "cut", desc := "(II)I" } : Jvm.MethodName) prog_5_method_21_code (3 : Nat) (Option.some Jvm.ClassFile.FieldType.int)) : Cond) ∈ wT := lw_b (List.mem_of_getElem? (i := 145) rfl) rfl
theorem q_318 : ((Jvm.Cond.methodLink "AppendOnlyTreeLaw" (53 : Nat) ({ cls := "AppendOnlyTreeModel", name := "sync", desc := "()I" } : Jvm.MethodName)) : Cond) ∈ wT := lw_b (List.mem_of_getElem? (i := 146) rfl) rfl
theorem q_319 : ((Jvm.Cond.methodLink "AppendOnlyTreeLaw" (58 : Nat) ({ cls := "AppendOnlyTreeModel", name := "crash", desc := "(I)I" } : Jvm.MethodName)) : Cond) ∈ wT := lw_b (List.mem_of_getElem? (i := 147) rfl) rfl
theorem q_320 : ((Jvm.Cond.instanceMethod ({ cls := "AppendOnlyTreeModel", name := "crash", desc := "(I)I" } : Jvm.MethodName)) : Cond) ∈ wT := lw_b (List.mem_of_getElem? (i := 148) rfl) rfl
theorem q_321 : ((Jvm.Cond.selects "AppendOnlyTreeModel" ({ cls := "AppendOnlyTreeModel", name := "crash", desc := "(I)I" } : Jvm.MethodName) ({ cls := "AppendOnlyTreeModel", name := "crash", desc := "(I)I" } : Jvm.MethodName)) : Cond) ∈ wT := lw_b (List.mem_of_getElem? (i := 149) rfl) rfl
theorem q_322 : ((Jvm.Cond.code ({ cls := "AppendOnlyTreeModel", name := "crash", desc := "(I)I" } : Jvm.MethodName) prog_5_method_23_code (4 : Nat) (Option.some Jvm.ClassFile.FieldType.int)) : Cond) ∈ wT := lw_b (List.mem_of_getElem? (i := 150) rfl) rfl
theorem q_323 : ((Jvm.Cond.methodLink "AppendOnlyTreeLaw" (62 : Nat) ({ cls := "AppendOnlyTreeModel", name := "find", desc := "(II)I" } : Jvm.MethodName)) : Cond) ∈ wT := lw_b (List.mem_of_getElem? (i := 151) rfl) rfl
theorem q_324 : ((Jvm.Cond.instanceMethod ({ cls := "AppendOnlyTreeModel", name := "find", desc := "(II)I" } : Jvm.MethodName)) : Cond) ∈ wT := lw_b (List.mem_of_getElem? (i := 152) rfl) rfl
theorem q_325 : ((Jvm.Cond.selects "AppendOnlyTreeModel" ({ cls := "AppendOnlyTreeModel", name := "find", desc := "(II)I" } : Jvm.MethodName) ({ cls := "AppendOnlyTreeModel", name := "find", desc := "(II)I" } : Jvm.MethodName)) : Cond) ∈ wT := lw_b (List.mem_of_getElem? (i := 153) rfl) rfl
theorem q_326 : ((Jvm.Cond.code ({ cls := "AppendOnlyTreeModel", name := "find", desc := "(II)I" } : Jvm.MethodName) prog_5_method_24_code (3 : Nat) (Option.some Jvm.ClassFile.FieldType.int)) : Cond) ∈ wT := lw_b (List.mem_of_getElem? (i := 154) rfl) rfl
theorem q_327 : ((Jvm.Cond.methodLink "AppendOnlyTreeLaw" (66 : Nat) ({ cls := "AppendOnlyTreeModel", name := "entry", desc := "(II)I" } : Jvm.MethodName)) : Cond) ∈ wT := lw_b (List.mem_of_getElem? (i := 155) rfl) rfl
theorem q_328 : ((Jvm.Cond.instanceMethod ({ cls := "AppendOnlyTreeModel", name := "entry", desc := "(II)I" } : Jvm.MethodName)) : Cond) ∈ wT := lw_b (List.mem_of_getElem? (i := 156) rfl) rfl
theorem q_329 : ((Jvm.Cond.selects "AppendOnlyTreeModel" ({ cls := "AppendOnlyTreeModel", name := "entry", desc := "(II)I" } : Jvm.MethodName) ({ cls := "AppendOnlyTreeModel", name := "entry", desc := "(II)I" } : Jvm.MethodName)) : Cond) ∈ wT := lw_b (List.mem_of_getElem? (i := 157) rfl) rfl
theorem q_330 : ((Jvm.Cond.code ({ cls := "AppendOnlyTreeModel", name := "entry", desc := "(II)I" } : Jvm.MethodName) prog_5_method_25_code (5 : Nat) (Option.some Jvm.ClassFile.FieldType.int)) : Cond) ∈ wT := lw_b (List.mem_of_getElem? (i := 158) rfl) rfl
theorem q_331 : ((Jvm.Cond.methodLink "AppendOnlyTreeLaw" (71 : Nat) ({ cls := "AppendOnlyTreeModel", name := "read", desc := "(II)J" } : Jvm.MethodName)) : Cond) ∈ wT := lw_b (List.mem_of_getElem? (i := 159) rfl) rfl
theorem q_332 : ((Jvm.Cond.instanceMethod ({ cls := "AppendOnlyTreeModel", name := "read", desc := "(II)J" } : Jvm.MethodName)) : Cond) ∈ wT := lw_b (List.mem_of_getElem? (i := 160) rfl) rfl
theorem q_333 : ((Jvm.Cond.selects "AppendOnlyTreeModel" ({ cls := "AppendOnlyTreeModel", name := "read", desc := "(II)J" } : Jvm.MethodName) ({ cls := "AppendOnlyTreeModel", name := "read", desc := "(II)J" } : Jvm.MethodName)) : Cond) ∈ wT := lw_b (List.mem_of_getElem? (i := 161) rfl) rfl
theorem q_334 : ((Jvm.Cond.code ({ cls := "AppendOnlyTreeModel", name := "read", desc := "(II)J" } : Jvm.MethodName) prog_5_method_26_code (3 : Nat) (Option.some Jvm.ClassFile.FieldType.long)) : Cond) ∈ wT := lw_b (List.mem_of_getElem? (i := 162) rfl) rfl
theorem q_335 : ((Jvm.Cond.constantLong "AppendOnlyTreeModel" (90 : Nat) (1000000000000 : Int64)) : Cond) ∈ wT := lw_b (List.mem_of_getElem? (i := 163) rfl) rfl
theorem q_336 : ((Jvm.Cond.methodLink "AppendOnlyTreeLaw" (75 : Nat) ({ cls := "AppendOnlyTreeModel", name := "tell", desc := "(II)I" } : Jvm.MethodName)) : Cond) ∈ wT := lw_b (List.mem_of_getElem? (i := 164) rfl) rfl
theorem q_337 : ((Jvm.Cond.instanceMethod ({ cls := "AppendOnlyTreeModel", name := "tell", desc := "(II)I" } : Jvm.MethodName)) : Cond) ∈ wT := lw_b (List.mem_of_getElem? (i := 165) rfl) rfl
theorem q_338 : ((Jvm.Cond.selects "AppendOnlyTreeModel" ({ cls := "AppendOnlyTreeModel", name := "tell", desc := "(II)I" } : Jvm.MethodName) ({ cls := "AppendOnlyTreeModel", name := "tell", desc := "(II)I" } : Jvm.MethodName)) : Cond) ∈ wT := lw_b (List.mem_of_getElem? (i := 166) rfl) rfl
theorem q_339 : ((Jvm.Cond.code ({ cls := "AppendOnlyTreeModel", name := "tell", desc := "(II)I" } : Jvm.MethodName) prog_5_method_27_code (3 : Nat) (Option.some Jvm.ClassFile.FieldType.int)) : Cond) ∈ wT := lw_b (List.mem_of_getElem? (i := 167) rfl) rfl
theorem q_340 : ((Jvm.Cond.methodLink "AppendOnlyTreeLaw" (79 : Nat) ({ cls := "AppendOnlyTreeModel", name := "count", desc := "(I)I" } : Jvm.MethodName)) : Cond) ∈ wT := lw_b (List.mem_of_getElem? (i := 168) rfl) rfl
theorem q_341 : ((Jvm.Cond.instanceMethod ({ cls := "AppendOnlyTreeModel", name := "count", desc := "(I)I" } : Jvm.MethodName)) : Cond) ∈ wT := lw_b (List.mem_of_getElem? (i := 169) rfl) rfl
theorem q_342 : ((Jvm.Cond.selects "AppendOnlyTreeModel" ({ cls := "AppendOnlyTreeModel", name := "count", desc := "(I)I" } : Jvm.MethodName) ({ cls := "AppendOnlyTreeModel", name := "count", desc := "(I)I" } : Jvm.MethodName)) : Cond) ∈ wT := lw_b (List.mem_of_getElem? (i := 170) rfl) rfl
theorem q_343 : ((Jvm.Cond.code ({ cls := "AppendOnlyTreeModel", name := "count", desc := "(I)I" } : Jvm.MethodName) prog_5_method_28_code (2 : Nat) (Option.some Jvm.ClassFile.FieldType.int)) : Cond) ∈ wT := lw_b (List.mem_of_getElem? (i := 171) rfl) rfl
theorem q_344 : (.selects "AppendOnlyTree" ⟨"AppendOnlyTree", "makesRoom", "(II)Z"⟩ ⟨"AppendOnlyTree", "makesRoom", "(II)Z"⟩ : Cond) ∈ wT := lw_s (List.mem_of_getElem? (i := 0) rfl) rfl
theorem q_345 : (.selects "AppendOnlyTree" ⟨"AppendOnlyTree", "countedSync", "()V"⟩ ⟨"AppendOnlyTree", "countedSync", "()V"⟩ : Cond) ∈ wT := lw_s (List.mem_of_getElem? (i := 1) rfl) rfl
theorem q_346 : (.selects "AppendOnlyTree" ⟨"AppendOnlyTree", "startAfresh", "()V"⟩ ⟨"AppendOnlyTree", "startAfresh", "()V"⟩ : Cond) ∈ wT := lw_s (List.mem_of_getElem? (i := 2) rfl) rfl
theorem q_347 : (.selects "AppendOnlyTree" ⟨"AppendOnlyTree", "perform", "(IIIIII)V"⟩ ⟨"AppendOnlyTree", "perform", "(IIIIII)V"⟩ : Cond) ∈ wT := lw_s (List.mem_of_getElem? (i := 3) rfl) rfl
theorem q_348 : (.selects "AppendOnlyTree$Tree" ⟨"AppendOnlyTree$Tree", "takeEntry", "(II)I"⟩ ⟨"AppendOnlyTree$Tree", "takeEntry", "(II)I"⟩ : Cond) ∈ wT := lw_s (List.mem_of_getElem? (i := 4) rfl) rfl
theorem q_349 : (.selects "AppendOnlyTreeModel" ⟨"AppendOnlyTreeModel", "copy", "(II)V"⟩ ⟨"AppendOnlyTreeModel", "copy", "(II)V"⟩ : Cond) ∈ wT := lw_s (List.mem_of_getElem? (i := 5) rfl) rfl
theorem q_350 : (.selects "AppendOnlyTreeModel" ⟨"AppendOnlyTreeModel", "attempt", "(IIIII)I"⟩ ⟨"AppendOnlyTreeModel", "attempt", "(IIIII)I"⟩ : Cond) ∈ wT := lw_s (List.mem_of_getElem? (i := 6) rfl) rfl
theorem q_351 : (.selects "AppendOnlyTreeModel" ⟨"AppendOnlyTreeModel", "objection", "(IIIII)I"⟩ ⟨"AppendOnlyTreeModel", "objection", "(IIIII)I"⟩ : Cond) ∈ wT := lw_s (List.mem_of_getElem? (i := 7) rfl) rfl
theorem q_352 : (.selects "AppendOnlyTreeModel" ⟨"AppendOnlyTreeModel", "isDir", "(I)Z"⟩ ⟨"AppendOnlyTreeModel", "isDir", "(I)Z"⟩ : Cond) ∈ wT := lw_s (List.mem_of_getElem? (i := 8) rfl) rfl
theorem q_353 : (.selects "AppendOnlyTreeModel" ⟨"AppendOnlyTreeModel", "entryCount", "(I)I"⟩ ⟨"AppendOnlyTreeModel", "entryCount", "(I)I"⟩ : Cond) ∈ wT := lw_s (List.mem_of_getElem? (i := 9) rfl) rfl
theorem q_354 : (.selects "AppendOnlyTreeModel" ⟨"AppendOnlyTreeModel", "nodes", "()I"⟩ ⟨"AppendOnlyTreeModel", "nodes", "()I"⟩ : Cond) ∈ wT := lw_s (List.mem_of_getElem? (i := 10) rfl) rfl
theorem q_355 : (.selects "AppendOnlyTreeModel" ⟨"AppendOnlyTreeModel", "liesIn", "(II)Z"⟩ ⟨"AppendOnlyTreeModel", "liesIn", "(II)Z"⟩ : Cond) ∈ wT := lw_s (List.mem_of_getElem? (i := 11) rfl) rfl
theorem q_356 : (.selects "AppendOnlyTreeModel" ⟨"AppendOnlyTreeModel", "cost", "(IIII)I"⟩ ⟨"AppendOnlyTreeModel", "cost", "(IIII)I"⟩ : Cond) ∈ wT := lw_s (List.mem_of_getElem? (i := 12) rfl) rfl
theorem q_357 : (.selects "AppendOnlyTreeModel" ⟨"AppendOnlyTreeModel", "links", "(I)I"⟩ ⟨"AppendOnlyTreeModel", "links", "(I)I"⟩ : Cond) ∈ wT := lw_s (List.mem_of_getElem? (i := 13) rfl) rfl
theorem q_358 : (.selects "AppendOnlyTreeModel" ⟨"AppendOnlyTreeModel", "settle", "()V"⟩ ⟨"AppendOnlyTreeModel", "settle", "()V"⟩ : Cond) ∈ wT := lw_s (List.mem_of_getElem? (i := 14) rfl) rfl
theorem q_359 : (.selects "AppendOnlyTreeModel" ⟨"AppendOnlyTreeModel", "live", "()I"⟩ ⟨"AppendOnlyTreeModel", "live", "()I"⟩ : Cond) ∈ wT := lw_s (List.mem_of_getElem? (i := 15) rfl) rfl
theorem q_360 : (.selects "AppendOnlyTreeModel" ⟨"AppendOnlyTreeModel", "perform", "(IIIII)I"⟩ ⟨"AppendOnlyTreeModel", "perform", "(IIIII)I"⟩ : Cond) ∈ wT := lw_s (List.mem_of_getElem? (i := 16) rfl) rfl
theorem q_361 : (.selects "AppendOnlyTreeModel" ⟨"AppendOnlyTreeModel", "leastAbsent", "()I"⟩ ⟨"AppendOnlyTreeModel", "leastAbsent", "()I"⟩ : Cond) ∈ wT := lw_s (List.mem_of_getElem? (i := 17) rfl) rfl
end
section
/-! own base rows: the pure functions' combinators and what a walk takes out of them -/
def slet {α β : Type} (a : α) (k : α → Option β) : Option β := k a
def ard {β : Type} (f : Nat → Int32) (n : Nat) (i : Int32) (k : Int32 → Option β) : Option β := if i < 0 ∨ n ≤ i.toNatClampNeg then none else k (f i.toNatClampNeg)
def awr {β : Type} (f : Nat → Int32) (n : Nat) (i x : Int32) (k : (Nat → Int32) → Option β) : Option β := if i < 0 ∨ n ≤ i.toNatClampNeg then none else k (upd f i.toNatClampNeg x)
def acp {β : Type} (f g : Nat → Int32) (n0 n1 : Nat) (sp dp n : Int32) (k : (Nat → Int32) → Option β) : Option β := if sp < 0 ∨ dp < 0 ∨ n < 0 ∨ n0 < sp.toNatClampNeg + n.toNatClampNeg ∨ n1 < dp.toNatClampNeg + n.toNatClampNeg then none else k (va_cpy f g sp.toNatClampNeg dp.toNatClampNeg n.toNatClampNeg)
theorem slet_e {α β : Type} {a : α} {k : α → Option β} {o : β} (h : slet a k = some o) : ∃ y, y = a ∧ k y = some o := ⟨a, rfl, h⟩
theorem ard_e {β : Type} {f : Nat → Int32} {n : Nat} {i : Int32} {k : Int32 → Option β} {o : β} (h : ard f n i k = some o) : vp_in i n ∧ ∃ y, y = f i.toNatClampNeg ∧ k y = some o := by
  unfold ard at h
  by_cases c : i < 0 ∨ n ≤ i.toNatClampNeg
  · rw [if_pos c] at h; cases h
  · rw [if_neg c] at h; exact ⟨c, _, rfl, h⟩
theorem awr_e {β : Type} {f : Nat → Int32} {n : Nat} {i x : Int32} {k : (Nat → Int32) → Option β} {o : β} (h : awr f n i x k = some o) : vp_in i n ∧ ∃ y, y = upd f i.toNatClampNeg x ∧ k y = some o := by
  unfold awr at h
  by_cases c : i < 0 ∨ n ≤ i.toNatClampNeg
  · rw [if_pos c] at h; cases h
  · rw [if_neg c] at h; exact ⟨c, _, rfl, h⟩
theorem acp_e {β : Type} {f g : Nat → Int32} {n0 n1 : Nat} {sp dp n : Int32} {k : (Nat → Int32) → Option β} {o : β} (h : acp f g n0 n1 sp dp n k = some o) : (¬ sp < 0 ∧ ¬ dp < 0 ∧ ¬ n < 0 ∧ sp.toNatClampNeg + n.toNatClampNeg ≤ n0 ∧ dp.toNatClampNeg + n.toNatClampNeg ≤ n1) ∧ ∃ y, y = va_cpy f g sp.toNatClampNeg dp.toNatClampNeg n.toNatClampNeg ∧ k y = some o := by
  unfold acp at h
  by_cases c : sp < 0 ∨ dp < 0 ∨ n < 0 ∨ n0 < sp.toNatClampNeg + n.toNatClampNeg ∨ n1 < dp.toNatClampNeg + n.toNatClampNeg
  · rw [if_pos c] at h; cases h
  · rw [if_neg c] at h
    simp only [not_or, Nat.not_lt] at c
    exact ⟨c, _, rfl, h⟩
theorem it_t {β : Type} {c : Prop} {hc : Decidable c} {A B : Option β} {o : β} (h : c) (e : (@ite _ c hc A B) = some o) : A = some o := by rw [if_pos h] at e; exact e
theorem it_f {β : Type} {c : Prop} {hc : Decidable c} {A B : Option β} {o : β} (h : ¬ c) (e : (@ite _ c hc A B) = some o) : B = some o := by rw [if_neg h] at e; exact e

def bn1 {A1 β : Type} (x : Option (A1)) (k : A1 → Option β) : Option β := match x with
  | some a1 => k a1
  | none => none
theorem bn1_e {A1 β : Type} {x : Option (A1)} {k : A1 → Option β} {o : β} (h : bn1 x k = some o) : ∃ (a1 : A1), x = some a1 ∧ k a1 = some o := by
  cases x with
  | none => cases h
  | some y => exact ⟨y, rfl, h⟩
theorem bn1_s {A1 β : Type} {x : Option (A1)} {k : A1 → Option β} {a1 : A1} (h : x = some a1) : bn1 x k = k a1 := by rw [h]; rfl
def bn2 {A1 A2 β : Type} (x : Option (A1 × A2)) (k : A1 → A2 → Option β) : Option β := match x with
  | some (a1, a2) => k a1 a2
  | none => none
theorem bn2_e {A1 A2 β : Type} {x : Option (A1 × A2)} {k : A1 → A2 → Option β} {o : β} (h : bn2 x k = some o) : ∃ (a1 : A1) (a2 : A2), x = some (a1, a2) ∧ k a1 a2 = some o := by
  cases x with
  | none => cases h
  | some y => exact ⟨y.1, y.2, rfl, h⟩
theorem bn2_s {A1 A2 β : Type} {x : Option (A1 × A2)} {k : A1 → A2 → Option β} {a1 : A1} {a2 : A2} (h : x = some (a1, a2)) : bn2 x k = k a1 a2 := by rw [h]; rfl
def bn3 {A1 A2 A3 β : Type} (x : Option (A1 × A2 × A3)) (k : A1 → A2 → A3 → Option β) : Option β := match x with
  | some (a1, a2, a3) => k a1 a2 a3
  | none => none
theorem bn3_e {A1 A2 A3 β : Type} {x : Option (A1 × A2 × A3)} {k : A1 → A2 → A3 → Option β} {o : β} (h : bn3 x k = some o) : ∃ (a1 : A1) (a2 : A2) (a3 : A3), x = some (a1, a2, a3) ∧ k a1 a2 a3 = some o := by
  cases x with
  | none => cases h
  | some y => exact ⟨y.1, y.2.1, y.2.2, rfl, h⟩
theorem bn3_s {A1 A2 A3 β : Type} {x : Option (A1 × A2 × A3)} {k : A1 → A2 → A3 → Option β} {a1 : A1} {a2 : A2} {a3 : A3} (h : x = some (a1, a2, a3)) : bn3 x k = k a1 a2 a3 := by rw [h]; rfl
def bn4 {A1 A2 A3 A4 β : Type} (x : Option (A1 × A2 × A3 × A4)) (k : A1 → A2 → A3 → A4 → Option β) : Option β := match x with
  | some (a1, a2, a3, a4) => k a1 a2 a3 a4
  | none => none
theorem bn4_e {A1 A2 A3 A4 β : Type} {x : Option (A1 × A2 × A3 × A4)} {k : A1 → A2 → A3 → A4 → Option β} {o : β} (h : bn4 x k = some o) : ∃ (a1 : A1) (a2 : A2) (a3 : A3) (a4 : A4), x = some (a1, a2, a3, a4) ∧ k a1 a2 a3 a4 = some o := by
  cases x with
  | none => cases h
  | some y => exact ⟨y.1, y.2.1, y.2.2.1, y.2.2.2, rfl, h⟩
theorem bn4_s {A1 A2 A3 A4 β : Type} {x : Option (A1 × A2 × A3 × A4)} {k : A1 → A2 → A3 → A4 → Option β} {a1 : A1} {a2 : A2} {a3 : A3} {a4 : A4} (h : x = some (a1, a2, a3, a4)) : bn4 x k = k a1 a2 a3 a4 := by rw [h]; rfl
def bn5 {A1 A2 A3 A4 A5 β : Type} (x : Option (A1 × A2 × A3 × A4 × A5)) (k : A1 → A2 → A3 → A4 → A5 → Option β) : Option β := match x with
  | some (a1, a2, a3, a4, a5) => k a1 a2 a3 a4 a5
  | none => none
theorem bn5_e {A1 A2 A3 A4 A5 β : Type} {x : Option (A1 × A2 × A3 × A4 × A5)} {k : A1 → A2 → A3 → A4 → A5 → Option β} {o : β} (h : bn5 x k = some o) : ∃ (a1 : A1) (a2 : A2) (a3 : A3) (a4 : A4) (a5 : A5), x = some (a1, a2, a3, a4, a5) ∧ k a1 a2 a3 a4 a5 = some o := by
  cases x with
  | none => cases h
  | some y => exact ⟨y.1, y.2.1, y.2.2.1, y.2.2.2.1, y.2.2.2.2, rfl, h⟩
theorem bn5_s {A1 A2 A3 A4 A5 β : Type} {x : Option (A1 × A2 × A3 × A4 × A5)} {k : A1 → A2 → A3 → A4 → A5 → Option β} {a1 : A1} {a2 : A2} {a3 : A3} {a4 : A4} {a5 : A5} (h : x = some (a1, a2, a3, a4, a5)) : bn5 x k = k a1 a2 a3 a4 a5 := by rw [h]; rfl
def bn6 {A1 A2 A3 A4 A5 A6 β : Type} (x : Option (A1 × A2 × A3 × A4 × A5 × A6)) (k : A1 → A2 → A3 → A4 → A5 → A6 → Option β) : Option β := match x with
  | some (a1, a2, a3, a4, a5, a6) => k a1 a2 a3 a4 a5 a6
  | none => none
theorem bn6_e {A1 A2 A3 A4 A5 A6 β : Type} {x : Option (A1 × A2 × A3 × A4 × A5 × A6)} {k : A1 → A2 → A3 → A4 → A5 → A6 → Option β} {o : β} (h : bn6 x k = some o) : ∃ (a1 : A1) (a2 : A2) (a3 : A3) (a4 : A4) (a5 : A5) (a6 : A6), x = some (a1, a2, a3, a4, a5, a6) ∧ k a1 a2 a3 a4 a5 a6 = some o := by
  cases x with
  | none => cases h
  | some y => exact ⟨y.1, y.2.1, y.2.2.1, y.2.2.2.1, y.2.2.2.2.1, y.2.2.2.2.2, rfl, h⟩
theorem bn6_s {A1 A2 A3 A4 A5 A6 β : Type} {x : Option (A1 × A2 × A3 × A4 × A5 × A6)} {k : A1 → A2 → A3 → A4 → A5 → A6 → Option β} {a1 : A1} {a2 : A2} {a3 : A3} {a4 : A4} {a5 : A5} {a6 : A6} (h : x = some (a1, a2, a3, a4, a5, a6)) : bn6 x k = k a1 a2 a3 a4 a5 a6 := by rw [h]; rfl
def bn7 {A1 A2 A3 A4 A5 A6 A7 β : Type} (x : Option (A1 × A2 × A3 × A4 × A5 × A6 × A7)) (k : A1 → A2 → A3 → A4 → A5 → A6 → A7 → Option β) : Option β := match x with
  | some (a1, a2, a3, a4, a5, a6, a7) => k a1 a2 a3 a4 a5 a6 a7
  | none => none
theorem bn7_e {A1 A2 A3 A4 A5 A6 A7 β : Type} {x : Option (A1 × A2 × A3 × A4 × A5 × A6 × A7)} {k : A1 → A2 → A3 → A4 → A5 → A6 → A7 → Option β} {o : β} (h : bn7 x k = some o) : ∃ (a1 : A1) (a2 : A2) (a3 : A3) (a4 : A4) (a5 : A5) (a6 : A6) (a7 : A7), x = some (a1, a2, a3, a4, a5, a6, a7) ∧ k a1 a2 a3 a4 a5 a6 a7 = some o := by
  cases x with
  | none => cases h
  | some y => exact ⟨y.1, y.2.1, y.2.2.1, y.2.2.2.1, y.2.2.2.2.1, y.2.2.2.2.2.1, y.2.2.2.2.2.2, rfl, h⟩
theorem bn7_s {A1 A2 A3 A4 A5 A6 A7 β : Type} {x : Option (A1 × A2 × A3 × A4 × A5 × A6 × A7)} {k : A1 → A2 → A3 → A4 → A5 → A6 → A7 → Option β} {a1 : A1} {a2 : A2} {a3 : A3} {a4 : A4} {a5 : A5} {a6 : A6} {a7 : A7} (h : x = some (a1, a2, a3, a4, a5, a6, a7)) : bn7 x k = k a1 a2 a3 a4 a5 a6 a7 := by rw [h]; rfl
def bn8 {A1 A2 A3 A4 A5 A6 A7 A8 β : Type} (x : Option (A1 × A2 × A3 × A4 × A5 × A6 × A7 × A8)) (k : A1 → A2 → A3 → A4 → A5 → A6 → A7 → A8 → Option β) : Option β := match x with
  | some (a1, a2, a3, a4, a5, a6, a7, a8) => k a1 a2 a3 a4 a5 a6 a7 a8
  | none => none
theorem bn8_e {A1 A2 A3 A4 A5 A6 A7 A8 β : Type} {x : Option (A1 × A2 × A3 × A4 × A5 × A6 × A7 × A8)} {k : A1 → A2 → A3 → A4 → A5 → A6 → A7 → A8 → Option β} {o : β} (h : bn8 x k = some o) : ∃ (a1 : A1) (a2 : A2) (a3 : A3) (a4 : A4) (a5 : A5) (a6 : A6) (a7 : A7) (a8 : A8), x = some (a1, a2, a3, a4, a5, a6, a7, a8) ∧ k a1 a2 a3 a4 a5 a6 a7 a8 = some o := by
  cases x with
  | none => cases h
  | some y => exact ⟨y.1, y.2.1, y.2.2.1, y.2.2.2.1, y.2.2.2.2.1, y.2.2.2.2.2.1, y.2.2.2.2.2.2.1, y.2.2.2.2.2.2.2, rfl, h⟩
theorem bn8_s {A1 A2 A3 A4 A5 A6 A7 A8 β : Type} {x : Option (A1 × A2 × A3 × A4 × A5 × A6 × A7 × A8)} {k : A1 → A2 → A3 → A4 → A5 → A6 → A7 → A8 → Option β} {a1 : A1} {a2 : A2} {a3 : A3} {a4 : A4} {a5 : A5} {a6 : A6} {a7 : A7} {a8 : A8} (h : x = some (a1, a2, a3, a4, a5, a6, a7, a8)) : bn8 x k = k a1 a2 a3 a4 a5 a6 a7 a8 := by rw [h]; rfl
def bn9 {A1 A2 A3 A4 A5 A6 A7 A8 A9 β : Type} (x : Option (A1 × A2 × A3 × A4 × A5 × A6 × A7 × A8 × A9)) (k : A1 → A2 → A3 → A4 → A5 → A6 → A7 → A8 → A9 → Option β) : Option β := match x with
  | some (a1, a2, a3, a4, a5, a6, a7, a8, a9) => k a1 a2 a3 a4 a5 a6 a7 a8 a9
  | none => none
theorem bn9_e {A1 A2 A3 A4 A5 A6 A7 A8 A9 β : Type} {x : Option (A1 × A2 × A3 × A4 × A5 × A6 × A7 × A8 × A9)} {k : A1 → A2 → A3 → A4 → A5 → A6 → A7 → A8 → A9 → Option β} {o : β} (h : bn9 x k = some o) : ∃ (a1 : A1) (a2 : A2) (a3 : A3) (a4 : A4) (a5 : A5) (a6 : A6) (a7 : A7) (a8 : A8) (a9 : A9), x = some (a1, a2, a3, a4, a5, a6, a7, a8, a9) ∧ k a1 a2 a3 a4 a5 a6 a7 a8 a9 = some o := by
  cases x with
  | none => cases h
  | some y => exact ⟨y.1, y.2.1, y.2.2.1, y.2.2.2.1, y.2.2.2.2.1, y.2.2.2.2.2.1, y.2.2.2.2.2.2.1, y.2.2.2.2.2.2.2.1, y.2.2.2.2.2.2.2.2, rfl, h⟩
theorem bn9_s {A1 A2 A3 A4 A5 A6 A7 A8 A9 β : Type} {x : Option (A1 × A2 × A3 × A4 × A5 × A6 × A7 × A8 × A9)} {k : A1 → A2 → A3 → A4 → A5 → A6 → A7 → A8 → A9 → Option β} {a1 : A1} {a2 : A2} {a3 : A3} {a4 : A4} {a5 : A5} {a6 : A6} {a7 : A7} {a8 : A8} {a9 : A9} (h : x = some (a1, a2, a3, a4, a5, a6, a7, a8, a9)) : bn9 x k = k a1 a2 a3 a4 a5 a6 a7 a8 a9 := by rw [h]; rfl
def bn10 {A1 A2 A3 A4 A5 A6 A7 A8 A9 A10 β : Type} (x : Option (A1 × A2 × A3 × A4 × A5 × A6 × A7 × A8 × A9 × A10)) (k : A1 → A2 → A3 → A4 → A5 → A6 → A7 → A8 → A9 → A10 → Option β) : Option β := match x with
  | some (a1, a2, a3, a4, a5, a6, a7, a8, a9, a10) => k a1 a2 a3 a4 a5 a6 a7 a8 a9 a10
  | none => none
theorem bn10_e {A1 A2 A3 A4 A5 A6 A7 A8 A9 A10 β : Type} {x : Option (A1 × A2 × A3 × A4 × A5 × A6 × A7 × A8 × A9 × A10)} {k : A1 → A2 → A3 → A4 → A5 → A6 → A7 → A8 → A9 → A10 → Option β} {o : β} (h : bn10 x k = some o) : ∃ (a1 : A1) (a2 : A2) (a3 : A3) (a4 : A4) (a5 : A5) (a6 : A6) (a7 : A7) (a8 : A8) (a9 : A9) (a10 : A10), x = some (a1, a2, a3, a4, a5, a6, a7, a8, a9, a10) ∧ k a1 a2 a3 a4 a5 a6 a7 a8 a9 a10 = some o := by
  cases x with
  | none => cases h
  | some y => exact ⟨y.1, y.2.1, y.2.2.1, y.2.2.2.1, y.2.2.2.2.1, y.2.2.2.2.2.1, y.2.2.2.2.2.2.1, y.2.2.2.2.2.2.2.1, y.2.2.2.2.2.2.2.2.1, y.2.2.2.2.2.2.2.2.2, rfl, h⟩
theorem bn10_s {A1 A2 A3 A4 A5 A6 A7 A8 A9 A10 β : Type} {x : Option (A1 × A2 × A3 × A4 × A5 × A6 × A7 × A8 × A9 × A10)} {k : A1 → A2 → A3 → A4 → A5 → A6 → A7 → A8 → A9 → A10 → Option β} {a1 : A1} {a2 : A2} {a3 : A3} {a4 : A4} {a5 : A5} {a6 : A6} {a7 : A7} {a8 : A8} {a9 : A9} {a10 : A10} (h : x = some (a1, a2, a3, a4, a5, a6, a7, a8, a9, a10)) : bn10 x k = k a1 a2 a3 a4 a5 a6 a7 a8 a9 a10 := by rw [h]; rfl
def bn11 {A1 A2 A3 A4 A5 A6 A7 A8 A9 A10 A11 β : Type} (x : Option (A1 × A2 × A3 × A4 × A5 × A6 × A7 × A8 × A9 × A10 × A11)) (k : A1 → A2 → A3 → A4 → A5 → A6 → A7 → A8 → A9 → A10 → A11 → Option β) : Option β := match x with
  | some (a1, a2, a3, a4, a5, a6, a7, a8, a9, a10, a11) => k a1 a2 a3 a4 a5 a6 a7 a8 a9 a10 a11
  | none => none
theorem bn11_e {A1 A2 A3 A4 A5 A6 A7 A8 A9 A10 A11 β : Type} {x : Option (A1 × A2 × A3 × A4 × A5 × A6 × A7 × A8 × A9 × A10 × A11)} {k : A1 → A2 → A3 → A4 → A5 → A6 → A7 → A8 → A9 → A10 → A11 → Option β} {o : β} (h : bn11 x k = some o) : ∃ (a1 : A1) (a2 : A2) (a3 : A3) (a4 : A4) (a5 : A5) (a6 : A6) (a7 : A7) (a8 : A8) (a9 : A9) (a10 : A10) (a11 : A11), x = some (a1, a2, a3, a4, a5, a6, a7, a8, a9, a10, a11) ∧ k a1 a2 a3 a4 a5 a6 a7 a8 a9 a10 a11 = some o := by
  cases x with
  | none => cases h
  | some y => exact ⟨y.1, y.2.1, y.2.2.1, y.2.2.2.1, y.2.2.2.2.1, y.2.2.2.2.2.1, y.2.2.2.2.2.2.1, y.2.2.2.2.2.2.2.1, y.2.2.2.2.2.2.2.2.1, y.2.2.2.2.2.2.2.2.2.1, y.2.2.2.2.2.2.2.2.2.2, rfl, h⟩
theorem bn11_s {A1 A2 A3 A4 A5 A6 A7 A8 A9 A10 A11 β : Type} {x : Option (A1 × A2 × A3 × A4 × A5 × A6 × A7 × A8 × A9 × A10 × A11)} {k : A1 → A2 → A3 → A4 → A5 → A6 → A7 → A8 → A9 → A10 → A11 → Option β} {a1 : A1} {a2 : A2} {a3 : A3} {a4 : A4} {a5 : A5} {a6 : A6} {a7 : A7} {a8 : A8} {a9 : A9} {a10 : A10} {a11 : A11} (h : x = some (a1, a2, a3, a4, a5, a6, a7, a8, a9, a10, a11)) : bn11 x k = k a1 a2 a3 a4 a5 a6 a7 a8 a9 a10 a11 := by rw [h]; rfl
def bn12 {A1 A2 A3 A4 A5 A6 A7 A8 A9 A10 A11 A12 β : Type} (x : Option (A1 × A2 × A3 × A4 × A5 × A6 × A7 × A8 × A9 × A10 × A11 × A12)) (k : A1 → A2 → A3 → A4 → A5 → A6 → A7 → A8 → A9 → A10 → A11 → A12 → Option β) : Option β := match x with
  | some (a1, a2, a3, a4, a5, a6, a7, a8, a9, a10, a11, a12) => k a1 a2 a3 a4 a5 a6 a7 a8 a9 a10 a11 a12
  | none => none
theorem bn12_e {A1 A2 A3 A4 A5 A6 A7 A8 A9 A10 A11 A12 β : Type} {x : Option (A1 × A2 × A3 × A4 × A5 × A6 × A7 × A8 × A9 × A10 × A11 × A12)} {k : A1 → A2 → A3 → A4 → A5 → A6 → A7 → A8 → A9 → A10 → A11 → A12 → Option β} {o : β} (h : bn12 x k = some o) : ∃ (a1 : A1) (a2 : A2) (a3 : A3) (a4 : A4) (a5 : A5) (a6 : A6) (a7 : A7) (a8 : A8) (a9 : A9) (a10 : A10) (a11 : A11) (a12 : A12), x = some (a1, a2, a3, a4, a5, a6, a7, a8, a9, a10, a11, a12) ∧ k a1 a2 a3 a4 a5 a6 a7 a8 a9 a10 a11 a12 = some o := by
  cases x with
  | none => cases h
  | some y => exact ⟨y.1, y.2.1, y.2.2.1, y.2.2.2.1, y.2.2.2.2.1, y.2.2.2.2.2.1, y.2.2.2.2.2.2.1, y.2.2.2.2.2.2.2.1, y.2.2.2.2.2.2.2.2.1, y.2.2.2.2.2.2.2.2.2.1, y.2.2.2.2.2.2.2.2.2.2.1, y.2.2.2.2.2.2.2.2.2.2.2, rfl, h⟩
theorem bn12_s {A1 A2 A3 A4 A5 A6 A7 A8 A9 A10 A11 A12 β : Type} {x : Option (A1 × A2 × A3 × A4 × A5 × A6 × A7 × A8 × A9 × A10 × A11 × A12)} {k : A1 → A2 → A3 → A4 → A5 → A6 → A7 → A8 → A9 → A10 → A11 → A12 → Option β} {a1 : A1} {a2 : A2} {a3 : A3} {a4 : A4} {a5 : A5} {a6 : A6} {a7 : A7} {a8 : A8} {a9 : A9} {a10 : A10} {a11 : A11} {a12 : A12} (h : x = some (a1, a2, a3, a4, a5, a6, a7, a8, a9, a10, a11, a12)) : bn12 x k = k a1 a2 a3 a4 a5 a6 a7 a8 a9 a10 a11 a12 := by rw [h]; rfl
def bn13 {A1 A2 A3 A4 A5 A6 A7 A8 A9 A10 A11 A12 A13 β : Type} (x : Option (A1 × A2 × A3 × A4 × A5 × A6 × A7 × A8 × A9 × A10 × A11 × A12 × A13)) (k : A1 → A2 → A3 → A4 → A5 → A6 → A7 → A8 → A9 → A10 → A11 → A12 → A13 → Option β) : Option β := match x with
  | some (a1, a2, a3, a4, a5, a6, a7, a8, a9, a10, a11, a12, a13) => k a1 a2 a3 a4 a5 a6 a7 a8 a9 a10 a11 a12 a13
  | none => none
theorem bn13_e {A1 A2 A3 A4 A5 A6 A7 A8 A9 A10 A11 A12 A13 β : Type} {x : Option (A1 × A2 × A3 × A4 × A5 × A6 × A7 × A8 × A9 × A10 × A11 × A12 × A13)} {k : A1 → A2 → A3 → A4 → A5 → A6 → A7 → A8 → A9 → A10 → A11 → A12 → A13 → Option β} {o : β} (h : bn13 x k = some o) : ∃ (a1 : A1) (a2 : A2) (a3 : A3) (a4 : A4) (a5 : A5) (a6 : A6) (a7 : A7) (a8 : A8) (a9 : A9) (a10 : A10) (a11 : A11) (a12 : A12) (a13 : A13), x = some (a1, a2, a3, a4, a5, a6, a7, a8, a9, a10, a11, a12, a13) ∧ k a1 a2 a3 a4 a5 a6 a7 a8 a9 a10 a11 a12 a13 = some o := by
  cases x with
  | none => cases h
  | some y => exact ⟨y.1, y.2.1, y.2.2.1, y.2.2.2.1, y.2.2.2.2.1, y.2.2.2.2.2.1, y.2.2.2.2.2.2.1, y.2.2.2.2.2.2.2.1, y.2.2.2.2.2.2.2.2.1, y.2.2.2.2.2.2.2.2.2.1, y.2.2.2.2.2.2.2.2.2.2.1, y.2.2.2.2.2.2.2.2.2.2.2.1, y.2.2.2.2.2.2.2.2.2.2.2.2, rfl, h⟩
theorem bn13_s {A1 A2 A3 A4 A5 A6 A7 A8 A9 A10 A11 A12 A13 β : Type} {x : Option (A1 × A2 × A3 × A4 × A5 × A6 × A7 × A8 × A9 × A10 × A11 × A12 × A13)} {k : A1 → A2 → A3 → A4 → A5 → A6 → A7 → A8 → A9 → A10 → A11 → A12 → A13 → Option β} {a1 : A1} {a2 : A2} {a3 : A3} {a4 : A4} {a5 : A5} {a6 : A6} {a7 : A7} {a8 : A8} {a9 : A9} {a10 : A10} {a11 : A11} {a12 : A12} {a13 : A13} (h : x = some (a1, a2, a3, a4, a5, a6, a7, a8, a9, a10, a11, a12, a13)) : bn13 x k = k a1 a2 a3 a4 a5 a6 a7 a8 a9 a10 a11 a12 a13 := by rw [h]; rfl
def bn14 {A1 A2 A3 A4 A5 A6 A7 A8 A9 A10 A11 A12 A13 A14 β : Type} (x : Option (A1 × A2 × A3 × A4 × A5 × A6 × A7 × A8 × A9 × A10 × A11 × A12 × A13 × A14)) (k : A1 → A2 → A3 → A4 → A5 → A6 → A7 → A8 → A9 → A10 → A11 → A12 → A13 → A14 → Option β) : Option β := match x with
  | some (a1, a2, a3, a4, a5, a6, a7, a8, a9, a10, a11, a12, a13, a14) => k a1 a2 a3 a4 a5 a6 a7 a8 a9 a10 a11 a12 a13 a14
  | none => none
theorem bn14_e {A1 A2 A3 A4 A5 A6 A7 A8 A9 A10 A11 A12 A13 A14 β : Type} {x : Option (A1 × A2 × A3 × A4 × A5 × A6 × A7 × A8 × A9 × A10 × A11 × A12 × A13 × A14)} {k : A1 → A2 → A3 → A4 → A5 → A6 → A7 → A8 → A9 → A10 → A11 → A12 → A13 → A14 → Option β} {o : β} (h : bn14 x k = some o) : ∃ (a1 : A1) (a2 : A2) (a3 : A3) (a4 : A4) (a5 : A5) (a6 : A6) (a7 : A7) (a8 : A8) (a9 : A9) (a10 : A10) (a11 : A11) (a12 : A12) (a13 : A13) (a14 : A14), x = some (a1, a2, a3, a4, a5, a6, a7, a8, a9, a10, a11, a12, a13, a14) ∧ k a1 a2 a3 a4 a5 a6 a7 a8 a9 a10 a11 a12 a13 a14 = some o := by
  cases x with
  | none => cases h
  | some y => exact ⟨y.1, y.2.1, y.2.2.1, y.2.2.2.1, y.2.2.2.2.1, y.2.2.2.2.2.1, y.2.2.2.2.2.2.1, y.2.2.2.2.2.2.2.1, y.2.2.2.2.2.2.2.2.1, y.2.2.2.2.2.2.2.2.2.1, y.2.2.2.2.2.2.2.2.2.2.1, y.2.2.2.2.2.2.2.2.2.2.2.1, y.2.2.2.2.2.2.2.2.2.2.2.2.1, y.2.2.2.2.2.2.2.2.2.2.2.2.2, rfl, h⟩
theorem bn14_s {A1 A2 A3 A4 A5 A6 A7 A8 A9 A10 A11 A12 A13 A14 β : Type} {x : Option (A1 × A2 × A3 × A4 × A5 × A6 × A7 × A8 × A9 × A10 × A11 × A12 × A13 × A14)} {k : A1 → A2 → A3 → A4 → A5 → A6 → A7 → A8 → A9 → A10 → A11 → A12 → A13 → A14 → Option β} {a1 : A1} {a2 : A2} {a3 : A3} {a4 : A4} {a5 : A5} {a6 : A6} {a7 : A7} {a8 : A8} {a9 : A9} {a10 : A10} {a11 : A11} {a12 : A12} {a13 : A13} {a14 : A14} (h : x = some (a1, a2, a3, a4, a5, a6, a7, a8, a9, a10, a11, a12, a13, a14)) : bn14 x k = k a1 a2 a3 a4 a5 a6 a7 a8 a9 a10 a11 a12 a13 a14 := by rw [h]; rfl
def bn15 {A1 A2 A3 A4 A5 A6 A7 A8 A9 A10 A11 A12 A13 A14 A15 β : Type} (x : Option (A1 × A2 × A3 × A4 × A5 × A6 × A7 × A8 × A9 × A10 × A11 × A12 × A13 × A14 × A15)) (k : A1 → A2 → A3 → A4 → A5 → A6 → A7 → A8 → A9 → A10 → A11 → A12 → A13 → A14 → A15 → Option β) : Option β := match x with
  | some (a1, a2, a3, a4, a5, a6, a7, a8, a9, a10, a11, a12, a13, a14, a15) => k a1 a2 a3 a4 a5 a6 a7 a8 a9 a10 a11 a12 a13 a14 a15
  | none => none
theorem bn15_e {A1 A2 A3 A4 A5 A6 A7 A8 A9 A10 A11 A12 A13 A14 A15 β : Type} {x : Option (A1 × A2 × A3 × A4 × A5 × A6 × A7 × A8 × A9 × A10 × A11 × A12 × A13 × A14 × A15)} {k : A1 → A2 → A3 → A4 → A5 → A6 → A7 → A8 → A9 → A10 → A11 → A12 → A13 → A14 → A15 → Option β} {o : β} (h : bn15 x k = some o) : ∃ (a1 : A1) (a2 : A2) (a3 : A3) (a4 : A4) (a5 : A5) (a6 : A6) (a7 : A7) (a8 : A8) (a9 : A9) (a10 : A10) (a11 : A11) (a12 : A12) (a13 : A13) (a14 : A14) (a15 : A15), x = some (a1, a2, a3, a4, a5, a6, a7, a8, a9, a10, a11, a12, a13, a14, a15) ∧ k a1 a2 a3 a4 a5 a6 a7 a8 a9 a10 a11 a12 a13 a14 a15 = some o := by
  cases x with
  | none => cases h
  | some y => exact ⟨y.1, y.2.1, y.2.2.1, y.2.2.2.1, y.2.2.2.2.1, y.2.2.2.2.2.1, y.2.2.2.2.2.2.1, y.2.2.2.2.2.2.2.1, y.2.2.2.2.2.2.2.2.1, y.2.2.2.2.2.2.2.2.2.1, y.2.2.2.2.2.2.2.2.2.2.1, y.2.2.2.2.2.2.2.2.2.2.2.1, y.2.2.2.2.2.2.2.2.2.2.2.2.1, y.2.2.2.2.2.2.2.2.2.2.2.2.2.1, y.2.2.2.2.2.2.2.2.2.2.2.2.2.2, rfl, h⟩
theorem bn15_s {A1 A2 A3 A4 A5 A6 A7 A8 A9 A10 A11 A12 A13 A14 A15 β : Type} {x : Option (A1 × A2 × A3 × A4 × A5 × A6 × A7 × A8 × A9 × A10 × A11 × A12 × A13 × A14 × A15)} {k : A1 → A2 → A3 → A4 → A5 → A6 → A7 → A8 → A9 → A10 → A11 → A12 → A13 → A14 → A15 → Option β} {a1 : A1} {a2 : A2} {a3 : A3} {a4 : A4} {a5 : A5} {a6 : A6} {a7 : A7} {a8 : A8} {a9 : A9} {a10 : A10} {a11 : A11} {a12 : A12} {a13 : A13} {a14 : A14} {a15 : A15} (h : x = some (a1, a2, a3, a4, a5, a6, a7, a8, a9, a10, a11, a12, a13, a14, a15)) : bn15 x k = k a1 a2 a3 a4 a5 a6 a7 a8 a9 a10 a11 a12 a13 a14 a15 := by rw [h]; rfl
def bn16 {A1 A2 A3 A4 A5 A6 A7 A8 A9 A10 A11 A12 A13 A14 A15 A16 β : Type} (x : Option (A1 × A2 × A3 × A4 × A5 × A6 × A7 × A8 × A9 × A10 × A11 × A12 × A13 × A14 × A15 × A16)) (k : A1 → A2 → A3 → A4 → A5 → A6 → A7 → A8 → A9 → A10 → A11 → A12 → A13 → A14 → A15 → A16 → Option β) : Option β := match x with
  | some (a1, a2, a3, a4, a5, a6, a7, a8, a9, a10, a11, a12, a13, a14, a15, a16) => k a1 a2 a3 a4 a5 a6 a7 a8 a9 a10 a11 a12 a13 a14 a15 a16
  | none => none
theorem bn16_e {A1 A2 A3 A4 A5 A6 A7 A8 A9 A10 A11 A12 A13 A14 A15 A16 β : Type} {x : Option (A1 × A2 × A3 × A4 × A5 × A6 × A7 × A8 × A9 × A10 × A11 × A12 × A13 × A14 × A15 × A16)} {k : A1 → A2 → A3 → A4 → A5 → A6 → A7 → A8 → A9 → A10 → A11 → A12 → A13 → A14 → A15 → A16 → Option β} {o : β} (h : bn16 x k = some o) : ∃ (a1 : A1) (a2 : A2) (a3 : A3) (a4 : A4) (a5 : A5) (a6 : A6) (a7 : A7) (a8 : A8) (a9 : A9) (a10 : A10) (a11 : A11) (a12 : A12) (a13 : A13) (a14 : A14) (a15 : A15) (a16 : A16), x = some (a1, a2, a3, a4, a5, a6, a7, a8, a9, a10, a11, a12, a13, a14, a15, a16) ∧ k a1 a2 a3 a4 a5 a6 a7 a8 a9 a10 a11 a12 a13 a14 a15 a16 = some o := by
  cases x with
  | none => cases h
  | some y => exact ⟨y.1, y.2.1, y.2.2.1, y.2.2.2.1, y.2.2.2.2.1, y.2.2.2.2.2.1, y.2.2.2.2.2.2.1, y.2.2.2.2.2.2.2.1, y.2.2.2.2.2.2.2.2.1, y.2.2.2.2.2.2.2.2.2.1, y.2.2.2.2.2.2.2.2.2.2.1, y.2.2.2.2.2.2.2.2.2.2.2.1, y.2.2.2.2.2.2.2.2.2.2.2.2.1, y.2.2.2.2.2.2.2.2.2.2.2.2.2.1, y.2.2.2.2.2.2.2.2.2.2.2.2.2.2.1, y.2.2.2.2.2.2.2.2.2.2.2.2.2.2.2, rfl, h⟩
theorem bn16_s {A1 A2 A3 A4 A5 A6 A7 A8 A9 A10 A11 A12 A13 A14 A15 A16 β : Type} {x : Option (A1 × A2 × A3 × A4 × A5 × A6 × A7 × A8 × A9 × A10 × A11 × A12 × A13 × A14 × A15 × A16)} {k : A1 → A2 → A3 → A4 → A5 → A6 → A7 → A8 → A9 → A10 → A11 → A12 → A13 → A14 → A15 → A16 → Option β} {a1 : A1} {a2 : A2} {a3 : A3} {a4 : A4} {a5 : A5} {a6 : A6} {a7 : A7} {a8 : A8} {a9 : A9} {a10 : A10} {a11 : A11} {a12 : A12} {a13 : A13} {a14 : A14} {a15 : A15} {a16 : A16} (h : x = some (a1, a2, a3, a4, a5, a6, a7, a8, a9, a10, a11, a12, a13, a14, a15, a16)) : bn16 x k = k a1 a2 a3 a4 a5 a6 a7 a8 a9 a10 a11 a12 a13 a14 a15 a16 := by rw [h]; rfl
def bn17 {A1 A2 A3 A4 A5 A6 A7 A8 A9 A10 A11 A12 A13 A14 A15 A16 A17 β : Type} (x : Option (A1 × A2 × A3 × A4 × A5 × A6 × A7 × A8 × A9 × A10 × A11 × A12 × A13 × A14 × A15 × A16 × A17)) (k : A1 → A2 → A3 → A4 → A5 → A6 → A7 → A8 → A9 → A10 → A11 → A12 → A13 → A14 → A15 → A16 → A17 → Option β) : Option β := match x with
  | some (a1, a2, a3, a4, a5, a6, a7, a8, a9, a10, a11, a12, a13, a14, a15, a16, a17) => k a1 a2 a3 a4 a5 a6 a7 a8 a9 a10 a11 a12 a13 a14 a15 a16 a17
  | none => none
theorem bn17_e {A1 A2 A3 A4 A5 A6 A7 A8 A9 A10 A11 A12 A13 A14 A15 A16 A17 β : Type} {x : Option (A1 × A2 × A3 × A4 × A5 × A6 × A7 × A8 × A9 × A10 × A11 × A12 × A13 × A14 × A15 × A16 × A17)} {k : A1 → A2 → A3 → A4 → A5 → A6 → A7 → A8 → A9 → A10 → A11 → A12 → A13 → A14 → A15 → A16 → A17 → Option β} {o : β} (h : bn17 x k = some o) : ∃ (a1 : A1) (a2 : A2) (a3 : A3) (a4 : A4) (a5 : A5) (a6 : A6) (a7 : A7) (a8 : A8) (a9 : A9) (a10 : A10) (a11 : A11) (a12 : A12) (a13 : A13) (a14 : A14) (a15 : A15) (a16 : A16) (a17 : A17), x = some (a1, a2, a3, a4, a5, a6, a7, a8, a9, a10, a11, a12, a13, a14, a15, a16, a17) ∧ k a1 a2 a3 a4 a5 a6 a7 a8 a9 a10 a11 a12 a13 a14 a15 a16 a17 = some o := by
  cases x with
  | none => cases h
  | some y => exact ⟨y.1, y.2.1, y.2.2.1, y.2.2.2.1, y.2.2.2.2.1, y.2.2.2.2.2.1, y.2.2.2.2.2.2.1, y.2.2.2.2.2.2.2.1, y.2.2.2.2.2.2.2.2.1, y.2.2.2.2.2.2.2.2.2.1, y.2.2.2.2.2.2.2.2.2.2.1, y.2.2.2.2.2.2.2.2.2.2.2.1, y.2.2.2.2.2.2.2.2.2.2.2.2.1, y.2.2.2.2.2.2.2.2.2.2.2.2.2.1, y.2.2.2.2.2.2.2.2.2.2.2.2.2.2.1, y.2.2.2.2.2.2.2.2.2.2.2.2.2.2.2.1, y.2.2.2.2.2.2.2.2.2.2.2.2.2.2.2.2, rfl, h⟩
theorem bn17_s {A1 A2 A3 A4 A5 A6 A7 A8 A9 A10 A11 A12 A13 A14 A15 A16 A17 β : Type} {x : Option (A1 × A2 × A3 × A4 × A5 × A6 × A7 × A8 × A9 × A10 × A11 × A12 × A13 × A14 × A15 × A16 × A17)} {k : A1 → A2 → A3 → A4 → A5 → A6 → A7 → A8 → A9 → A10 → A11 → A12 → A13 → A14 → A15 → A16 → A17 → Option β} {a1 : A1} {a2 : A2} {a3 : A3} {a4 : A4} {a5 : A5} {a6 : A6} {a7 : A7} {a8 : A8} {a9 : A9} {a10 : A10} {a11 : A11} {a12 : A12} {a13 : A13} {a14 : A14} {a15 : A15} {a16 : A16} {a17 : A17} (h : x = some (a1, a2, a3, a4, a5, a6, a7, a8, a9, a10, a11, a12, a13, a14, a15, a16, a17)) : bn17 x k = k a1 a2 a3 a4 a5 a6 a7 a8 a9 a10 a11 a12 a13 a14 a15 a16 a17 := by rw [h]; rfl
def bn18 {A1 A2 A3 A4 A5 A6 A7 A8 A9 A10 A11 A12 A13 A14 A15 A16 A17 A18 β : Type} (x : Option (A1 × A2 × A3 × A4 × A5 × A6 × A7 × A8 × A9 × A10 × A11 × A12 × A13 × A14 × A15 × A16 × A17 × A18)) (k : A1 → A2 → A3 → A4 → A5 → A6 → A7 → A8 → A9 → A10 → A11 → A12 → A13 → A14 → A15 → A16 → A17 → A18 → Option β) : Option β := match x with
  | some (a1, a2, a3, a4, a5, a6, a7, a8, a9, a10, a11, a12, a13, a14, a15, a16, a17, a18) => k a1 a2 a3 a4 a5 a6 a7 a8 a9 a10 a11 a12 a13 a14 a15 a16 a17 a18
  | none => none
theorem bn18_e {A1 A2 A3 A4 A5 A6 A7 A8 A9 A10 A11 A12 A13 A14 A15 A16 A17 A18 β : Type} {x : Option (A1 × A2 × A3 × A4 × A5 × A6 × A7 × A8 × A9 × A10 × A11 × A12 × A13 × A14 × A15 × A16 × A17 × A18)} {k : A1 → A2 → A3 → A4 → A5 → A6 → A7 → A8 → A9 → A10 → A11 → A12 → A13 → A14 → A15 → A16 → A17 → A18 → Option β} {o : β} (h : bn18 x k = some o) : ∃ (a1 : A1) (a2 : A2) (a3 : A3) (a4 : A4) (a5 : A5) (a6 : A6) (a7 : A7) (a8 : A8) (a9 : A9) (a10 : A10) (a11 : A11) (a12 : A12) (a13 : A13) (a14 : A14) (a15 : A15) (a16 : A16) (a17 : A17) (a18 : A18), x = some (a1, a2, a3, a4, a5, a6, a7, a8, a9, a10, a11, a12, a13, a14, a15, a16, a17, a18) ∧ k a1 a2 a3 a4 a5 a6 a7 a8 a9 a10 a11 a12 a13 a14 a15 a16 a17 a18 = some o := by
  cases x with
  | none => cases h
  | some y => exact ⟨y.1, y.2.1, y.2.2.1, y.2.2.2.1, y.2.2.2.2.1, y.2.2.2.2.2.1, y.2.2.2.2.2.2.1, y.2.2.2.2.2.2.2.1, y.2.2.2.2.2.2.2.2.1, y.2.2.2.2.2.2.2.2.2.1, y.2.2.2.2.2.2.2.2.2.2.1, y.2.2.2.2.2.2.2.2.2.2.2.1, y.2.2.2.2.2.2.2.2.2.2.2.2.1, y.2.2.2.2.2.2.2.2.2.2.2.2.2.1, y.2.2.2.2.2.2.2.2.2.2.2.2.2.2.1, y.2.2.2.2.2.2.2.2.2.2.2.2.2.2.2.1, y.2.2.2.2.2.2.2.2.2.2.2.2.2.2.2.2.1, y.2.2.2.2.2.2.2.2.2.2.2.2.2.2.2.2.2, rfl, h⟩
theorem bn18_s {A1 A2 A3 A4 A5 A6 A7 A8 A9 A10 A11 A12 A13 A14 A15 A16 A17 A18 β : Type} {x : Option (A1 × A2 × A3 × A4 × A5 × A6 × A7 × A8 × A9 × A10 × A11 × A12 × A13 × A14 × A15 × A16 × A17 × A18)} {k : A1 → A2 → A3 → A4 → A5 → A6 → A7 → A8 → A9 → A10 → A11 → A12 → A13 → A14 → A15 → A16 → A17 → A18 → Option β} {a1 : A1} {a2 : A2} {a3 : A3} {a4 : A4} {a5 : A5} {a6 : A6} {a7 : A7} {a8 : A8} {a9 : A9} {a10 : A10} {a11 : A11} {a12 : A12} {a13 : A13} {a14 : A14} {a15 : A15} {a16 : A16} {a17 : A17} {a18 : A18} (h : x = some (a1, a2, a3, a4, a5, a6, a7, a8, a9, a10, a11, a12, a13, a14, a15, a16, a17, a18)) : bn18 x k = k a1 a2 a3 a4 a5 a6 a7 a8 a9 a10 a11 a12 a13 a14 a15 a16 a17 a18 := by rw [h]; rfl
def bn19 {A1 A2 A3 A4 A5 A6 A7 A8 A9 A10 A11 A12 A13 A14 A15 A16 A17 A18 A19 β : Type} (x : Option (A1 × A2 × A3 × A4 × A5 × A6 × A7 × A8 × A9 × A10 × A11 × A12 × A13 × A14 × A15 × A16 × A17 × A18 × A19)) (k : A1 → A2 → A3 → A4 → A5 → A6 → A7 → A8 → A9 → A10 → A11 → A12 → A13 → A14 → A15 → A16 → A17 → A18 → A19 → Option β) : Option β := match x with
  | some (a1, a2, a3, a4, a5, a6, a7, a8, a9, a10, a11, a12, a13, a14, a15, a16, a17, a18, a19) => k a1 a2 a3 a4 a5 a6 a7 a8 a9 a10 a11 a12 a13 a14 a15 a16 a17 a18 a19
  | none => none
theorem bn19_e {A1 A2 A3 A4 A5 A6 A7 A8 A9 A10 A11 A12 A13 A14 A15 A16 A17 A18 A19 β : Type} {x : Option (A1 × A2 × A3 × A4 × A5 × A6 × A7 × A8 × A9 × A10 × A11 × A12 × A13 × A14 × A15 × A16 × A17 × A18 × A19)} {k : A1 → A2 → A3 → A4 → A5 → A6 → A7 → A8 → A9 → A10 → A11 → A12 → A13 → A14 → A15 → A16 → A17 → A18 → A19 → Option β} {o : β} (h : bn19 x k = some o) : ∃ (a1 : A1) (a2 : A2) (a3 : A3) (a4 : A4) (a5 : A5) (a6 : A6) (a7 : A7) (a8 : A8) (a9 : A9) (a10 : A10) (a11 : A11) (a12 : A12) (a13 : A13) (a14 : A14) (a15 : A15) (a16 : A16) (a17 : A17) (a18 : A18) (a19 : A19), x = some (a1, a2, a3, a4, a5, a6, a7, a8, a9, a10, a11, a12, a13, a14, a15, a16, a17, a18, a19) ∧ k a1 a2 a3 a4 a5 a6 a7 a8 a9 a10 a11 a12 a13 a14 a15 a16 a17 a18 a19 = some o := by
  cases x with
  | none => cases h
  | some y => exact ⟨y.1, y.2.1, y.2.2.1, y.2.2.2.1, y.2.2.2.2.1, y.2.2.2.2.2.1, y.2.2.2.2.2.2.1, y.2.2.2.2.2.2.2.1, y.2.2.2.2.2.2.2.2.1, y.2.2.2.2.2.2.2.2.2.1, y.2.2.2.2.2.2.2.2.2.2.1, y.2.2.2.2.2.2.2.2.2.2.2.1, y.2.2.2.2.2.2.2.2.2.2.2.2.1, y.2.2.2.2.2.2.2.2.2.2.2.2.2.1, y.2.2.2.2.2.2.2.2.2.2.2.2.2.2.1, y.2.2.2.2.2.2.2.2.2.2.2.2.2.2.2.1, y.2.2.2.2.2.2.2.2.2.2.2.2.2.2.2.2.1, y.2.2.2.2.2.2.2.2.2.2.2.2.2.2.2.2.2.1, y.2.2.2.2.2.2.2.2.2.2.2.2.2.2.2.2.2.2, rfl, h⟩
theorem bn19_s {A1 A2 A3 A4 A5 A6 A7 A8 A9 A10 A11 A12 A13 A14 A15 A16 A17 A18 A19 β : Type} {x : Option (A1 × A2 × A3 × A4 × A5 × A6 × A7 × A8 × A9 × A10 × A11 × A12 × A13 × A14 × A15 × A16 × A17 × A18 × A19)} {k : A1 → A2 → A3 → A4 → A5 → A6 → A7 → A8 → A9 → A10 → A11 → A12 → A13 → A14 → A15 → A16 → A17 → A18 → A19 → Option β} {a1 : A1} {a2 : A2} {a3 : A3} {a4 : A4} {a5 : A5} {a6 : A6} {a7 : A7} {a8 : A8} {a9 : A9} {a10 : A10} {a11 : A11} {a12 : A12} {a13 : A13} {a14 : A14} {a15 : A15} {a16 : A16} {a17 : A17} {a18 : A18} {a19 : A19} (h : x = some (a1, a2, a3, a4, a5, a6, a7, a8, a9, a10, a11, a12, a13, a14, a15, a16, a17, a18, a19)) : bn19 x k = k a1 a2 a3 a4 a5 a6 a7 a8 a9 a10 a11 a12 a13 a14 a15 a16 a17 a18 a19 := by rw [h]; rfl
def bn20 {A1 A2 A3 A4 A5 A6 A7 A8 A9 A10 A11 A12 A13 A14 A15 A16 A17 A18 A19 A20 β : Type} (x : Option (A1 × A2 × A3 × A4 × A5 × A6 × A7 × A8 × A9 × A10 × A11 × A12 × A13 × A14 × A15 × A16 × A17 × A18 × A19 × A20)) (k : A1 → A2 → A3 → A4 → A5 → A6 → A7 → A8 → A9 → A10 → A11 → A12 → A13 → A14 → A15 → A16 → A17 → A18 → A19 → A20 → Option β) : Option β := match x with
  | some (a1, a2, a3, a4, a5, a6, a7, a8, a9, a10, a11, a12, a13, a14, a15, a16, a17, a18, a19, a20) => k a1 a2 a3 a4 a5 a6 a7 a8 a9 a10 a11 a12 a13 a14 a15 a16 a17 a18 a19 a20
  | none => none
theorem bn20_e {A1 A2 A3 A4 A5 A6 A7 A8 A9 A10 A11 A12 A13 A14 A15 A16 A17 A18 A19 A20 β : Type} {x : Option (A1 × A2 × A3 × A4 × A5 × A6 × A7 × A8 × A9 × A10 × A11 × A12 × A13 × A14 × A15 × A16 × A17 × A18 × A19 × A20)} {k : A1 → A2 → A3 → A4 → A5 → A6 → A7 → A8 → A9 → A10 → A11 → A12 → A13 → A14 → A15 → A16 → A17 → A18 → A19 → A20 → Option β} {o : β} (h : bn20 x k = some o) : ∃ (a1 : A1) (a2 : A2) (a3 : A3) (a4 : A4) (a5 : A5) (a6 : A6) (a7 : A7) (a8 : A8) (a9 : A9) (a10 : A10) (a11 : A11) (a12 : A12) (a13 : A13) (a14 : A14) (a15 : A15) (a16 : A16) (a17 : A17) (a18 : A18) (a19 : A19) (a20 : A20), x = some (a1, a2, a3, a4, a5, a6, a7, a8, a9, a10, a11, a12, a13, a14, a15, a16, a17, a18, a19, a20) ∧ k a1 a2 a3 a4 a5 a6 a7 a8 a9 a10 a11 a12 a13 a14 a15 a16 a17 a18 a19 a20 = some o := by
  cases x with
  | none => cases h
  | some y => exact ⟨y.1, y.2.1, y.2.2.1, y.2.2.2.1, y.2.2.2.2.1, y.2.2.2.2.2.1, y.2.2.2.2.2.2.1, y.2.2.2.2.2.2.2.1, y.2.2.2.2.2.2.2.2.1, y.2.2.2.2.2.2.2.2.2.1, y.2.2.2.2.2.2.2.2.2.2.1, y.2.2.2.2.2.2.2.2.2.2.2.1, y.2.2.2.2.2.2.2.2.2.2.2.2.1, y.2.2.2.2.2.2.2.2.2.2.2.2.2.1, y.2.2.2.2.2.2.2.2.2.2.2.2.2.2.1, y.2.2.2.2.2.2.2.2.2.2.2.2.2.2.2.1, y.2.2.2.2.2.2.2.2.2.2.2.2.2.2.2.2.1, y.2.2.2.2.2.2.2.2.2.2.2.2.2.2.2.2.2.1, y.2.2.2.2.2.2.2.2.2.2.2.2.2.2.2.2.2.2.1, y.2.2.2.2.2.2.2.2.2.2.2.2.2.2.2.2.2.2.2, rfl, h⟩
theorem bn20_s {A1 A2 A3 A4 A5 A6 A7 A8 A9 A10 A11 A12 A13 A14 A15 A16 A17 A18 A19 A20 β : Type} {x : Option (A1 × A2 × A3 × A4 × A5 × A6 × A7 × A8 × A9 × A10 × A11 × A12 × A13 × A14 × A15 × A16 × A17 × A18 × A19 × A20)} {k : A1 → A2 → A3 → A4 → A5 → A6 → A7 → A8 → A9 → A10 → A11 → A12 → A13 → A14 → A15 → A16 → A17 → A18 → A19 → A20 → Option β} {a1 : A1} {a2 : A2} {a3 : A3} {a4 : A4} {a5 : A5} {a6 : A6} {a7 : A7} {a8 : A8} {a9 : A9} {a10 : A10} {a11 : A11} {a12 : A12} {a13 : A13} {a14 : A14} {a15 : A15} {a16 : A16} {a17 : A17} {a18 : A18} {a19 : A19} {a20 : A20} (h : x = some (a1, a2, a3, a4, a5, a6, a7, a8, a9, a10, a11, a12, a13, a14, a15, a16, a17, a18, a19, a20)) : bn20 x k = k a1 a2 a3 a4 a5 a6 a7 a8 a9 a10 a11 a12 a13 a14 a15 a16 a17 a18 a19 a20 := by rw [h]; rfl
def bn21 {A1 A2 A3 A4 A5 A6 A7 A8 A9 A10 A11 A12 A13 A14 A15 A16 A17 A18 A19 A20 A21 β : Type} (x : Option (A1 × A2 × A3 × A4 × A5 × A6 × A7 × A8 × A9 × A10 × A11 × A12 × A13 × A14 × A15 × A16 × A17 × A18 × A19 × A20 × A21)) (k : A1 → A2 → A3 → A4 → A5 → A6 → A7 → A8 → A9 → A10 → A11 → A12 → A13 → A14 → A15 → A16 → A17 → A18 → A19 → A20 → A21 → Option β) : Option β := match x with
  | some (a1, a2, a3, a4, a5, a6, a7, a8, a9, a10, a11, a12, a13, a14, a15, a16, a17, a18, a19, a20, a21) => k a1 a2 a3 a4 a5 a6 a7 a8 a9 a10 a11 a12 a13 a14 a15 a16 a17 a18 a19 a20 a21
  | none => none
theorem bn21_e {A1 A2 A3 A4 A5 A6 A7 A8 A9 A10 A11 A12 A13 A14 A15 A16 A17 A18 A19 A20 A21 β : Type} {x : Option (A1 × A2 × A3 × A4 × A5 × A6 × A7 × A8 × A9 × A10 × A11 × A12 × A13 × A14 × A15 × A16 × A17 × A18 × A19 × A20 × A21)} {k : A1 → A2 → A3 → A4 → A5 → A6 → A7 → A8 → A9 → A10 → A11 → A12 → A13 → A14 → A15 → A16 → A17 → A18 → A19 → A20 → A21 → Option β} {o : β} (h : bn21 x k = some o) : ∃ (a1 : A1) (a2 : A2) (a3 : A3) (a4 : A4) (a5 : A5) (a6 : A6) (a7 : A7) (a8 : A8) (a9 : A9) (a10 : A10) (a11 : A11) (a12 : A12) (a13 : A13) (a14 : A14) (a15 : A15) (a16 : A16) (a17 : A17) (a18 : A18) (a19 : A19) (a20 : A20) (a21 : A21), x = some (a1, a2, a3, a4, a5, a6, a7, a8, a9, a10, a11, a12, a13, a14, a15, a16, a17, a18, a19, a20, a21) ∧ k a1 a2 a3 a4 a5 a6 a7 a8 a9 a10 a11 a12 a13 a14 a15 a16 a17 a18 a19 a20 a21 = some o := by
  cases x with
  | none => cases h
  | some y => exact ⟨y.1, y.2.1, y.2.2.1, y.2.2.2.1, y.2.2.2.2.1, y.2.2.2.2.2.1, y.2.2.2.2.2.2.1, y.2.2.2.2.2.2.2.1, y.2.2.2.2.2.2.2.2.1, y.2.2.2.2.2.2.2.2.2.1, y.2.2.2.2.2.2.2.2.2.2.1, y.2.2.2.2.2.2.2.2.2.2.2.1, y.2.2.2.2.2.2.2.2.2.2.2.2.1, y.2.2.2.2.2.2.2.2.2.2.2.2.2.1, y.2.2.2.2.2.2.2.2.2.2.2.2.2.2.1, y.2.2.2.2.2.2.2.2.2.2.2.2.2.2.2.1, y.2.2.2.2.2.2.2.2.2.2.2.2.2.2.2.2.1, y.2.2.2.2.2.2.2.2.2.2.2.2.2.2.2.2.2.1, y.2.2.2.2.2.2.2.2.2.2.2.2.2.2.2.2.2.2.1, y.2.2.2.2.2.2.2.2.2.2.2.2.2.2.2.2.2.2.2.1, y.2.2.2.2.2.2.2.2.2.2.2.2.2.2.2.2.2.2.2.2, rfl, h⟩
theorem bn21_s {A1 A2 A3 A4 A5 A6 A7 A8 A9 A10 A11 A12 A13 A14 A15 A16 A17 A18 A19 A20 A21 β : Type} {x : Option (A1 × A2 × A3 × A4 × A5 × A6 × A7 × A8 × A9 × A10 × A11 × A12 × A13 × A14 × A15 × A16 × A17 × A18 × A19 × A20 × A21)} {k : A1 → A2 → A3 → A4 → A5 → A6 → A7 → A8 → A9 → A10 → A11 → A12 → A13 → A14 → A15 → A16 → A17 → A18 → A19 → A20 → A21 → Option β} {a1 : A1} {a2 : A2} {a3 : A3} {a4 : A4} {a5 : A5} {a6 : A6} {a7 : A7} {a8 : A8} {a9 : A9} {a10 : A10} {a11 : A11} {a12 : A12} {a13 : A13} {a14 : A14} {a15 : A15} {a16 : A16} {a17 : A17} {a18 : A18} {a19 : A19} {a20 : A20} {a21 : A21} (h : x = some (a1, a2, a3, a4, a5, a6, a7, a8, a9, a10, a11, a12, a13, a14, a15, a16, a17, a18, a19, a20, a21)) : bn21 x k = k a1 a2 a3 a4 a5 a6 a7 a8 a9 a10 a11 a12 a13 a14 a15 a16 a17 a18 a19 a20 a21 := by rw [h]; rfl
def bn22 {A1 A2 A3 A4 A5 A6 A7 A8 A9 A10 A11 A12 A13 A14 A15 A16 A17 A18 A19 A20 A21 A22 β : Type} (x : Option (A1 × A2 × A3 × A4 × A5 × A6 × A7 × A8 × A9 × A10 × A11 × A12 × A13 × A14 × A15 × A16 × A17 × A18 × A19 × A20 × A21 × A22)) (k : A1 → A2 → A3 → A4 → A5 → A6 → A7 → A8 → A9 → A10 → A11 → A12 → A13 → A14 → A15 → A16 → A17 → A18 → A19 → A20 → A21 → A22 → Option β) : Option β := match x with
  | some (a1, a2, a3, a4, a5, a6, a7, a8, a9, a10, a11, a12, a13, a14, a15, a16, a17, a18, a19, a20, a21, a22) => k a1 a2 a3 a4 a5 a6 a7 a8 a9 a10 a11 a12 a13 a14 a15 a16 a17 a18 a19 a20 a21 a22
  | none => none
theorem bn22_e {A1 A2 A3 A4 A5 A6 A7 A8 A9 A10 A11 A12 A13 A14 A15 A16 A17 A18 A19 A20 A21 A22 β : Type} {x : Option (A1 × A2 × A3 × A4 × A5 × A6 × A7 × A8 × A9 × A10 × A11 × A12 × A13 × A14 × A15 × A16 × A17 × A18 × A19 × A20 × A21 × A22)} {k : A1 → A2 → A3 → A4 → A5 → A6 → A7 → A8 → A9 → A10 → A11 → A12 → A13 → A14 → A15 → A16 → A17 → A18 → A19 → A20 → A21 → A22 → Option β} {o : β} (h : bn22 x k = some o) : ∃ (a1 : A1) (a2 : A2) (a3 : A3) (a4 : A4) (a5 : A5) (a6 : A6) (a7 : A7) (a8 : A8) (a9 : A9) (a10 : A10) (a11 : A11) (a12 : A12) (a13 : A13) (a14 : A14) (a15 : A15) (a16 : A16) (a17 : A17) (a18 : A18) (a19 : A19) (a20 : A20) (a21 : A21) (a22 : A22), x = some (a1, a2, a3, a4, a5, a6, a7, a8, a9, a10, a11, a12, a13, a14, a15, a16, a17, a18, a19, a20, a21, a22) ∧ k a1 a2 a3 a4 a5 a6 a7 a8 a9 a10 a11 a12 a13 a14 a15 a16 a17 a18 a19 a20 a21 a22 = some o := by
  cases x with
  | none => cases h
  | some y => exact ⟨y.1, y.2.1, y.2.2.1, y.2.2.2.1, y.2.2.2.2.1, y.2.2.2.2.2.1, y.2.2.2.2.2.2.1, y.2.2.2.2.2.2.2.1, y.2.2.2.2.2.2.2.2.1, y.2.2.2.2.2.2.2.2.2.1, y.2.2.2.2.2.2.2.2.2.2.1, y.2.2.2.2.2.2.2.2.2.2.2.1, y.2.2.2.2.2.2.2.2.2.2.2.2.1, y.2.2.2.2.2.2.2.2.2.2.2.2.2.1, y.2.2.2.2.2.2.2.2.2.2.2.2.2.2.1, y.2.2.2.2.2.2.2.2.2.2.2.2.2.2.2.1, y.2.2.2.2.2.2.2.2.2.2.2.2.2.2.2.2.1, y.2.2.2.2.2.2.2.2.2.2.2.2.2.2.2.2.2.1, y.2.2.2.2.2.2.2.2.2.2.2.2.2.2.2.2.2.2.1, y.2.2.2.2.2.2.2.2.2.2.2.2.2.2.2.2.2.2.2.1, y.2.2.2.2.2.2.2.2.2.2.2.2.2.2.2.2.2.2.2.2.1, y.2.2.2.2.2.2.2.2.2.2.2.2.2.2.2.2.2.2.2.2.2, rfl, h⟩
theorem bn22_s {A1 A2 A3 A4 A5 A6 A7 A8 A9 A10 A11 A12 A13 A14 A15 A16 A17 A18 A19 A20 A21 A22 β : Type} {x : Option (A1 × A2 × A3 × A4 × A5 × A6 × A7 × A8 × A9 × A10 × A11 × A12 × A13 × A14 × A15 × A16 × A17 × A18 × A19 × A20 × A21 × A22)} {k : A1 → A2 → A3 → A4 → A5 → A6 → A7 → A8 → A9 → A10 → A11 → A12 → A13 → A14 → A15 → A16 → A17 → A18 → A19 → A20 → A21 → A22 → Option β} {a1 : A1} {a2 : A2} {a3 : A3} {a4 : A4} {a5 : A5} {a6 : A6} {a7 : A7} {a8 : A8} {a9 : A9} {a10 : A10} {a11 : A11} {a12 : A12} {a13 : A13} {a14 : A14} {a15 : A15} {a16 : A16} {a17 : A17} {a18 : A18} {a19 : A19} {a20 : A20} {a21 : A21} {a22 : A22} (h : x = some (a1, a2, a3, a4, a5, a6, a7, a8, a9, a10, a11, a12, a13, a14, a15, a16, a17, a18, a19, a20, a21, a22)) : bn22 x k = k a1 a2 a3 a4 a5 a6 a7 a8 a9 a10 a11 a12 a13 a14 a15 a16 a17 a18 a19 a20 a21 a22 := by rw [h]; rfl
def bn23 {A1 A2 A3 A4 A5 A6 A7 A8 A9 A10 A11 A12 A13 A14 A15 A16 A17 A18 A19 A20 A21 A22 A23 β : Type} (x : Option (A1 × A2 × A3 × A4 × A5 × A6 × A7 × A8 × A9 × A10 × A11 × A12 × A13 × A14 × A15 × A16 × A17 × A18 × A19 × A20 × A21 × A22 × A23)) (k : A1 → A2 → A3 → A4 → A5 → A6 → A7 → A8 → A9 → A10 → A11 → A12 → A13 → A14 → A15 → A16 → A17 → A18 → A19 → A20 → A21 → A22 → A23 → Option β) : Option β := match x with
  | some (a1, a2, a3, a4, a5, a6, a7, a8, a9, a10, a11, a12, a13, a14, a15, a16, a17, a18, a19, a20, a21, a22, a23) => k a1 a2 a3 a4 a5 a6 a7 a8 a9 a10 a11 a12 a13 a14 a15 a16 a17 a18 a19 a20 a21 a22 a23
  | none => none
theorem bn23_e {A1 A2 A3 A4 A5 A6 A7 A8 A9 A10 A11 A12 A13 A14 A15 A16 A17 A18 A19 A20 A21 A22 A23 β : Type} {x : Option (A1 × A2 × A3 × A4 × A5 × A6 × A7 × A8 × A9 × A10 × A11 × A12 × A13 × A14 × A15 × A16 × A17 × A18 × A19 × A20 × A21 × A22 × A23)} {k : A1 → A2 → A3 → A4 → A5 → A6 → A7 → A8 → A9 → A10 → A11 → A12 → A13 → A14 → A15 → A16 → A17 → A18 → A19 → A20 → A21 → A22 → A23 → Option β} {o : β} (h : bn23 x k = some o) : ∃ (a1 : A1) (a2 : A2) (a3 : A3) (a4 : A4) (a5 : A5) (a6 : A6) (a7 : A7) (a8 : A8) (a9 : A9) (a10 : A10) (a11 : A11) (a12 : A12) (a13 : A13) (a14 : A14) (a15 : A15) (a16 : A16) (a17 : A17) (a18 : A18) (a19 : A19) (a20 : A20) (a21 : A21) (a22 : A22) (a23 : A23), x = some (a1, a2, a3, a4, a5, a6, a7, a8, a9, a10, a11, a12, a13, a14, a15, a16, a17, a18, a19, a20, a21, a22, a23) ∧ k a1 a2 a3 a4 a5 a6 a7 a8 a9 a10 a11 a12 a13 a14 a15 a16 a17 a18 a19 a20 a21 a22 a23 = some o := by
  cases x with
  | none => cases h
  | some y => exact ⟨y.1, y.2.1, y.2.2.1, y.2.2.2.1, y.2.2.2.2.1, y.2.2.2.2.2.1, y.2.2.2.2.2.2.1, y.2.2.2.2.2.2.2.1, y.2.2.2.2.2.2.2.2.1, y.2.2.2.2.2.2.2.2.2.1, y.2.2.2.2.2.2.2.2.2.2.1, y.2.2.2.2.2.2.2.2.2.2.2.1, y.2.2.2.2.2.2.2.2.2.2.2.2.1, y.2.2.2.2.2.2.2.2.2.2.2.2.2.1, y.2.2.2.2.2.2.2.2.2.2.2.2.2.2.1, y.2.2.2.2.2.2.2.2.2.2.2.2.2.2.2.1, y.2.2.2.2.2.2.2.2.2.2.2.2.2.2.2.2.1, y.2.2.2.2.2.2.2.2.2.2.2.2.2.2.2.2.2.1, y.2.2.2.2.2.2.2.2.2.2.2.2.2.2.2.2.2.2.1, y.2.2.2.2.2.2.2.2.2.2.2.2.2.2.2.2.2.2.2.1, y.2.2.2.2.2.2.2.2.2.2.2.2.2.2.2.2.2.2.2.2.1, y.2.2.2.2.2.2.2.2.2.2.2.2.2.2.2.2.2.2.2.2.2.1, y.2.2.2.2.2.2.2.2.2.2.2.2.2.2.2.2.2.2.2.2.2.2, rfl, h⟩
theorem bn23_s {A1 A2 A3 A4 A5 A6 A7 A8 A9 A10 A11 A12 A13 A14 A15 A16 A17 A18 A19 A20 A21 A22 A23 β : Type} {x : Option (A1 × A2 × A3 × A4 × A5 × A6 × A7 × A8 × A9 × A10 × A11 × A12 × A13 × A14 × A15 × A16 × A17 × A18 × A19 × A20 × A21 × A22 × A23)} {k : A1 → A2 → A3 → A4 → A5 → A6 → A7 → A8 → A9 → A10 → A11 → A12 → A13 → A14 → A15 → A16 → A17 → A18 → A19 → A20 → A21 → A22 → A23 → Option β} {a1 : A1} {a2 : A2} {a3 : A3} {a4 : A4} {a5 : A5} {a6 : A6} {a7 : A7} {a8 : A8} {a9 : A9} {a10 : A10} {a11 : A11} {a12 : A12} {a13 : A13} {a14 : A14} {a15 : A15} {a16 : A16} {a17 : A17} {a18 : A18} {a19 : A19} {a20 : A20} {a21 : A21} {a22 : A22} {a23 : A23} (h : x = some (a1, a2, a3, a4, a5, a6, a7, a8, a9, a10, a11, a12, a13, a14, a15, a16, a17, a18, a19, a20, a21, a22, a23)) : bn23 x k = k a1 a2 a3 a4 a5 a6 a7 a8 a9 a10 a11 a12 a13 a14 a15 a16 a17 a18 a19 a20 a21 a22 a23 := by rw [h]; rfl
def bn24 {A1 A2 A3 A4 A5 A6 A7 A8 A9 A10 A11 A12 A13 A14 A15 A16 A17 A18 A19 A20 A21 A22 A23 A24 β : Type} (x : Option (A1 × A2 × A3 × A4 × A5 × A6 × A7 × A8 × A9 × A10 × A11 × A12 × A13 × A14 × A15 × A16 × A17 × A18 × A19 × A20 × A21 × A22 × A23 × A24)) (k : A1 → A2 → A3 → A4 → A5 → A6 → A7 → A8 → A9 → A10 → A11 → A12 → A13 → A14 → A15 → A16 → A17 → A18 → A19 → A20 → A21 → A22 → A23 → A24 → Option β) : Option β := match x with
  | some (a1, a2, a3, a4, a5, a6, a7, a8, a9, a10, a11, a12, a13, a14, a15, a16, a17, a18, a19, a20, a21, a22, a23, a24) => k a1 a2 a3 a4 a5 a6 a7 a8 a9 a10 a11 a12 a13 a14 a15 a16 a17 a18 a19 a20 a21 a22 a23 a24
  | none => none
theorem bn24_e {A1 A2 A3 A4 A5 A6 A7 A8 A9 A10 A11 A12 A13 A14 A15 A16 A17 A18 A19 A20 A21 A22 A23 A24 β : Type} {x : Option (A1 × A2 × A3 × A4 × A5 × A6 × A7 × A8 × A9 × A10 × A11 × A12 × A13 × A14 × A15 × A16 × A17 × A18 × A19 × A20 × A21 × A22 × A23 × A24)} {k : A1 → A2 → A3 → A4 → A5 → A6 → A7 → A8 → A9 → A10 → A11 → A12 → A13 → A14 → A15 → A16 → A17 → A18 → A19 → A20 → A21 → A22 → A23 → A24 → Option β} {o : β} (h : bn24 x k = some o) : ∃ (a1 : A1) (a2 : A2) (a3 : A3) (a4 : A4) (a5 : A5) (a6 : A6) (a7 : A7) (a8 : A8) (a9 : A9) (a10 : A10) (a11 : A11) (a12 : A12) (a13 : A13) (a14 : A14) (a15 : A15) (a16 : A16) (a17 : A17) (a18 : A18) (a19 : A19) (a20 : A20) (a21 : A21) (a22 : A22) (a23 : A23) (a24 : A24), x = some (a1, a2, a3, a4, a5, a6, a7, a8, a9, a10, a11, a12, a13, a14, a15, a16, a17, a18, a19, a20, a21, a22, a23, a24) ∧ k a1 a2 a3 a4 a5 a6 a7 a8 a9 a10 a11 a12 a13 a14 a15 a16 a17 a18 a19 a20 a21 a22 a23 a24 = some o := by
  cases x with
  | none => cases h
  | some y => exact ⟨y.1, y.2.1, y.2.2.1, y.2.2.2.1, y.2.2.2.2.1, y.2.2.2.2.2.1, y.2.2.2.2.2.2.1, y.2.2.2.2.2.2.2.1, y.2.2.2.2.2.2.2.2.1, y.2.2.2.2.2.2.2.2.2.1, y.2.2.2.2.2.2.2.2.2.2.1, y.2.2.2.2.2.2.2.2.2.2.2.1, y.2.2.2.2.2.2.2.2.2.2.2.2.1, y.2.2.2.2.2.2.2.2.2.2.2.2.2.1, y.2.2.2.2.2.2.2.2.2.2.2.2.2.2.1, y.2.2.2.2.2.2.2.2.2.2.2.2.2.2.2.1, y.2.2.2.2.2.2.2.2.2.2.2.2.2.2.2.2.1, y.2.2.2.2.2.2.2.2.2.2.2.2.2.2.2.2.2.1, y.2.2.2.2.2.2.2.2.2.2.2.2.2.2.2.2.2.2.1, y.2.2.2.2.2.2.2.2.2.2.2.2.2.2.2.2.2.2.2.1, y.2.2.2.2.2.2.2.2.2.2.2.2.2.2.2.2.2.2.2.2.1, y.2.2.2.2.2.2.2.2.2.2.2.2.2.2.2.2.2.2.2.2.2.1, y.2.2.2.2.2.2.2.2.2.2.2.2.2.2.2.2.2.2.2.2.2.2.1, y.2.2.2.2.2.2.2.2.2.2.2.2.2.2.2.2.2.2.2.2.2.2.2, rfl, h⟩
theorem bn24_s {A1 A2 A3 A4 A5 A6 A7 A8 A9 A10 A11 A12 A13 A14 A15 A16 A17 A18 A19 A20 A21 A22 A23 A24 β : Type} {x : Option (A1 × A2 × A3 × A4 × A5 × A6 × A7 × A8 × A9 × A10 × A11 × A12 × A13 × A14 × A15 × A16 × A17 × A18 × A19 × A20 × A21 × A22 × A23 × A24)} {k : A1 → A2 → A3 → A4 → A5 → A6 → A7 → A8 → A9 → A10 → A11 → A12 → A13 → A14 → A15 → A16 → A17 → A18 → A19 → A20 → A21 → A22 → A23 → A24 → Option β} {a1 : A1} {a2 : A2} {a3 : A3} {a4 : A4} {a5 : A5} {a6 : A6} {a7 : A7} {a8 : A8} {a9 : A9} {a10 : A10} {a11 : A11} {a12 : A12} {a13 : A13} {a14 : A14} {a15 : A15} {a16 : A16} {a17 : A17} {a18 : A18} {a19 : A19} {a20 : A20} {a21 : A21} {a22 : A22} {a23 : A23} {a24 : A24} (h : x = some (a1, a2, a3, a4, a5, a6, a7, a8, a9, a10, a11, a12, a13, a14, a15, a16, a17, a18, a19, a20, a21, a22, a23, a24)) : bn24 x k = k a1 a2 a3 a4 a5 a6 a7 a8 a9 a10 a11 a12 a13 a14 a15 a16 a17 a18 a19 a20 a21 a22 a23 a24 := by rw [h]; rfl
/-! a list of cells: its addresses, places taken anew -/
def inA (as : List Nat) : Nat → Prop := fun q => q ∈ as
def splice : va_W → List Nat → va_W → va_W
  | ws, i :: is, x :: xs => splice (ws.set i x) is xs
  | ws, _, _ => ws
theorem splice_at : ∀ (is : List Nat) (xs ws : va_W) (k : Nat) (q : Nat × va_E), is.length = xs.length → (splice ws is xs)[k]? = some q → q ∈ xs ∨ (ws[k]? = some q ∧ k ∉ is)
  | [], [], ws, k, q, _, h => Or.inr ⟨h, List.not_mem_nil⟩
  | [], x :: xs, ws, k, q, hl, _ => by cases hl
  | i :: is, [], ws, k, q, hl, _ => by cases hl
  | i :: is, x :: xs, ws, k, q, hl, h => by
    rcases splice_at is xs (ws.set i x) k q (by simpa using hl) h with h1 | ⟨h1, h2⟩
    · exact Or.inl (List.mem_cons_of_mem _ h1)
    · by_cases e : i = k
      · subst e
        rw [List.getElem?_set_self'] at h1
        cases hw : ws[i]? with
        | none => rw [hw] at h1; cases h1
        | some z => rw [hw] at h1; cases h1; exact Or.inl List.mem_cons_self
      · rw [List.getElem?_set_ne e] at h1
        exact Or.inr ⟨h1, fun h3 => by rcases List.mem_cons.mp h3 with h4 | h4; exact e h4.symm; exact h2 h4⟩
theorem va_D.fst {A : Nat → Prop} {ws ws' : va_W} (hD : va_D A ws) (h : ws'.map Prod.fst = ws.map Prod.fst) : va_D A ws' := by
  have key : ∀ (k : Nat) (q : Nat × va_E), ws'[k]? = some q → ∃ q2, ws[k]? = some q2 ∧ q2.1 = q.1 := by
    intro k q hq
    have h1 : (ws'.map Prod.fst)[k]? = some q.1 := by rw [List.getElem?_map, hq]; rfl
    rw [h, List.getElem?_map] at h1
    cases hw : ws[k]? with
    | none => rw [hw] at h1; cases h1
    | some z => rw [hw] at h1; exact ⟨z, rfl, Option.some.inj h1⟩
  refine ⟨fun i j p q hp hq e => ?_, fun k q hq => ?_⟩
  · obtain ⟨p2, a1, a2⟩ := key i p hp
    obtain ⟨q2, b1, b2⟩ := key j q hq
    exact hD.1 i j p2 q2 a1 b1 (by rw [a2, b2, e])
  · obtain ⟨q2, b1, b2⟩ := key k q hq
    rw [← b2]
    exact hD.2 k q2 b1
theorem my_self {A : Nat → Prop} {ws : va_W} {as : List Nat} (hD : va_D A ws) (h : ws.map Prod.fst = as) : va_D (inA as) ws := ⟨hD.1, fun k q hq => by
  subst h
  exact List.mem_map.mpr ⟨q, List.mem_of_getElem? hq, rfl⟩⟩
theorem my_at {is : List Nat} {ws w : va_W} (hs : is.map (fun i => ws[i]?) = w.map some) {k : Nat} {q : Nat × va_E} (hq : w[k]? = some q) : ∃ i, is[k]? = some i ∧ ws[i]? = some q := by
  have h1 : (is.map (fun i => ws[i]?))[k]? = some (some q) := by rw [hs, List.getElem?_map, hq]; rfl
  rw [List.getElem?_map] at h1
  cases hi : is[k]? with
  | none => rw [hi] at h1; cases h1
  | some i => rw [hi] at h1; exact ⟨i, rfl, Option.some.inj h1⟩
theorem my_in {wc : va_W} {q : Nat} (h : q ∈ wc.map Prod.fst) : ∃ (k : Nat) (x : Nat × va_E), wc[k]? = some x ∧ x.1 = q := by
  obtain ⟨x, hx, e⟩ := List.mem_map.mp h
  obtain ⟨k, hk⟩ := List.getElem?_of_mem hx
  exact ⟨k, x, hk, e⟩
theorem my_free {A0 : Nat → Prop} {ws wc : va_W} {as : List Nat} (hD : va_D A0 ws) (isC : List Nat) (hC : isC.map (fun i => ws[i]?) = wc.map some) (has : wc.map Prod.fst = as) : ∀ q, inA as q → A0 q := by
  intro q h
  subst has
  obtain ⟨k, x, h1, rfl⟩ := my_in h
  obtain ⟨i, _, h2⟩ := my_at hC h1
  exact hD.2 i _ h2
theorem my_join {A0 : Nat → Prop} {D : va_G} {cl : List vw_C} {ws wc w1 ws' : va_W} {as : List Nat} {H H1 : Heap} (hP : va_P D cl ws H) (hD : va_D A0 ws) (isC : List Nat) (hC : isC.map (fun i => ws[i]?) = wc.map some) (hl : isC.length = w1.length) (hsp : splice ws isC w1 = ws') (hfst : ws'.map Prod.fst = ws.map Prod.fst)
    (has : wc.map Prod.fst = as) (hk : ∀ q : Nat, q < H.size → ¬ inA as q → H1[q]? = H[q]?) (hP1 : va_P D cl w1 H1) : va_P D cl ws' H1 ∧ va_D A0 ws' := by
  refine ⟨?_, hD.fst hfst⟩
  subst hsp
  intro k q hq
  rcases splice_at isC w1 ws k q hl hq with h | ⟨h1, h2⟩
  · obtain ⟨j, hj⟩ := List.getElem?_of_mem h
    exact hP1 j q hj
  · refine (hP k q h1).kept (hk q.1 (hP k q h1).lt ?_)
    intro hin
    subst has
    obtain ⟨j, x, hj, e⟩ := my_in hin
    obtain ⟨i, hi, hw⟩ := my_at hC hj
    have := hD.1 k i q _ h1 hw e.symm
    subst this
    exact h2 (List.mem_of_getElem? hi)
/-! a contract's start and end -/
def pcR (av : List Value) (D : va_G) (cl : List vw_C) (tys : List (ClassId × FieldType)) (ws : va_W) : Array Value → State → Prop := va_Pc av (fun U => va_P D cl ws U.heap ∧ va_K D cl tys U)
def pcW (av : List Value) (D : va_G) (cl : List vw_C) (tys : List (ClassId × FieldType)) (ws : va_W) : Array Value → State → Prop := va_Pc av (fun U => va_P D cl ws U.heap ∧ va_K D cl tys U ∧ va_D (fun _ => True) ws)
def qI (r : Int32) (P : Heap → Prop) (A : Nat → Prop) : Array Value → State → Outcome → State → Prop := va_Qi (fun (r' : Int32) (_ : Unit) => r' = r) (fun _ t => P t.heap) A
def qL (r : Int64) (P : Heap → Prop) (A : Nat → Prop) : Array Value → State → Outcome → State → Prop := va_Ql (fun (r' : Int64) (_ : Unit) => r' = r) (fun _ t => P t.heap) A
def qV (P : Heap → Prop) (A : Nat → Prop) : Array Value → State → Outcome → State → Prop := va_Qv (fun (_ : Unit) => True) (fun _ t => P t.heap) A
def pT : Heap → Prop := fun _ => True
def aN : Nat → Prop := fun _ => False
theorem pcR_blind {av : List Value} {D : va_G} {cl : List vw_C} {tys : List (ClassId × FieldType)} {ws : va_W} : FrameBlind (pcR av D cl tys ws) := fun a U g mk q => by
  obtain ⟨q0, qP, qK⟩ := q
  exact ⟨q0, qP, va_K.moved (u := U) (U := U.calling g mk a) (Vm.Alike.refl U.vm) qK⟩
theorem pcW_blind {av : List Value} {D : va_G} {cl : List vw_C} {tys : List (ClassId × FieldType)} {ws : va_W} : FrameBlind (pcW av D cl tys ws) := fun a U g mk q => by
  obtain ⟨q0, qP, qK, qD⟩ := q
  exact ⟨q0, qP, va_K.moved (u := U) (U := U.calling g mk a) (Vm.Alike.refl U.vm) qK, qD⟩
section PRE
variable {s : State} {H : Heap} {C : String} {D : va_G} {cl : List vw_C} {tys : List (ClassId × FieldType)} {ws : va_W} {b ci q0 : Nat} {As : List Value} {q : vw_C} {fs : List Value} {A : Nat → Prop}
theorem preRV (hK : va_K D cl tys s) (hP : va_P D cl ws H) (hc : cl[ci]? = some q) (he : ws[q0]? = some (b, .inr (ci, fs))) : PreV s H q.1 b (pcR (.ref b :: As) D cl tys ws) As :=
  ⟨pcR_blind, va_recv hK hP hc he, fun U hU hW => ⟨rfl, by rw [hU]; exact hP, va_K.moved hW.alike hK⟩⟩
theorem preWV (hK : va_K D cl tys s) (hP : va_P D cl ws H) (hD : va_D A ws) (hc : cl[ci]? = some q) (he : ws[q0]? = some (b, .inr (ci, fs))) : PreV s H q.1 b (pcW (.ref b :: As) D cl tys ws) As :=
  ⟨pcW_blind, va_recv hK hP hc he, fun U hU hW => ⟨rfl, by rw [hU]; exact hP, va_K.moved hW.alike hK, hD.weaken (fun _ _ _ _ => trivial)⟩⟩
theorem preRS (hK : va_K D cl tys s) (hP : va_P D cl ws H) : PreS s H (pcR As D cl tys ws) As :=
  ⟨pcR_blind, fun U hU hW => ⟨rfl, by rw [hU]; exact hP, va_K.moved hW.alike hK⟩⟩
theorem preWS (hK : va_K D cl tys s) (hP : va_P D cl ws H) (hD : va_D A ws) : PreS s H (pcW As D cl tys ws) As :=
  ⟨pcW_blind, fun U hU hW => ⟨rfl, by rw [hU]; exact hP, va_K.moved hW.alike hK, hD.weaken (fun _ _ _ _ => trivial)⟩⟩
end PRE
section ROW
variable {p : Program} {l : Launch} {e : Env} {R : Room} {s : State} {m : MethodId} {args : Array Value} {below : List Frame} {meth : Method} {c : Code} {H : Heap} {locs : List Loc} {cells slots : Nat} {Q : State → Prop}
variable {cc : ByteArray} {pc : Nat} {ls : Array Slot} {rest st0 : List Value} {D : va_G} {cl : List vw_C} {A A0 : Nat → Prop} {a : Nat} {aa : Array Value} {tys : List (ClassId × FieldType)} {ws ws' wc w1 : va_W} {as : List Nat} {H0 : Heap}
/-- calls that change nothing -/
theorem callRi {r : Int32} (hr : va_Run p l e R s m args below meth c H locs cells slots 0 0 (F0 m pc ls st0) rest (qI r pT aN aa) aN) (hS : va_S A0 H0 H locs) (hP : va_P D cl ws H) (kk : ∀ (H1 : Heap) (locs1 : List Loc), va_P D cl ws H1 → va_S A0 H0 H1 locs1 → W p l e R s m args below meth c H1 locs1 cells slots Q (F0 m (pc + 3) ls (.int r :: rest))) : W p l e R s m args below meth c H locs cells slots Q (F0 m pc ls st0) :=
  va_calli hr hS (fun q _ h => h.elim) (fun q h => h.elim) (fun r' u t H1 locs1 ht hvm hp hB hz hk hS1 => by
    subst hp
    exact kk H1 locs1 (hP.kept (fun k x hx => hk x.1 (hP k x hx).lt (fun h => h))) hS1)
theorem callRl {r : Int64} (hr : va_Run p l e R s m args below meth c H locs cells slots 0 0 (F0 m pc ls st0) rest (qL r pT aN aa) aN) (hS : va_S A0 H0 H locs) (hP : va_P D cl ws H) (kk : ∀ (H1 : Heap) (locs1 : List Loc), va_P D cl ws H1 → va_S A0 H0 H1 locs1 → W p l e R s m args below meth c H1 locs1 cells slots Q (F0 m (pc + 3) ls (.long r :: rest))) : W p l e R s m args below meth c H locs cells slots Q (F0 m pc ls st0) :=
  va_calll hr hS (fun q _ h => h.elim) (fun q h => h.elim) (fun r' u t H1 locs1 ht hvm hp hB hz hk hS1 => by
    subst hp
    exact kk H1 locs1 (hP.kept (fun k x hx => hk x.1 (hP k x hx).lt (fun h => h))) hS1)
/-- calls that change the cells wc, which stay where they are -/
theorem callWi {r : Int32} (hr : va_Run p l e R s m args below meth c H locs cells slots 0 0 (F0 m pc ls st0) rest (qI r (va_P D cl w1) (inA as) aa) (inA as)) (hS : va_S A0 H0 H locs) (hP : va_P D cl ws H) (hD : va_D A0 ws) (isC : List Nat) (hC : isC.map (fun i => ws[i]?) = wc.map some) (hl : isC.length = w1.length) (hsp : splice ws isC w1 = ws') (hfst : ws'.map Prod.fst = ws.map Prod.fst) (has : wc.map Prod.fst = as)
    (kk : ∀ (H1 : Heap) (locs1 : List Loc), va_P D cl ws' H1 → va_D A0 ws' → va_S A0 H0 H1 locs1 → W p l e R s m args below meth c H1 locs1 cells slots Q (F0 m (pc + 3) ls (.int r :: rest))) : W p l e R s m args below meth c H locs cells slots Q (F0 m pc ls st0) :=
  va_calli hr hS (fun q _ h => my_free hD isC hC has q h) (my_free hD isC hC has) (fun r' u t H1 locs1 ht hvm hp hB hz hk hS1 => by
    subst hp
    rw [ht] at hB
    obtain ⟨g1, g2⟩ := my_join hP hD isC hC hl hsp hfst has hk hB
    exact kk H1 locs1 g1 g2 hS1)
theorem callWv (hr : va_Run p l e R s m args below meth c H locs cells slots 0 0 (F0 m pc ls st0) rest (qV (va_P D cl w1) (inA as) aa) (inA as)) (hS : va_S A0 H0 H locs) (hP : va_P D cl ws H) (hD : va_D A0 ws) (isC : List Nat) (hC : isC.map (fun i => ws[i]?) = wc.map some) (hl : isC.length = w1.length) (hsp : splice ws isC w1 = ws') (hfst : ws'.map Prod.fst = ws.map Prod.fst) (has : wc.map Prod.fst = as)
    (kk : ∀ (H1 : Heap) (locs1 : List Loc), va_P D cl ws' H1 → va_D A0 ws' → va_S A0 H0 H1 locs1 → W p l e R s m args below meth c H1 locs1 cells slots Q (F0 m (pc + 3) ls rest)) : W p l e R s m args below meth c H locs cells slots Q (F0 m pc ls st0) :=
  va_callv hr hS (fun q _ h => my_free hD isC hC has q h) (my_free hD isC hC has) (fun u t H1 locs1 ht hvm hp hB hz hk hS1 => by
    rw [ht] at hB
    obtain ⟨g1, g2⟩ := my_join hP hD isC hC hl hsp hfst has hk hB
    exact kk H1 locs1 g1 g2 hS1)
/-- calls over the whole world -/
theorem my_allfree {A0 : Nat → Prop} (hD : va_D A0 ws) (has : ws.map Prod.fst = as) : ∀ q, inA as q → A0 q := by
  intro q h
  subst has
  obtain ⟨k, x, h1, rfl⟩ := my_in h
  exact hD.2 k x h1
theorem callVi {r : Int32} (hr : va_Run p l e R s m args below meth c H locs cells slots 0 0 (F0 m pc ls st0) rest (qI r (va_P D cl w1) (inA as) aa) (inA as)) (hS : va_S A0 H0 H locs) (hD : va_D A0 ws) (has : ws.map Prod.fst = as) (hfst : w1.map Prod.fst = as)
    (kk : ∀ (H1 : Heap) (locs1 : List Loc), va_P D cl w1 H1 → va_D A0 w1 → va_S A0 H0 H1 locs1 → W p l e R s m args below meth c H1 locs1 cells slots Q (F0 m (pc + 3) ls (.int r :: rest))) : W p l e R s m args below meth c H locs cells slots Q (F0 m pc ls st0) :=
  va_calli hr hS (fun q _ h => my_allfree hD has q h) (my_allfree hD has) (fun r' u t H1 locs1 ht hvm hp hB hz hk hS1 => by
    subst hp
    rw [ht] at hB
    exact kk H1 locs1 hB (hD.fst (hfst.trans has.symm)) hS1)
theorem callVv (hr : va_Run p l e R s m args below meth c H locs cells slots 0 0 (F0 m pc ls st0) rest (qV (va_P D cl w1) (inA as) aa) (inA as)) (hS : va_S A0 H0 H locs) (hD : va_D A0 ws) (has : ws.map Prod.fst = as) (hfst : w1.map Prod.fst = as)
    (kk : ∀ (H1 : Heap) (locs1 : List Loc), va_P D cl w1 H1 → va_D A0 w1 → va_S A0 H0 H1 locs1 → W p l e R s m args below meth c H1 locs1 cells slots Q (F0 m (pc + 3) ls rest)) : W p l e R s m args below meth c H locs cells slots Q (F0 m pc ls st0) :=
  va_callv hr hS (fun q _ h => my_allfree hD has q h) (my_allfree hD has) (fun u t H1 locs1 ht hvm hp hB hz hk hS1 => by
    rw [ht] at hB
    exact kk H1 locs1 hB (hD.fst (hfst.trans has.symm)) hS1)
/-- returns -/
theorem retI {r : Int32} {P : Heap → Prop} (hexec : p.tables.exec = Jvm.exec) (hb : c.code = cc) (hr : meth.sig.returnType = some .int) (hlocks : meth.locks = false) (hP : P H) (hS : va_S A s.heap H locs) (hdg : decode cc pc = .ok (.ireturn, 1)) : W p l e R s m args below meth c H locs cells slots (MQ below (qI r P A) args s cells slots A) (F0 m pc ls [.int r]) :=
  W.iret hexec hb hr (fun t ht hW => ⟨⟨r, (), rfl, rfl, by show P t.heap; rw [ht]; exact hP⟩, hS.F ht⟩) hS.2.2 hdg hlocks
theorem retZ {r : Int32} {P : Heap → Prop} (hexec : p.tables.exec = Jvm.exec) (hb : c.code = cc) (hr : meth.sig.returnType = some .boolean) (hlocks : meth.locks = false) (hn : narrow .boolean (.int r) = .int r) (hP : P H) (hS : va_S A s.heap H locs) (hdg : decode cc pc = .ok (.ireturn, 1)) : W p l e R s m args below meth c H locs cells slots (MQ below (qI r P A) args s cells slots A) (F0 m pc ls [.int r]) :=
  W.zret hexec hb hr hn (fun t ht hW => ⟨⟨r, (), rfl, rfl, by show P t.heap; rw [ht]; exact hP⟩, hS.F ht⟩) hS.2.2 hdg hlocks
theorem retL {r : Int64} {P : Heap → Prop} (hexec : p.tables.exec = Jvm.exec) (hb : c.code = cc) (hr : meth.sig.returnType = some .long) (hlocks : meth.locks = false) (hP : P H) (hS : va_S A s.heap H locs) (hdg : decode cc pc = .ok (.lreturn, 1)) : W p l e R s m args below meth c H locs cells slots (MQ below (qL r P A) args s cells slots A) (F0 m pc ls [.long r]) :=
  W.lret hexec hb hr (fun t ht hW => ⟨⟨r, (), rfl, rfl, by show P t.heap; rw [ht]; exact hP⟩, hS.F ht⟩) hS.2.2 hdg hlocks
theorem retV {P : Heap → Prop} (hexec : p.tables.exec = Jvm.exec) (hb : c.code = cc) (hr : meth.sig.returnType = none) (hlocks : meth.locks = false) (hP : P H) (hS : va_S A s.heap H locs) (hdg : decode cc pc = .ok (.return_, 1)) : W p l e R s m args below meth c H locs cells slots (MQ below (qV P A) args s cells slots A) (F0 m pc ls []) :=
  W.vret hexec hb hr (fun t ht hW => ⟨⟨(), rfl, trivial, by show P t.heap; rw [ht]; exact hP⟩, hS.F ht⟩) hS.2.2 hdg hlocks
/-- array reads and writes, with names -/
theorem rw_ald (hexec : p.tables.exec = Jvm.exec) (hb : c.code = cc) (hK : va_K D cl tys s) (hP : va_P D cl ws H) (q0 t0 : Nat) {cA : ClassId} {n : Nat} {f : Nat → Int32} (ha : ws[q0]? = some (a, .inl (cA, n, .inl f))) (ht : tys[t0]? = some (cA, .int)) {i y : Int32} (hin : vp_in i n) (ey : y = f i.toNatClampNeg) (hdg : decode cc pc = .ok (.iaload, 1))
    (kk : W p l e R s m args below meth c H locs cells slots Q (F0 m (pc + 1) ls (.int y :: rest))) : W p l e R s m args below meth c H locs cells slots Q (F0 m pc ls (.int i :: .ref a :: rest)) := by
  subst ey
  exact va_iald hexec hb hK hP q0 t0 ha ht hin hdg kk
theorem rw_ast (hexec : p.tables.exec = Jvm.exec) (hb : c.code = cc) (hK : va_K D cl tys s) (hP : va_P D cl ws H) (hD : va_D A ws) (hS : va_S A H0 H locs) (q0 t0 : Nat) {cA : ClassId} {n : Nat} {f g : Nat → Int32} (ha : ws[q0]? = some (a, .inl (cA, n, .inl f))) (ht : tys[t0]? = some (cA, .int)) {i x : Int32} (hin : vp_in i n) (eg : g = upd f i.toNatClampNeg x) (hw : ws.set q0 (a, .inl (cA, n, .inl g)) = ws') (hdg : decode cc pc = .ok (.iastore, 1))
    (kk : ∀ (H1 : Heap) (locs1 : List Loc), va_P D cl ws' H1 → va_D A ws' → va_S A H0 H1 locs1 → W p l e R s m args below meth c H1 locs1 cells slots Q (F0 m (pc + 1) ls rest)) : W p l e R s m args below meth c H locs cells slots Q (F0 m pc ls (.int x :: .int i :: .ref a :: rest)) := by
  subst eg
  subst hw
  exact va_iast hexec hb hK hP hD hS q0 t0 ha ht hin hdg kk
theorem rw_cpy (hexec : p.tables.exec = Jvm.exec) (hb : c.code = cc) (hml : c.maxLocals = ls.size) {own : String} {index : Nat} (hown : s.vm.findClass own = some m.cls) (hlink : (Cond.methodLink own index arraycopyName).before args s = true) (hnat : (Cond.native arraycopyName).before args s = true) (hstat : (Cond.static arraycopyName).before args s = true) (hini : (Cond.initialized "java/lang/System").before args s = true)
    (hK : va_K D cl tys s) (hP : va_P D cl ws H) (hD : va_D A ws) (hS : va_S A H0 H locs) (q0 q1 t0 : Nat) {a0 : Nat} {cA : ClassId} {n0 n1 : Nat} {f g y : Nat → Int32} (ha0 : ws[q0]? = some (a0, .inl (cA, n0, .inl f))) (ha1 : ws[q1]? = some (a, .inl (cA, n1, .inl g))) (ht0 : tys[t0]? = some (cA, .int))
    {sp dp n : Int32} (hh : ¬ sp < 0 ∧ ¬ dp < 0 ∧ ¬ n < 0 ∧ sp.toNatClampNeg + n.toNatClampNeg ≤ n0 ∧ dp.toNatClampNeg + n.toNatClampNeg ≤ n1) (ey : y = va_cpy f g sp.toNatClampNeg dp.toNatClampNeg n.toNatClampNeg) (hw : ws.set q1 (a, .inl (cA, n1, .inl y)) = ws')
    (hframes : 1 ≤ R.frames) (hlocals : (rest.map fun v => v.category).sum + (nativeFrameWords "java/lang/System" "arraycopy" 5 + 11) ≤ R.locals) (hdg : decode cc pc = .ok (.invokestatic index, 3))
    (kk : ∀ (H1 : Heap) (locs1 : List Loc), va_P D cl ws' H1 → va_D A ws' → va_S A H0 H1 locs1 → W p l e R s m args below meth c H1 locs1 cells slots Q (F0 m (pc + 3) ls rest)) : W p l e R s m args below meth c H locs cells slots Q (F0 m pc ls (.int n :: .int dp :: .ref a :: .int sp :: .ref a0 :: rest)) := by
  subst ey
  subst hw
  obtain ⟨h1, h2, h3, h4, h5⟩ := hh
  exact va_copyi hexec hb hml hown hlink hnat hstat hini hK hP hD hS q0 q1 t0 t0 ha0 ha1 ht0 ht0 rfl h1 h2 h3 h4 h5 (fun i hi => rfl) hframes hlocals hdg kk
theorem rw_put (hexec : p.tables.exec = Jvm.exec) (hb : c.code = cc) {own ref C : String} {T : u_T} {N ci index : Nat} {Ts : List Cond} (hts : ∀ w ∈ Ts, w.before args s = true) (hin : ∀ w ∈ u_ws C T N, w ∈ Ts) (ty0 : Nat → FieldType) (hty : ∀ k, k < N → parseFieldDescriptor (T k).2.2.1 = some (ty0 k)) (hnm : ∀ a, a < N → ∀ b, b < N → a ≠ b → (T a).2.1 ≠ (T b).2.1) (hown : s.vm.findClass own = some m.cls) (hK : va_K D cl tys s) (hP : va_P D cl ws H) (hD : va_D A ws) (hS0 : va_S A H0 H locs) (q0 : Nat) {fs : List Value} (he : ws[q0]? = some (a, .inr (ci, fs))) (hc : cl[ci]? = some (C, T, N)) (k : Nat) (hk : k < N) (hlink : (Cond.fieldLink own index ref (T k).2.1 (T k).2.2.1).before args s = true) (hsame : ∀ x, s.fieldFound? (T k).1 (T k).2.1 (T k).2.2.1 = some x → s.fieldFound? ref (T k).2.1 (T k).2.2.1 = some x) (hfin : (T k).2.2.2 = false) {ty : FieldType} {v : Value} (hd : parseFieldDescriptor (T k).2.2.1 = some ty) (hn : narrow ty v = v) (hfit : fits ty v = true) (hl : k < fs.length)
    (hw : ws.set q0 (a, .inr (ci, fs.set k v)) = ws') (hdg : decode cc pc = .ok (.putfield index, 3)) (kk : ∀ (H1 : Heap) (locs1 : List Loc), va_P D cl ws' H1 → va_D A ws' → va_S A H0 H1 locs1 → W p l e R s m args below meth c H1 locs1 cells slots Q (F0 m (pc + 3) ls rest)) : W p l e R s m args below meth c H locs cells slots Q (F0 m pc ls (v :: .ref a :: rest)) := by
  subst hw
  exact va_put hexec hb hts hin ty0 hty hnm hown hK hP hD hS0 q0 he hc k hk hlink hsame hfin hd hn hfit hl hdg kk
/-- a name for what stands on top -/
theorem rw_nm {x y : Int32} (ey : y = x) (k : W p l e R s m args below meth c H locs cells slots Q (F0 m pc ls (.int y :: rest))) : W p l e R s m args below meth c H locs cells slots Q (F0 m pc ls (.int x :: rest)) := by
  subst ey
  exact k
theorem rw_nml {x y : Int64} (ey : y = x) (k : W p l e R s m args below meth c H locs cells slots Q (F0 m pc ls (.long y :: rest))) : W p l e R s m args below meth c H locs cells slots Q (F0 m pc ls (.long x :: rest)) := by
  subst ey
  exact k
end ROW
end
section
theorem dX0_init_0 : decode cX0_init 0 = .ok (.aload_n 0, 1) := by decide +kernel
theorem dX0_init_1 : decode cX0_init 1 = .ok (.invokespecial 3, 3) := by decide +kernel
theorem dX0_init_4 : decode cX0_init 4 = .ok (.aload_n 0, 1) := by decide +kernel
theorem dX0_init_5 : decode cX0_init 5 = .ok (.sipush 240, 3) := by decide +kernel
theorem dX0_init_8 : decode cX0_init 8 = .ok (.newarray .int, 2) := by decide +kernel
theorem dX0_init_10 : decode cX0_init 10 = .ok (.putfield 11, 3) := by decide +kernel
theorem dX0_init_13 : decode cX0_init 13 = .ok (.aload_n 0, 1) := by decide +kernel
theorem dX0_init_14 : decode cX0_init 14 = .ok (.iconst 0, 1) := by decide +kernel
theorem dX0_init_15 : decode cX0_init 15 = .ok (.putfield 15, 3) := by decide +kernel
theorem dX0_init_18 : decode cX0_init 18 = .ok (.return_, 1) := by decide +kernel
theorem dX0_length_0 : decode cX0_length 0 = .ok (.aload_n 0, 1) := by decide +kernel
theorem dX0_length_1 : decode cX0_length 1 = .ok (.getfield 15, 3) := by decide +kernel
theorem dX0_length_4 : decode cX0_length 4 = .ok (.ireturn, 1) := by decide +kernel
theorem dX0_clear_0 : decode cX0_clear 0 = .ok (.aload_n 0, 1) := by decide +kernel
theorem dX0_clear_1 : decode cX0_clear 1 = .ok (.iconst 0, 1) := by decide +kernel
theorem dX0_clear_2 : decode cX0_clear 2 = .ok (.putfield 15, 3) := by decide +kernel
theorem dX0_clear_5 : decode cX0_clear 5 = .ok (.return_, 1) := by decide +kernel
theorem dX0_append_0 : decode cX0_append 0 = .ok (.aload_n 0, 1) := by decide +kernel
theorem dX0_append_1 : decode cX0_append 1 = .ok (.getfield 15, 3) := by decide +kernel
theorem dX0_append_4 : decode cX0_append 4 = .ok (.bipush 48, 2) := by decide +kernel
theorem dX0_append_6 : decode cX0_append 6 = .ok (.if_icmp .lt 4, 3) := by decide +kernel
theorem dX0_append_9 : decode cX0_append 9 = .ok (.return_, 1) := by decide +kernel
theorem dX0_append_10 : decode cX0_append 10 = .ok (.aload_n 0, 1) := by decide +kernel
theorem dX0_append_11 : decode cX0_append 11 = .ok (.getfield 15, 3) := by decide +kernel
theorem dX0_append_14 : decode cX0_append 14 = .ok (.iconst 5, 1) := by decide +kernel
theorem dX0_append_15 : decode cX0_append 15 = .ok (.imul, 1) := by decide +kernel
theorem dX0_append_16 : decode cX0_append 16 = .ok (.istore 6, 2) := by decide +kernel
theorem dX0_append_18 : decode cX0_append 18 = .ok (.aload_n 0, 1) := by decide +kernel
theorem dX0_append_19 : decode cX0_append 19 = .ok (.getfield 11, 3) := by decide +kernel
theorem dX0_append_22 : decode cX0_append 22 = .ok (.iload 6, 2) := by decide +kernel
theorem dX0_append_24 : decode cX0_append 24 = .ok (.iload_n 1, 1) := by decide +kernel
theorem dX0_append_25 : decode cX0_append 25 = .ok (.iastore, 1) := by decide +kernel
theorem dX0_append_26 : decode cX0_append 26 = .ok (.aload_n 0, 1) := by decide +kernel
theorem dX0_append_27 : decode cX0_append 27 = .ok (.getfield 11, 3) := by decide +kernel
theorem dX0_append_30 : decode cX0_append 30 = .ok (.iload 6, 2) := by decide +kernel
theorem dX0_append_32 : decode cX0_append 32 = .ok (.iconst 1, 1) := by decide +kernel
theorem dX0_append_33 : decode cX0_append 33 = .ok (.iadd, 1) := by decide +kernel
theorem dX0_append_34 : decode cX0_append 34 = .ok (.iload_n 2, 1) := by decide +kernel
theorem dX0_append_35 : decode cX0_append 35 = .ok (.iastore, 1) := by decide +kernel
theorem dX0_append_36 : decode cX0_append 36 = .ok (.aload_n 0, 1) := by decide +kernel
theorem dX0_append_37 : decode cX0_append 37 = .ok (.getfield 11, 3) := by decide +kernel
theorem dX0_append_40 : decode cX0_append 40 = .ok (.iload 6, 2) := by decide +kernel
theorem dX0_append_42 : decode cX0_append 42 = .ok (.iconst 2, 1) := by decide +kernel
theorem dX0_append_43 : decode cX0_append 43 = .ok (.iadd, 1) := by decide +kernel
theorem dX0_append_44 : decode cX0_append 44 = .ok (.iload_n 3, 1) := by decide +kernel
theorem dX0_append_45 : decode cX0_append 45 = .ok (.iastore, 1) := by decide +kernel
theorem dX0_append_46 : decode cX0_append 46 = .ok (.aload_n 0, 1) := by decide +kernel
theorem dX0_append_47 : decode cX0_append 47 = .ok (.getfield 11, 3) := by decide +kernel
theorem dX0_append_50 : decode cX0_append 50 = .ok (.iload 6, 2) := by decide +kernel
theorem dX0_append_52 : decode cX0_append 52 = .ok (.iconst 3, 1) := by decide +kernel
theorem dX0_append_53 : decode cX0_append 53 = .ok (.iadd, 1) := by decide +kernel
theorem dX0_append_54 : decode cX0_append 54 = .ok (.iload 4, 2) := by decide +kernel
theorem dX0_append_56 : decode cX0_append 56 = .ok (.iastore, 1) := by decide +kernel
theorem dX0_append_57 : decode cX0_append 57 = .ok (.aload_n 0, 1) := by decide +kernel
theorem dX0_append_58 : decode cX0_append 58 = .ok (.getfield 11, 3) := by decide +kernel
theorem dX0_append_61 : decode cX0_append 61 = .ok (.iload 6, 2) := by decide +kernel
theorem dX0_append_63 : decode cX0_append 63 = .ok (.iconst 4, 1) := by decide +kernel
theorem dX0_append_64 : decode cX0_append 64 = .ok (.iadd, 1) := by decide +kernel
theorem dX0_append_65 : decode cX0_append 65 = .ok (.iload 5, 2) := by decide +kernel
theorem dX0_append_67 : decode cX0_append 67 = .ok (.iastore, 1) := by decide +kernel
theorem dX0_append_68 : decode cX0_append 68 = .ok (.aload_n 0, 1) := by decide +kernel
theorem dX0_append_69 : decode cX0_append 69 = .ok (.dup, 1) := by decide +kernel
theorem dX0_append_70 : decode cX0_append 70 = .ok (.getfield 15, 3) := by decide +kernel
theorem dX0_append_73 : decode cX0_append 73 = .ok (.iconst 1, 1) := by decide +kernel
theorem dX0_append_74 : decode cX0_append 74 = .ok (.iadd, 1) := by decide +kernel
theorem dX0_append_75 : decode cX0_append 75 = .ok (.putfield 15, 3) := by decide +kernel
theorem dX0_append_78 : decode cX0_append 78 = .ok (.return_, 1) := by decide +kernel
theorem dX0_redo_0 : decode cX0_redo 0 = .ok (.iload_n 1, 1) := by decide +kernel
theorem dX0_redo_1 : decode cX0_redo 1 = .ok (.ifCond .lt 11, 3) := by decide +kernel
theorem dX0_redo_4 : decode cX0_redo 4 = .ok (.iload_n 1, 1) := by decide +kernel
theorem dX0_redo_5 : decode cX0_redo 5 = .ok (.aload_n 0, 1) := by decide +kernel
theorem dX0_redo_6 : decode cX0_redo 6 = .ok (.getfield 15, 3) := by decide +kernel
theorem dX0_redo_9 : decode cX0_redo 9 = .ok (.if_icmp .lt 4, 3) := by decide +kernel
theorem dX0_redo_12 : decode cX0_redo 12 = .ok (.return_, 1) := by decide +kernel
theorem dX0_redo_13 : decode cX0_redo 13 = .ok (.iload_n 1, 1) := by decide +kernel
theorem dX0_redo_14 : decode cX0_redo 14 = .ok (.iconst 5, 1) := by decide +kernel
theorem dX0_redo_15 : decode cX0_redo 15 = .ok (.imul, 1) := by decide +kernel
theorem dX0_redo_16 : decode cX0_redo 16 = .ok (.istore_n 3, 1) := by decide +kernel
theorem dX0_redo_17 : decode cX0_redo 17 = .ok (.aload_n 0, 1) := by decide +kernel
theorem dX0_redo_18 : decode cX0_redo 18 = .ok (.getfield 11, 3) := by decide +kernel
theorem dX0_redo_21 : decode cX0_redo 21 = .ok (.iload_n 3, 1) := by decide +kernel
theorem dX0_redo_22 : decode cX0_redo 22 = .ok (.iconst 1, 1) := by decide +kernel
theorem dX0_redo_23 : decode cX0_redo 23 = .ok (.iadd, 1) := by decide +kernel
theorem dX0_redo_24 : decode cX0_redo 24 = .ok (.iaload, 1) := by decide +kernel
theorem dX0_redo_25 : decode cX0_redo 25 = .ok (.istore 4, 2) := by decide +kernel
theorem dX0_redo_27 : decode cX0_redo 27 = .ok (.aload_n 0, 1) := by decide +kernel
theorem dX0_redo_28 : decode cX0_redo 28 = .ok (.getfield 11, 3) := by decide +kernel
theorem dX0_redo_31 : decode cX0_redo 31 = .ok (.iload_n 3, 1) := by decide +kernel
theorem dX0_redo_32 : decode cX0_redo 32 = .ok (.iconst 2, 1) := by decide +kernel
theorem dX0_redo_33 : decode cX0_redo 33 = .ok (.iadd, 1) := by decide +kernel
theorem dX0_redo_34 : decode cX0_redo 34 = .ok (.iaload, 1) := by decide +kernel
theorem dX0_redo_35 : decode cX0_redo 35 = .ok (.istore 5, 2) := by decide +kernel
theorem dX0_redo_37 : decode cX0_redo 37 = .ok (.aload_n 0, 1) := by decide +kernel
theorem dX0_redo_38 : decode cX0_redo 38 = .ok (.getfield 11, 3) := by decide +kernel
theorem dX0_redo_41 : decode cX0_redo 41 = .ok (.iload_n 3, 1) := by decide +kernel
theorem dX0_redo_42 : decode cX0_redo 42 = .ok (.iconst 3, 1) := by decide +kernel
theorem dX0_redo_43 : decode cX0_redo 43 = .ok (.iadd, 1) := by decide +kernel
theorem dX0_redo_44 : decode cX0_redo 44 = .ok (.iaload, 1) := by decide +kernel
theorem dX0_redo_45 : decode cX0_redo 45 = .ok (.istore 6, 2) := by decide +kernel
theorem dX0_redo_47 : decode cX0_redo 47 = .ok (.aload_n 0, 1) := by decide +kernel
theorem dX0_redo_48 : decode cX0_redo 48 = .ok (.getfield 11, 3) := by decide +kernel
theorem dX0_redo_51 : decode cX0_redo 51 = .ok (.iload_n 3, 1) := by decide +kernel
theorem dX0_redo_52 : decode cX0_redo 52 = .ok (.iconst 4, 1) := by decide +kernel
theorem dX0_redo_53 : decode cX0_redo 53 = .ok (.iadd, 1) := by decide +kernel
theorem dX0_redo_54 : decode cX0_redo 54 = .ok (.iaload, 1) := by decide +kernel
theorem dX0_redo_55 : decode cX0_redo 55 = .ok (.istore 7, 2) := by decide +kernel
theorem dX0_redo_57 : decode cX0_redo 57 = .ok (.aload_n 0, 1) := by decide +kernel
theorem dX0_redo_58 : decode cX0_redo 58 = .ok (.getfield 11, 3) := by decide +kernel
theorem dX0_redo_61 : decode cX0_redo 61 = .ok (.iload_n 3, 1) := by decide +kernel
theorem dX0_redo_62 : decode cX0_redo 62 = .ok (.iaload, 1) := by decide +kernel
theorem dX0_redo_63 : decode cX0_redo 63 = .ok (.tableswitch 98 0 4 #[33, 46, 59, 70, 85], 33) := by decide +kernel
theorem dX0_redo_96 : decode cX0_redo 96 = .ok (.aload_n 2, 1) := by decide +kernel
theorem dX0_redo_97 : decode cX0_redo 97 = .ok (.iload 4, 2) := by decide +kernel
theorem dX0_redo_99 : decode cX0_redo 99 = .ok (.iload 5, 2) := by decide +kernel
theorem dX0_redo_101 : decode cX0_redo 101 = .ok (.iload 6, 2) := by decide +kernel
theorem dX0_redo_103 : decode cX0_redo 103 = .ok (.invokevirtual 19, 3) := by decide +kernel
theorem dX0_redo_106 : decode cX0_redo 106 = .ok (.goto 63, 3) := by decide +kernel
theorem dX0_redo_109 : decode cX0_redo 109 = .ok (.aload_n 2, 1) := by decide +kernel
theorem dX0_redo_110 : decode cX0_redo 110 = .ok (.iload 4, 2) := by decide +kernel
theorem dX0_redo_112 : decode cX0_redo 112 = .ok (.iload 5, 2) := by decide +kernel
theorem dX0_redo_114 : decode cX0_redo 114 = .ok (.iload 6, 2) := by decide +kernel
theorem dX0_redo_116 : decode cX0_redo 116 = .ok (.invokevirtual 25, 3) := by decide +kernel
theorem dX0_redo_119 : decode cX0_redo 119 = .ok (.goto 50, 3) := by decide +kernel
theorem dX0_redo_122 : decode cX0_redo 122 = .ok (.aload_n 2, 1) := by decide +kernel
theorem dX0_redo_123 : decode cX0_redo 123 = .ok (.iload 4, 2) := by decide +kernel
theorem dX0_redo_125 : decode cX0_redo 125 = .ok (.iload 5, 2) := by decide +kernel
theorem dX0_redo_127 : decode cX0_redo 127 = .ok (.invokevirtual 28, 3) := by decide +kernel
theorem dX0_redo_130 : decode cX0_redo 130 = .ok (.goto 39, 3) := by decide +kernel
theorem dX0_redo_133 : decode cX0_redo 133 = .ok (.aload_n 2, 1) := by decide +kernel
theorem dX0_redo_134 : decode cX0_redo 134 = .ok (.iload 4, 2) := by decide +kernel
theorem dX0_redo_136 : decode cX0_redo 136 = .ok (.iload 5, 2) := by decide +kernel
theorem dX0_redo_138 : decode cX0_redo 138 = .ok (.iload 6, 2) := by decide +kernel
theorem dX0_redo_140 : decode cX0_redo 140 = .ok (.iload 7, 2) := by decide +kernel
theorem dX0_redo_142 : decode cX0_redo 142 = .ok (.invokevirtual 32, 3) := by decide +kernel
theorem dX0_redo_145 : decode cX0_redo 145 = .ok (.goto 24, 3) := by decide +kernel
theorem dX0_redo_148 : decode cX0_redo 148 = .ok (.aload_n 2, 1) := by decide +kernel
theorem dX0_redo_149 : decode cX0_redo 149 = .ok (.iload 4, 2) := by decide +kernel
theorem dX0_redo_151 : decode cX0_redo 151 = .ok (.iload 5, 2) := by decide +kernel
theorem dX0_redo_153 : decode cX0_redo 153 = .ok (.iload 6, 2) := by decide +kernel
theorem dX0_redo_155 : decode cX0_redo 155 = .ok (.invokevirtual 36, 3) := by decide +kernel
theorem dX0_redo_158 : decode cX0_redo 158 = .ok (.goto 11, 3) := by decide +kernel
theorem dX0_redo_161 : decode cX0_redo 161 = .ok (.aload_n 2, 1) := by decide +kernel
theorem dX0_redo_162 : decode cX0_redo 162 = .ok (.iload 4, 2) := by decide +kernel
theorem dX0_redo_164 : decode cX0_redo 164 = .ok (.iload 5, 2) := by decide +kernel
theorem dX0_redo_166 : decode cX0_redo 166 = .ok (.invokevirtual 39, 3) := by decide +kernel
theorem dX0_redo_169 : decode cX0_redo 169 = .ok (.return_, 1) := by decide +kernel
theorem dX1_init_0 : decode cX1_init 0 = .ok (.aload_n 0, 1) := by decide +kernel
theorem dX1_init_1 : decode cX1_init 1 = .ok (.invokespecial 3, 3) := by decide +kernel
theorem dX1_init_4 : decode cX1_init 4 = .ok (.aload_n 0, 1) := by decide +kernel
theorem dX1_init_5 : decode cX1_init 5 = .ok (.bipush 16, 2) := by decide +kernel
theorem dX1_init_7 : decode cX1_init 7 = .ok (.newarray .int, 2) := by decide +kernel
theorem dX1_init_9 : decode cX1_init 9 = .ok (.putfield 9, 3) := by decide +kernel
theorem dX1_init_12 : decode cX1_init 12 = .ok (.aload_n 0, 1) := by decide +kernel
theorem dX1_init_13 : decode cX1_init 13 = .ok (.bipush 16, 2) := by decide +kernel
theorem dX1_init_15 : decode cX1_init 15 = .ok (.newarray .int, 2) := by decide +kernel
theorem dX1_init_17 : decode cX1_init 17 = .ok (.putfield 15, 3) := by decide +kernel
theorem dX1_init_20 : decode cX1_init 20 = .ok (.aload_n 0, 1) := by decide +kernel
theorem dX1_init_21 : decode cX1_init 21 = .ok (.bipush 16, 2) := by decide +kernel
theorem dX1_init_23 : decode cX1_init 23 = .ok (.newarray .int, 2) := by decide +kernel
theorem dX1_init_25 : decode cX1_init 25 = .ok (.putfield 18, 3) := by decide +kernel
theorem dX1_init_28 : decode cX1_init 28 = .ok (.aload_n 0, 1) := by decide +kernel
theorem dX1_init_29 : decode cX1_init 29 = .ok (.bipush 16, 2) := by decide +kernel
theorem dX1_init_31 : decode cX1_init 31 = .ok (.newarray .int, 2) := by decide +kernel
theorem dX1_init_33 : decode cX1_init 33 = .ok (.putfield 21, 3) := by decide +kernel
theorem dX1_init_36 : decode cX1_init 36 = .ok (.aload_n 0, 1) := by decide +kernel
theorem dX1_init_37 : decode cX1_init 37 = .ok (.sipush 512, 3) := by decide +kernel
theorem dX1_init_40 : decode cX1_init 40 = .ok (.newarray .int, 2) := by decide +kernel
theorem dX1_init_42 : decode cX1_init 42 = .ok (.putfield 24, 3) := by decide +kernel
theorem dX1_init_45 : decode cX1_init 45 = .ok (.aload_n 0, 1) := by decide +kernel
theorem dX1_init_46 : decode cX1_init 46 = .ok (.sipush 128, 3) := by decide +kernel
theorem dX1_init_49 : decode cX1_init 49 = .ok (.newarray .int, 2) := by decide +kernel
theorem dX1_init_51 : decode cX1_init 51 = .ok (.putfield 27, 3) := by decide +kernel
theorem dX1_init_54 : decode cX1_init 54 = .ok (.aload_n 0, 1) := by decide +kernel
theorem dX1_init_55 : decode cX1_init 55 = .ok (.getfield 9, 3) := by decide +kernel
theorem dX1_init_58 : decode cX1_init 58 = .ok (.iconst 0, 1) := by decide +kernel
theorem dX1_init_59 : decode cX1_init 59 = .ok (.iconst 2, 1) := by decide +kernel
theorem dX1_init_60 : decode cX1_init 60 = .ok (.iastore, 1) := by decide +kernel
theorem dX1_init_61 : decode cX1_init 61 = .ok (.return_, 1) := by decide +kernel
theorem dX1_copyFrom_0 : decode cX1_copyFrom 0 = .ok (.aload_n 1, 1) := by decide +kernel
theorem dX1_copyFrom_1 : decode cX1_copyFrom 1 = .ok (.getfield 9, 3) := by decide +kernel
theorem dX1_copyFrom_4 : decode cX1_copyFrom 4 = .ok (.iconst 0, 1) := by decide +kernel
theorem dX1_copyFrom_5 : decode cX1_copyFrom 5 = .ok (.aload_n 0, 1) := by decide +kernel
theorem dX1_copyFrom_6 : decode cX1_copyFrom 6 = .ok (.getfield 9, 3) := by decide +kernel
theorem dX1_copyFrom_9 : decode cX1_copyFrom 9 = .ok (.iconst 0, 1) := by decide +kernel
theorem dX1_copyFrom_10 : decode cX1_copyFrom 10 = .ok (.aload_n 0, 1) := by decide +kernel
theorem dX1_copyFrom_11 : decode cX1_copyFrom 11 = .ok (.getfield 9, 3) := by decide +kernel
theorem dX1_copyFrom_14 : decode cX1_copyFrom 14 = .ok (.arraylength, 1) := by decide +kernel
theorem dX1_copyFrom_15 : decode cX1_copyFrom 15 = .ok (.invokestatic 30, 3) := by decide +kernel
theorem dX1_copyFrom_18 : decode cX1_copyFrom 18 = .ok (.aload_n 1, 1) := by decide +kernel
theorem dX1_copyFrom_19 : decode cX1_copyFrom 19 = .ok (.getfield 15, 3) := by decide +kernel
theorem dX1_copyFrom_22 : decode cX1_copyFrom 22 = .ok (.iconst 0, 1) := by decide +kernel
theorem dX1_copyFrom_23 : decode cX1_copyFrom 23 = .ok (.aload_n 0, 1) := by decide +kernel
theorem dX1_copyFrom_24 : decode cX1_copyFrom 24 = .ok (.getfield 15, 3) := by decide +kernel
theorem dX1_copyFrom_27 : decode cX1_copyFrom 27 = .ok (.iconst 0, 1) := by decide +kernel
theorem dX1_copyFrom_28 : decode cX1_copyFrom 28 = .ok (.aload_n 0, 1) := by decide +kernel
theorem dX1_copyFrom_29 : decode cX1_copyFrom 29 = .ok (.getfield 15, 3) := by decide +kernel
theorem dX1_copyFrom_32 : decode cX1_copyFrom 32 = .ok (.arraylength, 1) := by decide +kernel
theorem dX1_copyFrom_33 : decode cX1_copyFrom 33 = .ok (.invokestatic 30, 3) := by decide +kernel
theorem dX1_copyFrom_36 : decode cX1_copyFrom 36 = .ok (.aload_n 1, 1) := by decide +kernel
theorem dX1_copyFrom_37 : decode cX1_copyFrom 37 = .ok (.getfield 18, 3) := by decide +kernel
theorem dX1_copyFrom_40 : decode cX1_copyFrom 40 = .ok (.iconst 0, 1) := by decide +kernel
theorem dX1_copyFrom_41 : decode cX1_copyFrom 41 = .ok (.aload_n 0, 1) := by decide +kernel
theorem dX1_copyFrom_42 : decode cX1_copyFrom 42 = .ok (.getfield 18, 3) := by decide +kernel
theorem dX1_copyFrom_45 : decode cX1_copyFrom 45 = .ok (.iconst 0, 1) := by decide +kernel
theorem dX1_copyFrom_46 : decode cX1_copyFrom 46 = .ok (.aload_n 0, 1) := by decide +kernel
theorem dX1_copyFrom_47 : decode cX1_copyFrom 47 = .ok (.getfield 18, 3) := by decide +kernel
theorem dX1_copyFrom_50 : decode cX1_copyFrom 50 = .ok (.arraylength, 1) := by decide +kernel
theorem dX1_copyFrom_51 : decode cX1_copyFrom 51 = .ok (.invokestatic 30, 3) := by decide +kernel
theorem dX1_copyFrom_54 : decode cX1_copyFrom 54 = .ok (.aload_n 1, 1) := by decide +kernel
theorem dX1_copyFrom_55 : decode cX1_copyFrom 55 = .ok (.getfield 21, 3) := by decide +kernel
theorem dX1_copyFrom_58 : decode cX1_copyFrom 58 = .ok (.iconst 0, 1) := by decide +kernel
theorem dX1_copyFrom_59 : decode cX1_copyFrom 59 = .ok (.aload_n 0, 1) := by decide +kernel
theorem dX1_copyFrom_60 : decode cX1_copyFrom 60 = .ok (.getfield 21, 3) := by decide +kernel
theorem dX1_copyFrom_63 : decode cX1_copyFrom 63 = .ok (.iconst 0, 1) := by decide +kernel
theorem dX1_copyFrom_64 : decode cX1_copyFrom 64 = .ok (.aload_n 0, 1) := by decide +kernel
theorem dX1_copyFrom_65 : decode cX1_copyFrom 65 = .ok (.getfield 21, 3) := by decide +kernel
theorem dX1_copyFrom_68 : decode cX1_copyFrom 68 = .ok (.arraylength, 1) := by decide +kernel
theorem dX1_copyFrom_69 : decode cX1_copyFrom 69 = .ok (.invokestatic 30, 3) := by decide +kernel
theorem dX1_copyFrom_72 : decode cX1_copyFrom 72 = .ok (.aload_n 1, 1) := by decide +kernel
theorem dX1_copyFrom_73 : decode cX1_copyFrom 73 = .ok (.getfield 24, 3) := by decide +kernel
theorem dX1_copyFrom_76 : decode cX1_copyFrom 76 = .ok (.iconst 0, 1) := by decide +kernel
theorem dX1_copyFrom_77 : decode cX1_copyFrom 77 = .ok (.aload_n 0, 1) := by decide +kernel
theorem dX1_copyFrom_78 : decode cX1_copyFrom 78 = .ok (.getfield 24, 3) := by decide +kernel
theorem dX1_copyFrom_81 : decode cX1_copyFrom 81 = .ok (.iconst 0, 1) := by decide +kernel
theorem dX1_copyFrom_82 : decode cX1_copyFrom 82 = .ok (.aload_n 0, 1) := by decide +kernel
theorem dX1_copyFrom_83 : decode cX1_copyFrom 83 = .ok (.getfield 24, 3) := by decide +kernel
theorem dX1_copyFrom_86 : decode cX1_copyFrom 86 = .ok (.arraylength, 1) := by decide +kernel
theorem dX1_copyFrom_87 : decode cX1_copyFrom 87 = .ok (.invokestatic 30, 3) := by decide +kernel
theorem dX1_copyFrom_90 : decode cX1_copyFrom 90 = .ok (.aload_n 1, 1) := by decide +kernel
theorem dX1_copyFrom_91 : decode cX1_copyFrom 91 = .ok (.getfield 27, 3) := by decide +kernel
theorem dX1_copyFrom_94 : decode cX1_copyFrom 94 = .ok (.iconst 0, 1) := by decide +kernel
theorem dX1_copyFrom_95 : decode cX1_copyFrom 95 = .ok (.aload_n 0, 1) := by decide +kernel
theorem dX1_copyFrom_96 : decode cX1_copyFrom 96 = .ok (.getfield 27, 3) := by decide +kernel
theorem dX1_copyFrom_99 : decode cX1_copyFrom 99 = .ok (.iconst 0, 1) := by decide +kernel
theorem dX1_copyFrom_100 : decode cX1_copyFrom 100 = .ok (.aload_n 0, 1) := by decide +kernel
theorem dX1_copyFrom_101 : decode cX1_copyFrom 101 = .ok (.getfield 27, 3) := by decide +kernel
theorem dX1_copyFrom_104 : decode cX1_copyFrom 104 = .ok (.arraylength, 1) := by decide +kernel
theorem dX1_copyFrom_105 : decode cX1_copyFrom 105 = .ok (.invokestatic 30, 3) := by decide +kernel
theorem dX1_copyFrom_108 : decode cX1_copyFrom 108 = .ok (.return_, 1) := by decide +kernel
theorem dX1_kind_0 : decode cX1_kind 0 = .ok (.aload_n 0, 1) := by decide +kernel
theorem dX1_kind_1 : decode cX1_kind 1 = .ok (.getfield 9, 3) := by decide +kernel
theorem dX1_kind_4 : decode cX1_kind 4 = .ok (.iload_n 1, 1) := by decide +kernel
theorem dX1_kind_5 : decode cX1_kind 5 = .ok (.iaload, 1) := by decide +kernel
theorem dX1_kind_6 : decode cX1_kind 6 = .ok (.ireturn, 1) := by decide +kernel
theorem dX1_isFile_0 : decode cX1_isFile 0 = .ok (.aload_n 0, 1) := by decide +kernel
theorem dX1_isFile_1 : decode cX1_isFile 1 = .ok (.getfield 9, 3) := by decide +kernel
theorem dX1_isFile_4 : decode cX1_isFile 4 = .ok (.iload_n 1, 1) := by decide +kernel
theorem dX1_isFile_5 : decode cX1_isFile 5 = .ok (.iaload, 1) := by decide +kernel
theorem dX1_isFile_6 : decode cX1_isFile 6 = .ok (.iconst 1, 1) := by decide +kernel
theorem dX1_isFile_7 : decode cX1_isFile 7 = .ok (.if_icmp .ne 7, 3) := by decide +kernel
theorem dX1_isFile_10 : decode cX1_isFile 10 = .ok (.iconst 1, 1) := by decide +kernel
theorem dX1_isFile_11 : decode cX1_isFile 11 = .ok (.goto 4, 3) := by decide +kernel
theorem dX1_isFile_14 : decode cX1_isFile 14 = .ok (.iconst 0, 1) := by decide +kernel
theorem dX1_isFile_15 : decode cX1_isFile 15 = .ok (.ireturn, 1) := by decide +kernel
theorem dX1_isDirectory_0 : decode cX1_isDirectory 0 = .ok (.aload_n 0, 1) := by decide +kernel
theorem dX1_isDirectory_1 : decode cX1_isDirectory 1 = .ok (.getfield 9, 3) := by decide +kernel
theorem dX1_isDirectory_4 : decode cX1_isDirectory 4 = .ok (.iload_n 1, 1) := by decide +kernel
theorem dX1_isDirectory_5 : decode cX1_isDirectory 5 = .ok (.iaload, 1) := by decide +kernel
theorem dX1_isDirectory_6 : decode cX1_isDirectory 6 = .ok (.iconst 2, 1) := by decide +kernel
theorem dX1_isDirectory_7 : decode cX1_isDirectory 7 = .ok (.if_icmp .ne 7, 3) := by decide +kernel
theorem dX1_isDirectory_10 : decode cX1_isDirectory 10 = .ok (.iconst 1, 1) := by decide +kernel
theorem dX1_isDirectory_11 : decode cX1_isDirectory 11 = .ok (.goto 4, 3) := by decide +kernel
theorem dX1_isDirectory_14 : decode cX1_isDirectory 14 = .ok (.iconst 0, 1) := by decide +kernel
theorem dX1_isDirectory_15 : decode cX1_isDirectory 15 = .ok (.ireturn, 1) := by decide +kernel
theorem dX1_size_0 : decode cX1_size 0 = .ok (.aload_n 0, 1) := by decide +kernel
theorem dX1_size_1 : decode cX1_size 1 = .ok (.getfield 15, 3) := by decide +kernel
theorem dX1_size_4 : decode cX1_size 4 = .ok (.iload_n 1, 1) := by decide +kernel
theorem dX1_size_5 : decode cX1_size 5 = .ok (.iaload, 1) := by decide +kernel
theorem dX1_size_6 : decode cX1_size 6 = .ok (.ireturn, 1) := by decide +kernel
theorem dX1_links_0 : decode cX1_links 0 = .ok (.aload_n 0, 1) := by decide +kernel
theorem dX1_links_1 : decode cX1_links 1 = .ok (.getfield 18, 3) := by decide +kernel
theorem dX1_links_4 : decode cX1_links 4 = .ok (.iload_n 1, 1) := by decide +kernel
theorem dX1_links_5 : decode cX1_links 5 = .ok (.iaload, 1) := by decide +kernel
theorem dX1_links_6 : decode cX1_links 6 = .ok (.ireturn, 1) := by decide +kernel
theorem dX1_target_0 : decode cX1_target 0 = .ok (.aload_n 0, 1) := by decide +kernel
theorem dX1_target_1 : decode cX1_target 1 = .ok (.getfield 24, 3) := by decide +kernel
theorem dX1_target_4 : decode cX1_target 4 = .ok (.iload_n 1, 1) := by decide +kernel
theorem dX1_target_5 : decode cX1_target 5 = .ok (.bipush 32, 2) := by decide +kernel
theorem dX1_target_7 : decode cX1_target 7 = .ok (.imul, 1) := by decide +kernel
theorem dX1_target_8 : decode cX1_target 8 = .ok (.iload_n 2, 1) := by decide +kernel
theorem dX1_target_9 : decode cX1_target 9 = .ok (.iadd, 1) := by decide +kernel
theorem dX1_target_10 : decode cX1_target 10 = .ok (.iaload, 1) := by decide +kernel
theorem dX1_target_11 : decode cX1_target 11 = .ok (.ireturn, 1) := by decide +kernel
theorem dX1_value_0 : decode cX1_value 0 = .ok (.aload_n 0, 1) := by decide +kernel
theorem dX1_value_1 : decode cX1_value 1 = .ok (.getfield 27, 3) := by decide +kernel
theorem dX1_value_4 : decode cX1_value 4 = .ok (.iload_n 1, 1) := by decide +kernel
theorem dX1_value_5 : decode cX1_value 5 = .ok (.bipush 8, 2) := by decide +kernel
theorem dX1_value_7 : decode cX1_value 7 = .ok (.imul, 1) := by decide +kernel
theorem dX1_value_8 : decode cX1_value 8 = .ok (.iload_n 2, 1) := by decide +kernel
theorem dX1_value_9 : decode cX1_value 9 = .ok (.iadd, 1) := by decide +kernel
theorem dX1_value_10 : decode cX1_value 10 = .ok (.iaload, 1) := by decide +kernel
theorem dX1_value_11 : decode cX1_value 11 = .ok (.ireturn, 1) := by decide +kernel
theorem dX1_nthName_0 : decode cX1_nthName 0 = .ok (.iconst 0, 1) := by decide +kernel
theorem dX1_nthName_1 : decode cX1_nthName 1 = .ok (.istore_n 3, 1) := by decide +kernel
theorem dX1_nthName_2 : decode cX1_nthName 2 = .ok (.iconst 0, 1) := by decide +kernel
theorem dX1_nthName_3 : decode cX1_nthName 3 = .ok (.istore 4, 2) := by decide +kernel
theorem dX1_nthName_5 : decode cX1_nthName 5 = .ok (.iload 4, 2) := by decide +kernel
theorem dX1_nthName_7 : decode cX1_nthName 7 = .ok (.bipush 32, 2) := by decide +kernel
theorem dX1_nthName_9 : decode cX1_nthName 9 = .ok (.if_icmp .ge 30, 3) := by decide +kernel
theorem dX1_nthName_12 : decode cX1_nthName 12 = .ok (.aload_n 0, 1) := by decide +kernel
theorem dX1_nthName_13 : decode cX1_nthName 13 = .ok (.iload_n 1, 1) := by decide +kernel
theorem dX1_nthName_14 : decode cX1_nthName 14 = .ok (.iload 4, 2) := by decide +kernel
theorem dX1_nthName_16 : decode cX1_nthName 16 = .ok (.invokevirtual 36, 3) := by decide +kernel
theorem dX1_nthName_19 : decode cX1_nthName 19 = .ok (.ifCond .eq 14, 3) := by decide +kernel
theorem dX1_nthName_22 : decode cX1_nthName 22 = .ok (.iload_n 3, 1) := by decide +kernel
theorem dX1_nthName_23 : decode cX1_nthName 23 = .ok (.iload_n 2, 1) := by decide +kernel
theorem dX1_nthName_24 : decode cX1_nthName 24 = .ok (.if_icmp .ne 6, 3) := by decide +kernel
theorem dX1_nthName_27 : decode cX1_nthName 27 = .ok (.iload 4, 2) := by decide +kernel
theorem dX1_nthName_29 : decode cX1_nthName 29 = .ok (.ireturn, 1) := by decide +kernel
theorem dX1_nthName_30 : decode cX1_nthName 30 = .ok (.iinc 3 1, 3) := by decide +kernel
theorem dX1_nthName_33 : decode cX1_nthName 33 = .ok (.iinc 4 1, 3) := by decide +kernel
theorem dX1_nthName_36 : decode cX1_nthName 36 = .ok (.goto (-31), 3) := by decide +kernel
theorem dX1_nthName_39 : decode cX1_nthName 39 = .ok (.iconst (-1), 1) := by decide +kernel
theorem dX1_nthName_40 : decode cX1_nthName 40 = .ok (.ireturn, 1) := by decide +kernel
theorem dX1_leastFreeNode_0 : decode cX1_leastFreeNode 0 = .ok (.iconst 0, 1) := by decide +kernel
theorem dX1_leastFreeNode_1 : decode cX1_leastFreeNode 1 = .ok (.istore_n 1, 1) := by decide +kernel
theorem dX1_leastFreeNode_2 : decode cX1_leastFreeNode 2 = .ok (.iload_n 1, 1) := by decide +kernel
theorem dX1_leastFreeNode_3 : decode cX1_leastFreeNode 3 = .ok (.bipush 16, 2) := by decide +kernel
theorem dX1_leastFreeNode_5 : decode cX1_leastFreeNode 5 = .ok (.if_icmp .ge 20, 3) := by decide +kernel
theorem dX1_leastFreeNode_8 : decode cX1_leastFreeNode 8 = .ok (.aload_n 0, 1) := by decide +kernel
theorem dX1_leastFreeNode_9 : decode cX1_leastFreeNode 9 = .ok (.getfield 9, 3) := by decide +kernel
theorem dX1_leastFreeNode_12 : decode cX1_leastFreeNode 12 = .ok (.iload_n 1, 1) := by decide +kernel
theorem dX1_leastFreeNode_13 : decode cX1_leastFreeNode 13 = .ok (.iaload, 1) := by decide +kernel
theorem dX1_leastFreeNode_14 : decode cX1_leastFreeNode 14 = .ok (.ifCond .ne 5, 3) := by decide +kernel
theorem dX1_leastFreeNode_17 : decode cX1_leastFreeNode 17 = .ok (.iload_n 1, 1) := by decide +kernel
theorem dX1_leastFreeNode_18 : decode cX1_leastFreeNode 18 = .ok (.ireturn, 1) := by decide +kernel
theorem dX1_leastFreeNode_19 : decode cX1_leastFreeNode 19 = .ok (.iinc 1 1, 3) := by decide +kernel
theorem dX1_leastFreeNode_22 : decode cX1_leastFreeNode 22 = .ok (.goto (-20), 3) := by decide +kernel
theorem dX1_leastFreeNode_25 : decode cX1_leastFreeNode 25 = .ok (.iconst 0, 1) := by decide +kernel
theorem dX1_leastFreeNode_26 : decode cX1_leastFreeNode 26 = .ok (.ireturn, 1) := by decide +kernel
theorem dX1_nodesThere_0 : decode cX1_nodesThere 0 = .ok (.iconst 0, 1) := by decide +kernel
theorem dX1_nodesThere_1 : decode cX1_nodesThere 1 = .ok (.istore_n 1, 1) := by decide +kernel
theorem dX1_nodesThere_2 : decode cX1_nodesThere 2 = .ok (.iconst 0, 1) := by decide +kernel
theorem dX1_nodesThere_3 : decode cX1_nodesThere 3 = .ok (.istore_n 2, 1) := by decide +kernel
theorem dX1_nodesThere_4 : decode cX1_nodesThere 4 = .ok (.iload_n 2, 1) := by decide +kernel
theorem dX1_nodesThere_5 : decode cX1_nodesThere 5 = .ok (.bipush 16, 2) := by decide +kernel
theorem dX1_nodesThere_7 : decode cX1_nodesThere 7 = .ok (.if_icmp .ge 21, 3) := by decide +kernel
theorem dX1_nodesThere_10 : decode cX1_nodesThere 10 = .ok (.aload_n 0, 1) := by decide +kernel
theorem dX1_nodesThere_11 : decode cX1_nodesThere 11 = .ok (.getfield 9, 3) := by decide +kernel
theorem dX1_nodesThere_14 : decode cX1_nodesThere 14 = .ok (.iload_n 2, 1) := by decide +kernel
theorem dX1_nodesThere_15 : decode cX1_nodesThere 15 = .ok (.iaload, 1) := by decide +kernel
theorem dX1_nodesThere_16 : decode cX1_nodesThere 16 = .ok (.ifCond .eq 6, 3) := by decide +kernel
theorem dX1_nodesThere_19 : decode cX1_nodesThere 19 = .ok (.iinc 1 1, 3) := by decide +kernel
theorem dX1_nodesThere_22 : decode cX1_nodesThere 22 = .ok (.iinc 2 1, 3) := by decide +kernel
theorem dX1_nodesThere_25 : decode cX1_nodesThere 25 = .ok (.goto (-21), 3) := by decide +kernel
theorem dX1_nodesThere_28 : decode cX1_nodesThere 28 = .ok (.iload_n 1, 1) := by decide +kernel
theorem dX1_nodesThere_29 : decode cX1_nodesThere 29 = .ok (.ireturn, 1) := by decide +kernel
theorem dX1_blocks_0 : decode cX1_blocks 0 = .ok (.aload_n 0, 1) := by decide +kernel
theorem dX1_blocks_1 : decode cX1_blocks 1 = .ok (.getfield 9, 3) := by decide +kernel
theorem dX1_blocks_4 : decode cX1_blocks 4 = .ok (.iload_n 1, 1) := by decide +kernel
theorem dX1_blocks_5 : decode cX1_blocks 5 = .ok (.iaload, 1) := by decide +kernel
theorem dX1_blocks_6 : decode cX1_blocks 6 = .ok (.ifCond .ne 5, 3) := by decide +kernel
theorem dX1_blocks_9 : decode cX1_blocks 9 = .ok (.iconst 0, 1) := by decide +kernel
theorem dX1_blocks_10 : decode cX1_blocks 10 = .ok (.ireturn, 1) := by decide +kernel
theorem dX1_blocks_11 : decode cX1_blocks 11 = .ok (.aload_n 0, 1) := by decide +kernel
theorem dX1_blocks_12 : decode cX1_blocks 12 = .ok (.iload_n 1, 1) := by decide +kernel
theorem dX1_blocks_13 : decode cX1_blocks 13 = .ok (.invokevirtual 40, 3) := by decide +kernel
theorem dX1_blocks_16 : decode cX1_blocks 16 = .ok (.ifCond .eq 14, 3) := by decide +kernel
theorem dX1_blocks_19 : decode cX1_blocks 19 = .ok (.iconst 1, 1) := by decide +kernel
theorem dX1_blocks_20 : decode cX1_blocks 20 = .ok (.aload_n 0, 1) := by decide +kernel
theorem dX1_blocks_21 : decode cX1_blocks 21 = .ok (.getfield 15, 3) := by decide +kernel
theorem dX1_blocks_24 : decode cX1_blocks 24 = .ok (.iload_n 1, 1) := by decide +kernel
theorem dX1_blocks_25 : decode cX1_blocks 25 = .ok (.iaload, 1) := by decide +kernel
theorem dX1_blocks_26 : decode cX1_blocks 26 = .ok (.iadd, 1) := by decide +kernel
theorem dX1_blocks_27 : decode cX1_blocks 27 = .ok (.goto 4, 3) := by decide +kernel
theorem dX1_blocks_30 : decode cX1_blocks 30 = .ok (.iconst 1, 1) := by decide +kernel
theorem dX1_blocks_31 : decode cX1_blocks 31 = .ok (.ireturn, 1) := by decide +kernel
theorem dX1_live_0 : decode cX1_live 0 = .ok (.iconst 0, 1) := by decide +kernel
theorem dX1_live_1 : decode cX1_live 1 = .ok (.istore_n 1, 1) := by decide +kernel
theorem dX1_live_2 : decode cX1_live 2 = .ok (.iconst 0, 1) := by decide +kernel
theorem dX1_live_3 : decode cX1_live 3 = .ok (.istore_n 2, 1) := by decide +kernel
theorem dX1_live_4 : decode cX1_live 4 = .ok (.iload_n 2, 1) := by decide +kernel
theorem dX1_live_5 : decode cX1_live 5 = .ok (.bipush 16, 2) := by decide +kernel
theorem dX1_live_7 : decode cX1_live 7 = .ok (.if_icmp .ge 17, 3) := by decide +kernel
theorem dX1_live_10 : decode cX1_live 10 = .ok (.iload_n 1, 1) := by decide +kernel
theorem dX1_live_11 : decode cX1_live 11 = .ok (.aload_n 0, 1) := by decide +kernel
theorem dX1_live_12 : decode cX1_live 12 = .ok (.iload_n 2, 1) := by decide +kernel
theorem dX1_live_13 : decode cX1_live 13 = .ok (.invokevirtual 44, 3) := by decide +kernel
theorem dX1_live_16 : decode cX1_live 16 = .ok (.iadd, 1) := by decide +kernel
theorem dX1_live_17 : decode cX1_live 17 = .ok (.istore_n 1, 1) := by decide +kernel
theorem dX1_live_18 : decode cX1_live 18 = .ok (.iinc 2 1, 3) := by decide +kernel
theorem dX1_live_21 : decode cX1_live 21 = .ok (.goto (-17), 3) := by decide +kernel
theorem dX1_live_24 : decode cX1_live 24 = .ok (.iload_n 1, 1) := by decide +kernel
theorem dX1_live_25 : decode cX1_live 25 = .ok (.ireturn, 1) := by decide +kernel
theorem dX1_liesIn_0 : decode cX1_liesIn 0 = .ok (.iload_n 1, 1) := by decide +kernel
theorem dX1_liesIn_1 : decode cX1_liesIn 1 = .ok (.istore_n 3, 1) := by decide +kernel
theorem dX1_liesIn_2 : decode cX1_liesIn 2 = .ok (.iconst 0, 1) := by decide +kernel
theorem dX1_liesIn_3 : decode cX1_liesIn 3 = .ok (.istore 4, 2) := by decide +kernel
theorem dX1_liesIn_5 : decode cX1_liesIn 5 = .ok (.iload 4, 2) := by decide +kernel
theorem dX1_liesIn_7 : decode cX1_liesIn 7 = .ok (.bipush 16, 2) := by decide +kernel
theorem dX1_liesIn_9 : decode cX1_liesIn 9 = .ok (.if_icmp .ge 23, 3) := by decide +kernel
theorem dX1_liesIn_12 : decode cX1_liesIn 12 = .ok (.iload_n 3, 1) := by decide +kernel
theorem dX1_liesIn_13 : decode cX1_liesIn 13 = .ok (.iload_n 2, 1) := by decide +kernel
theorem dX1_liesIn_14 : decode cX1_liesIn 14 = .ok (.if_icmp .ne 5, 3) := by decide +kernel
theorem dX1_liesIn_17 : decode cX1_liesIn 17 = .ok (.iconst 1, 1) := by decide +kernel
theorem dX1_liesIn_18 : decode cX1_liesIn 18 = .ok (.ireturn, 1) := by decide +kernel
theorem dX1_liesIn_19 : decode cX1_liesIn 19 = .ok (.aload_n 0, 1) := by decide +kernel
theorem dX1_liesIn_20 : decode cX1_liesIn 20 = .ok (.getfield 21, 3) := by decide +kernel
theorem dX1_liesIn_23 : decode cX1_liesIn 23 = .ok (.iload_n 3, 1) := by decide +kernel
theorem dX1_liesIn_24 : decode cX1_liesIn 24 = .ok (.iaload, 1) := by decide +kernel
theorem dX1_liesIn_25 : decode cX1_liesIn 25 = .ok (.istore_n 3, 1) := by decide +kernel
theorem dX1_liesIn_26 : decode cX1_liesIn 26 = .ok (.iinc 4 1, 3) := by decide +kernel
theorem dX1_liesIn_29 : decode cX1_liesIn 29 = .ok (.goto (-24), 3) := by decide +kernel
theorem dX1_liesIn_32 : decode cX1_liesIn 32 = .ok (.iconst 0, 1) := by decide +kernel
theorem dX1_liesIn_33 : decode cX1_liesIn 33 = .ok (.ireturn, 1) := by decide +kernel
theorem dX1_addNode_0 : decode cX1_addNode 0 = .ok (.aload_n 0, 1) := by decide +kernel
theorem dX1_addNode_1 : decode cX1_addNode 1 = .ok (.invokevirtual 48, 3) := by decide +kernel
theorem dX1_addNode_4 : decode cX1_addNode 4 = .ok (.istore 4, 2) := by decide +kernel
theorem dX1_addNode_6 : decode cX1_addNode 6 = .ok (.aload_n 0, 1) := by decide +kernel
theorem dX1_addNode_7 : decode cX1_addNode 7 = .ok (.getfield 9, 3) := by decide +kernel
theorem dX1_addNode_10 : decode cX1_addNode 10 = .ok (.iload 4, 2) := by decide +kernel
theorem dX1_addNode_12 : decode cX1_addNode 12 = .ok (.iload_n 3, 1) := by decide +kernel
theorem dX1_addNode_13 : decode cX1_addNode 13 = .ok (.iastore, 1) := by decide +kernel
theorem dX1_addNode_14 : decode cX1_addNode 14 = .ok (.aload_n 0, 1) := by decide +kernel
theorem dX1_addNode_15 : decode cX1_addNode 15 = .ok (.iload_n 1, 1) := by decide +kernel
theorem dX1_addNode_16 : decode cX1_addNode 16 = .ok (.iload_n 2, 1) := by decide +kernel
theorem dX1_addNode_17 : decode cX1_addNode 17 = .ok (.iload 4, 2) := by decide +kernel
theorem dX1_addNode_19 : decode cX1_addNode 19 = .ok (.invokevirtual 52, 3) := by decide +kernel
theorem dX1_addNode_22 : decode cX1_addNode 22 = .ok (.return_, 1) := by decide +kernel
theorem dX1_addEntry_0 : decode cX1_addEntry 0 = .ok (.aload_n 0, 1) := by decide +kernel
theorem dX1_addEntry_1 : decode cX1_addEntry 1 = .ok (.getfield 24, 3) := by decide +kernel
theorem dX1_addEntry_4 : decode cX1_addEntry 4 = .ok (.iload_n 1, 1) := by decide +kernel
theorem dX1_addEntry_5 : decode cX1_addEntry 5 = .ok (.bipush 32, 2) := by decide +kernel
theorem dX1_addEntry_7 : decode cX1_addEntry 7 = .ok (.imul, 1) := by decide +kernel
theorem dX1_addEntry_8 : decode cX1_addEntry 8 = .ok (.iload_n 2, 1) := by decide +kernel
theorem dX1_addEntry_9 : decode cX1_addEntry 9 = .ok (.iadd, 1) := by decide +kernel
theorem dX1_addEntry_10 : decode cX1_addEntry 10 = .ok (.iload_n 3, 1) := by decide +kernel
theorem dX1_addEntry_11 : decode cX1_addEntry 11 = .ok (.iastore, 1) := by decide +kernel
theorem dX1_addEntry_12 : decode cX1_addEntry 12 = .ok (.aload_n 0, 1) := by decide +kernel
theorem dX1_addEntry_13 : decode cX1_addEntry 13 = .ok (.getfield 15, 3) := by decide +kernel
theorem dX1_addEntry_16 : decode cX1_addEntry 16 = .ok (.iload_n 1, 1) := by decide +kernel
theorem dX1_addEntry_17 : decode cX1_addEntry 17 = .ok (.dup2, 1) := by decide +kernel
theorem dX1_addEntry_18 : decode cX1_addEntry 18 = .ok (.iaload, 1) := by decide +kernel
theorem dX1_addEntry_19 : decode cX1_addEntry 19 = .ok (.iconst 1, 1) := by decide +kernel
theorem dX1_addEntry_20 : decode cX1_addEntry 20 = .ok (.iadd, 1) := by decide +kernel
theorem dX1_addEntry_21 : decode cX1_addEntry 21 = .ok (.iastore, 1) := by decide +kernel
theorem dX1_addEntry_22 : decode cX1_addEntry 22 = .ok (.aload_n 0, 1) := by decide +kernel
theorem dX1_addEntry_23 : decode cX1_addEntry 23 = .ok (.getfield 18, 3) := by decide +kernel
theorem dX1_addEntry_26 : decode cX1_addEntry 26 = .ok (.iload_n 3, 1) := by decide +kernel
theorem dX1_addEntry_27 : decode cX1_addEntry 27 = .ok (.dup2, 1) := by decide +kernel
theorem dX1_addEntry_28 : decode cX1_addEntry 28 = .ok (.iaload, 1) := by decide +kernel
theorem dX1_addEntry_29 : decode cX1_addEntry 29 = .ok (.iconst 1, 1) := by decide +kernel
theorem dX1_addEntry_30 : decode cX1_addEntry 30 = .ok (.iadd, 1) := by decide +kernel
theorem dX1_addEntry_31 : decode cX1_addEntry 31 = .ok (.iastore, 1) := by decide +kernel
theorem dX1_addEntry_32 : decode cX1_addEntry 32 = .ok (.aload_n 0, 1) := by decide +kernel
theorem dX1_addEntry_33 : decode cX1_addEntry 33 = .ok (.getfield 21, 3) := by decide +kernel
theorem dX1_addEntry_36 : decode cX1_addEntry 36 = .ok (.iload_n 3, 1) := by decide +kernel
theorem dX1_addEntry_37 : decode cX1_addEntry 37 = .ok (.iload_n 1, 1) := by decide +kernel
theorem dX1_addEntry_38 : decode cX1_addEntry 38 = .ok (.iastore, 1) := by decide +kernel
theorem dX1_addEntry_39 : decode cX1_addEntry 39 = .ok (.return_, 1) := by decide +kernel
theorem dX1_dropEntry_0 : decode cX1_dropEntry 0 = .ok (.aload_n 0, 1) := by decide +kernel
theorem dX1_dropEntry_1 : decode cX1_dropEntry 1 = .ok (.iload_n 1, 1) := by decide +kernel
theorem dX1_dropEntry_2 : decode cX1_dropEntry 2 = .ok (.iload_n 2, 1) := by decide +kernel
theorem dX1_dropEntry_3 : decode cX1_dropEntry 3 = .ok (.invokevirtual 56, 3) := by decide +kernel
theorem dX1_dropEntry_6 : decode cX1_dropEntry 6 = .ok (.istore_n 3, 1) := by decide +kernel
theorem dX1_dropEntry_7 : decode cX1_dropEntry 7 = .ok (.aload_n 0, 1) := by decide +kernel
theorem dX1_dropEntry_8 : decode cX1_dropEntry 8 = .ok (.getfield 18, 3) := by decide +kernel
theorem dX1_dropEntry_11 : decode cX1_dropEntry 11 = .ok (.iload_n 3, 1) := by decide +kernel
theorem dX1_dropEntry_12 : decode cX1_dropEntry 12 = .ok (.iaload, 1) := by decide +kernel
theorem dX1_dropEntry_13 : decode cX1_dropEntry 13 = .ok (.ifCond .ne 17, 3) := by decide +kernel
theorem dX1_dropEntry_16 : decode cX1_dropEntry 16 = .ok (.aload_n 0, 1) := by decide +kernel
theorem dX1_dropEntry_17 : decode cX1_dropEntry 17 = .ok (.getfield 9, 3) := by decide +kernel
theorem dX1_dropEntry_20 : decode cX1_dropEntry 20 = .ok (.iload_n 3, 1) := by decide +kernel
theorem dX1_dropEntry_21 : decode cX1_dropEntry 21 = .ok (.iconst 0, 1) := by decide +kernel
theorem dX1_dropEntry_22 : decode cX1_dropEntry 22 = .ok (.iastore, 1) := by decide +kernel
theorem dX1_dropEntry_23 : decode cX1_dropEntry 23 = .ok (.aload_n 0, 1) := by decide +kernel
theorem dX1_dropEntry_24 : decode cX1_dropEntry 24 = .ok (.getfield 15, 3) := by decide +kernel
theorem dX1_dropEntry_27 : decode cX1_dropEntry 27 = .ok (.iload_n 3, 1) := by decide +kernel
theorem dX1_dropEntry_28 : decode cX1_dropEntry 28 = .ok (.iconst 0, 1) := by decide +kernel
theorem dX1_dropEntry_29 : decode cX1_dropEntry 29 = .ok (.iastore, 1) := by decide +kernel
theorem dX1_dropEntry_30 : decode cX1_dropEntry 30 = .ok (.return_, 1) := by decide +kernel
theorem dX1_moveEntry_0 : decode cX1_moveEntry 0 = .ok (.aload_n 0, 1) := by decide +kernel
theorem dX1_moveEntry_1 : decode cX1_moveEntry 1 = .ok (.iload_n 1, 1) := by decide +kernel
theorem dX1_moveEntry_2 : decode cX1_moveEntry 2 = .ok (.iload_n 2, 1) := by decide +kernel
theorem dX1_moveEntry_3 : decode cX1_moveEntry 3 = .ok (.invokevirtual 56, 3) := by decide +kernel
theorem dX1_moveEntry_6 : decode cX1_moveEntry 6 = .ok (.istore 5, 2) := by decide +kernel
theorem dX1_moveEntry_8 : decode cX1_moveEntry 8 = .ok (.aload_n 0, 1) := by decide +kernel
theorem dX1_moveEntry_9 : decode cX1_moveEntry 9 = .ok (.iload_n 3, 1) := by decide +kernel
theorem dX1_moveEntry_10 : decode cX1_moveEntry 10 = .ok (.iload 4, 2) := by decide +kernel
theorem dX1_moveEntry_12 : decode cX1_moveEntry 12 = .ok (.iload 5, 2) := by decide +kernel
theorem dX1_moveEntry_14 : decode cX1_moveEntry 14 = .ok (.invokevirtual 52, 3) := by decide +kernel
theorem dX1_moveEntry_17 : decode cX1_moveEntry 17 = .ok (.return_, 1) := by decide +kernel
theorem dX1_setInt_0 : decode cX1_setInt 0 = .ok (.aload_n 0, 1) := by decide +kernel
theorem dX1_setInt_1 : decode cX1_setInt 1 = .ok (.getfield 27, 3) := by decide +kernel
theorem dX1_setInt_4 : decode cX1_setInt 4 = .ok (.iload_n 1, 1) := by decide +kernel
theorem dX1_setInt_5 : decode cX1_setInt 5 = .ok (.bipush 8, 2) := by decide +kernel
theorem dX1_setInt_7 : decode cX1_setInt 7 = .ok (.imul, 1) := by decide +kernel
theorem dX1_setInt_8 : decode cX1_setInt 8 = .ok (.iload_n 2, 1) := by decide +kernel
theorem dX1_setInt_9 : decode cX1_setInt 9 = .ok (.iadd, 1) := by decide +kernel
theorem dX1_setInt_10 : decode cX1_setInt 10 = .ok (.iload_n 3, 1) := by decide +kernel
theorem dX1_setInt_11 : decode cX1_setInt 11 = .ok (.iastore, 1) := by decide +kernel
theorem dX1_setInt_12 : decode cX1_setInt 12 = .ok (.aload_n 0, 1) := by decide +kernel
theorem dX1_setInt_13 : decode cX1_setInt 13 = .ok (.getfield 15, 3) := by decide +kernel
theorem dX1_setInt_16 : decode cX1_setInt 16 = .ok (.iload_n 1, 1) := by decide +kernel
theorem dX1_setInt_17 : decode cX1_setInt 17 = .ok (.aload_n 0, 1) := by decide +kernel
theorem dX1_setInt_18 : decode cX1_setInt 18 = .ok (.getfield 15, 3) := by decide +kernel
theorem dX1_setInt_21 : decode cX1_setInt 21 = .ok (.iload_n 1, 1) := by decide +kernel
theorem dX1_setInt_22 : decode cX1_setInt 22 = .ok (.iaload, 1) := by decide +kernel
theorem dX1_setInt_23 : decode cX1_setInt 23 = .ok (.iload_n 2, 1) := by decide +kernel
theorem dX1_setInt_24 : decode cX1_setInt 24 = .ok (.iconst 1, 1) := by decide +kernel
theorem dX1_setInt_25 : decode cX1_setInt 25 = .ok (.iadd, 1) := by decide +kernel
theorem dX1_setInt_26 : decode cX1_setInt 26 = .ok (.invokestatic 59, 3) := by decide +kernel
theorem dX1_setInt_29 : decode cX1_setInt 29 = .ok (.iastore, 1) := by decide +kernel
theorem dX1_setInt_30 : decode cX1_setInt 30 = .ok (.return_, 1) := by decide +kernel
theorem dX1_setSize_0 : decode cX1_setSize 0 = .ok (.aload_n 0, 1) := by decide +kernel
theorem dX1_setSize_1 : decode cX1_setSize 1 = .ok (.getfield 15, 3) := by decide +kernel
theorem dX1_setSize_4 : decode cX1_setSize 4 = .ok (.iload_n 1, 1) := by decide +kernel
theorem dX1_setSize_5 : decode cX1_setSize 5 = .ok (.iload_n 2, 1) := by decide +kernel
theorem dX1_setSize_6 : decode cX1_setSize 6 = .ok (.iastore, 1) := by decide +kernel
theorem dX1_setSize_7 : decode cX1_setSize 7 = .ok (.return_, 1) := by decide +kernel
theorem dX1_takeEntry_0 : decode cX1_takeEntry 0 = .ok (.aload_n 0, 1) := by decide +kernel
theorem dX1_takeEntry_1 : decode cX1_takeEntry 1 = .ok (.iload_n 1, 1) := by decide +kernel
theorem dX1_takeEntry_2 : decode cX1_takeEntry 2 = .ok (.iload_n 2, 1) := by decide +kernel
theorem dX1_takeEntry_3 : decode cX1_takeEntry 3 = .ok (.invokevirtual 36, 3) := by decide +kernel
theorem dX1_takeEntry_6 : decode cX1_takeEntry 6 = .ok (.istore_n 3, 1) := by decide +kernel
theorem dX1_takeEntry_7 : decode cX1_takeEntry 7 = .ok (.aload_n 0, 1) := by decide +kernel
theorem dX1_takeEntry_8 : decode cX1_takeEntry 8 = .ok (.getfield 24, 3) := by decide +kernel
theorem dX1_takeEntry_11 : decode cX1_takeEntry 11 = .ok (.iload_n 1, 1) := by decide +kernel
theorem dX1_takeEntry_12 : decode cX1_takeEntry 12 = .ok (.bipush 32, 2) := by decide +kernel
theorem dX1_takeEntry_14 : decode cX1_takeEntry 14 = .ok (.imul, 1) := by decide +kernel
theorem dX1_takeEntry_15 : decode cX1_takeEntry 15 = .ok (.iload_n 2, 1) := by decide +kernel
theorem dX1_takeEntry_16 : decode cX1_takeEntry 16 = .ok (.iadd, 1) := by decide +kernel
theorem dX1_takeEntry_17 : decode cX1_takeEntry 17 = .ok (.iconst 0, 1) := by decide +kernel
theorem dX1_takeEntry_18 : decode cX1_takeEntry 18 = .ok (.iastore, 1) := by decide +kernel
theorem dX1_takeEntry_19 : decode cX1_takeEntry 19 = .ok (.aload_n 0, 1) := by decide +kernel
theorem dX1_takeEntry_20 : decode cX1_takeEntry 20 = .ok (.getfield 15, 3) := by decide +kernel
theorem dX1_takeEntry_23 : decode cX1_takeEntry 23 = .ok (.iload_n 1, 1) := by decide +kernel
theorem dX1_takeEntry_24 : decode cX1_takeEntry 24 = .ok (.dup2, 1) := by decide +kernel
theorem dX1_takeEntry_25 : decode cX1_takeEntry 25 = .ok (.iaload, 1) := by decide +kernel
theorem dX1_takeEntry_26 : decode cX1_takeEntry 26 = .ok (.iconst 1, 1) := by decide +kernel
theorem dX1_takeEntry_27 : decode cX1_takeEntry 27 = .ok (.isub, 1) := by decide +kernel
theorem dX1_takeEntry_28 : decode cX1_takeEntry 28 = .ok (.iastore, 1) := by decide +kernel
theorem dX1_takeEntry_29 : decode cX1_takeEntry 29 = .ok (.aload_n 0, 1) := by decide +kernel
theorem dX1_takeEntry_30 : decode cX1_takeEntry 30 = .ok (.getfield 18, 3) := by decide +kernel
theorem dX1_takeEntry_33 : decode cX1_takeEntry 33 = .ok (.iload_n 3, 1) := by decide +kernel
theorem dX1_takeEntry_34 : decode cX1_takeEntry 34 = .ok (.dup2, 1) := by decide +kernel
theorem dX1_takeEntry_35 : decode cX1_takeEntry 35 = .ok (.iaload, 1) := by decide +kernel
theorem dX1_takeEntry_36 : decode cX1_takeEntry 36 = .ok (.iconst 1, 1) := by decide +kernel
theorem dX1_takeEntry_37 : decode cX1_takeEntry 37 = .ok (.isub, 1) := by decide +kernel
theorem dX1_takeEntry_38 : decode cX1_takeEntry 38 = .ok (.iastore, 1) := by decide +kernel
theorem dX1_takeEntry_39 : decode cX1_takeEntry 39 = .ok (.iload_n 3, 1) := by decide +kernel
theorem dX1_takeEntry_40 : decode cX1_takeEntry 40 = .ok (.ireturn, 1) := by decide +kernel
end
section
theorem dX2_init_0 : decode cX2_init 0 = .ok (.aload_n 0, 1) := by decide +kernel
theorem dX2_init_1 : decode cX2_init 1 = .ok (.invokespecial 1, 3) := by decide +kernel
theorem dX2_init_4 : decode cX2_init 4 = .ok (.iconst 4, 1) := by decide +kernel
theorem dX2_init_5 : decode cX2_init 5 = .ok (.bipush 8, 2) := by decide +kernel
theorem dX2_init_7 : decode cX2_init 7 = .ok (.iload_n 1, 1) := by decide +kernel
theorem dX2_init_8 : decode cX2_init 8 = .ok (.invokestatic 9, 3) := by decide +kernel
theorem dX2_init_11 : decode cX2_init 11 = .ok (.invokestatic 15, 3) := by decide +kernel
theorem dX2_init_14 : decode cX2_init 14 = .ok (.istore_n 2, 1) := by decide +kernel
theorem dX2_init_15 : decode cX2_init 15 = .ok (.aload_n 0, 1) := by decide +kernel
theorem dX2_init_16 : decode cX2_init 16 = .ok (.bipush 8, 2) := by decide +kernel
theorem dX2_init_18 : decode cX2_init 18 = .ok (.iload_n 2, 1) := by decide +kernel
theorem dX2_init_19 : decode cX2_init 19 = .ok (.iconst 2, 1) := by decide +kernel
theorem dX2_init_20 : decode cX2_init 20 = .ok (.isub, 1) := by decide +kernel
theorem dX2_init_21 : decode cX2_init 21 = .ok (.imul, 1) := by decide +kernel
theorem dX2_init_22 : decode cX2_init 22 = .ok (.putfield 18, 3) := by decide +kernel
theorem dX2_init_25 : decode cX2_init 25 = .ok (.aload_n 0, 1) := by decide +kernel
theorem dX2_init_26 : decode cX2_init 26 = .ok (.new 22, 3) := by decide +kernel
theorem dX2_init_29 : decode cX2_init 29 = .ok (.dup, 1) := by decide +kernel
theorem dX2_init_30 : decode cX2_init 30 = .ok (.invokespecial 24, 3) := by decide +kernel
theorem dX2_init_33 : decode cX2_init 33 = .ok (.putfield 25, 3) := by decide +kernel
theorem dX2_init_36 : decode cX2_init 36 = .ok (.aload_n 0, 1) := by decide +kernel
theorem dX2_init_37 : decode cX2_init 37 = .ok (.new 22, 3) := by decide +kernel
theorem dX2_init_40 : decode cX2_init 40 = .ok (.dup, 1) := by decide +kernel
theorem dX2_init_41 : decode cX2_init 41 = .ok (.invokespecial 24, 3) := by decide +kernel
theorem dX2_init_44 : decode cX2_init 44 = .ok (.putfield 29, 3) := by decide +kernel
theorem dX2_init_47 : decode cX2_init 47 = .ok (.aload_n 0, 1) := by decide +kernel
theorem dX2_init_48 : decode cX2_init 48 = .ok (.new 32, 3) := by decide +kernel
theorem dX2_init_51 : decode cX2_init 51 = .ok (.dup, 1) := by decide +kernel
theorem dX2_init_52 : decode cX2_init 52 = .ok (.invokespecial 34, 3) := by decide +kernel
theorem dX2_init_55 : decode cX2_init 55 = .ok (.putfield 35, 3) := by decide +kernel
theorem dX2_init_58 : decode cX2_init 58 = .ok (.aload_n 0, 1) := by decide +kernel
theorem dX2_init_59 : decode cX2_init 59 = .ok (.aload_n 0, 1) := by decide +kernel
theorem dX2_init_60 : decode cX2_init 60 = .ok (.getfield 25, 3) := by decide +kernel
theorem dX2_init_63 : decode cX2_init 63 = .ok (.invokevirtual 39, 3) := by decide +kernel
theorem dX2_init_66 : decode cX2_init 66 = .ok (.putfield 43, 3) := by decide +kernel
theorem dX2_init_69 : decode cX2_init 69 = .ok (.aload_n 0, 1) := by decide +kernel
theorem dX2_init_70 : decode cX2_init 70 = .ok (.iconst 0, 1) := by decide +kernel
theorem dX2_init_71 : decode cX2_init 71 = .ok (.putfield 46, 3) := by decide +kernel
theorem dX2_init_74 : decode cX2_init 74 = .ok (.return_, 1) := by decide +kernel
theorem dX2_create_0 : decode cX2_create 0 = .ok (.iload_n 1, 1) := by decide +kernel
theorem dX2_create_1 : decode cX2_create 1 = .ok (.invokestatic 49, 3) := by decide +kernel
theorem dX2_create_4 : decode cX2_create 4 = .ok (.ifCond .eq 10, 3) := by decide +kernel
theorem dX2_create_7 : decode cX2_create 7 = .ok (.iload_n 2, 1) := by decide +kernel
theorem dX2_create_8 : decode cX2_create 8 = .ok (.invokestatic 53, 3) := by decide +kernel
theorem dX2_create_11 : decode cX2_create 11 = .ok (.ifCond .ne 5, 3) := by decide +kernel
theorem dX2_create_14 : decode cX2_create 14 = .ok (.iconst (-1), 1) := by decide +kernel
theorem dX2_create_15 : decode cX2_create 15 = .ok (.ireturn, 1) := by decide +kernel
theorem dX2_create_16 : decode cX2_create 16 = .ok (.aload_n 0, 1) := by decide +kernel
theorem dX2_create_17 : decode cX2_create 17 = .ok (.getfield 25, 3) := by decide +kernel
theorem dX2_create_20 : decode cX2_create 20 = .ok (.iload_n 1, 1) := by decide +kernel
theorem dX2_create_21 : decode cX2_create 21 = .ok (.invokevirtual 56, 3) := by decide +kernel
theorem dX2_create_24 : decode cX2_create 24 = .ok (.ifCond .ne 6, 3) := by decide +kernel
theorem dX2_create_27 : decode cX2_create 27 = .ok (.bipush (-2), 2) := by decide +kernel
theorem dX2_create_29 : decode cX2_create 29 = .ok (.ireturn, 1) := by decide +kernel
theorem dX2_create_30 : decode cX2_create 30 = .ok (.aload_n 0, 1) := by decide +kernel
theorem dX2_create_31 : decode cX2_create 31 = .ok (.getfield 25, 3) := by decide +kernel
theorem dX2_create_34 : decode cX2_create 34 = .ok (.iload_n 1, 1) := by decide +kernel
theorem dX2_create_35 : decode cX2_create 35 = .ok (.iload_n 2, 1) := by decide +kernel
theorem dX2_create_36 : decode cX2_create 36 = .ok (.invokevirtual 59, 3) := by decide +kernel
theorem dX2_create_39 : decode cX2_create 39 = .ok (.ifCond .eq 6, 3) := by decide +kernel
theorem dX2_create_42 : decode cX2_create 42 = .ok (.bipush (-3), 2) := by decide +kernel
theorem dX2_create_44 : decode cX2_create 44 = .ok (.ireturn, 1) := by decide +kernel
theorem dX2_create_45 : decode cX2_create 45 = .ok (.aload_n 0, 1) := by decide +kernel
theorem dX2_create_46 : decode cX2_create 46 = .ok (.getfield 25, 3) := by decide +kernel
theorem dX2_create_49 : decode cX2_create 49 = .ok (.invokevirtual 62, 3) := by decide +kernel
theorem dX2_create_52 : decode cX2_create 52 = .ok (.istore 4, 2) := by decide +kernel
theorem dX2_create_54 : decode cX2_create 54 = .ok (.aload_n 0, 1) := by decide +kernel
theorem dX2_create_55 : decode cX2_create 55 = .ok (.getfield 25, 3) := by decide +kernel
theorem dX2_create_58 : decode cX2_create 58 = .ok (.iload_n 1, 1) := by decide +kernel
theorem dX2_create_59 : decode cX2_create 59 = .ok (.invokevirtual 65, 3) := by decide +kernel
theorem dX2_create_62 : decode cX2_create 62 = .ok (.bipush 8, 2) := by decide +kernel
theorem dX2_create_64 : decode cX2_create 64 = .ok (.if_icmp .ge 8, 3) := by decide +kernel
theorem dX2_create_67 : decode cX2_create 67 = .ok (.iload 4, 2) := by decide +kernel
theorem dX2_create_69 : decode cX2_create 69 = .ok (.ifCond .ne 6, 3) := by decide +kernel
theorem dX2_create_72 : decode cX2_create 72 = .ok (.bipush (-5), 2) := by decide +kernel
theorem dX2_create_74 : decode cX2_create 74 = .ok (.ireturn, 1) := by decide +kernel
theorem dX2_create_75 : decode cX2_create 75 = .ok (.iconst 2, 1) := by decide +kernel
theorem dX2_create_76 : decode cX2_create 76 = .ok (.iconst 0, 1) := by decide +kernel
theorem dX2_create_77 : decode cX2_create 77 = .ok (.invokestatic 69, 3) := by decide +kernel
theorem dX2_create_80 : decode cX2_create 80 = .ok (.istore 5, 2) := by decide +kernel
theorem dX2_create_82 : decode cX2_create 82 = .ok (.aload_n 0, 1) := by decide +kernel
theorem dX2_create_83 : decode cX2_create 83 = .ok (.iload 5, 2) := by decide +kernel
theorem dX2_create_85 : decode cX2_create 85 = .ok (.iconst 1, 1) := by decide +kernel
theorem dX2_create_86 : decode cX2_create 86 = .ok (.invokevirtual 72, 3) := by decide +kernel
theorem dX2_create_89 : decode cX2_create 89 = .ok (.ifCond .ne 6, 3) := by decide +kernel
theorem dX2_create_92 : decode cX2_create 92 = .ok (.bipush (-6), 2) := by decide +kernel
theorem dX2_create_94 : decode cX2_create 94 = .ok (.ireturn, 1) := by decide +kernel
theorem dX2_create_95 : decode cX2_create 95 = .ok (.aload_n 0, 1) := by decide +kernel
theorem dX2_create_96 : decode cX2_create 96 = .ok (.iload 5, 2) := by decide +kernel
theorem dX2_create_98 : decode cX2_create 98 = .ok (.iconst 0, 1) := by decide +kernel
theorem dX2_create_99 : decode cX2_create 99 = .ok (.iload_n 1, 1) := by decide +kernel
theorem dX2_create_100 : decode cX2_create 100 = .ok (.iload_n 2, 1) := by decide +kernel
theorem dX2_create_101 : decode cX2_create 101 = .ok (.iload_n 3, 1) := by decide +kernel
theorem dX2_create_102 : decode cX2_create 102 = .ok (.ifCond .eq 7, 3) := by decide +kernel
theorem dX2_create_105 : decode cX2_create 105 = .ok (.iconst 2, 1) := by decide +kernel
theorem dX2_create_106 : decode cX2_create 106 = .ok (.goto 4, 3) := by decide +kernel
theorem dX2_create_109 : decode cX2_create 109 = .ok (.iconst 1, 1) := by decide +kernel
theorem dX2_create_110 : decode cX2_create 110 = .ok (.iconst 0, 1) := by decide +kernel
theorem dX2_create_111 : decode cX2_create 111 = .ok (.invokevirtual 76, 3) := by decide +kernel
theorem dX2_create_114 : decode cX2_create 114 = .ok (.iload 4, 2) := by decide +kernel
theorem dX2_create_116 : decode cX2_create 116 = .ok (.ireturn, 1) := by decide +kernel
theorem dX2_link_0 : decode cX2_link 0 = .ok (.iload_n 1, 1) := by decide +kernel
theorem dX2_link_1 : decode cX2_link 1 = .ok (.invokestatic 49, 3) := by decide +kernel
theorem dX2_link_4 : decode cX2_link 4 = .ok (.ifCond .eq 17, 3) := by decide +kernel
theorem dX2_link_7 : decode cX2_link 7 = .ok (.iload_n 2, 1) := by decide +kernel
theorem dX2_link_8 : decode cX2_link 8 = .ok (.invokestatic 53, 3) := by decide +kernel
theorem dX2_link_11 : decode cX2_link 11 = .ok (.ifCond .eq 10, 3) := by decide +kernel
theorem dX2_link_14 : decode cX2_link 14 = .ok (.iload_n 3, 1) := by decide +kernel
theorem dX2_link_15 : decode cX2_link 15 = .ok (.invokestatic 49, 3) := by decide +kernel
theorem dX2_link_18 : decode cX2_link 18 = .ok (.ifCond .ne 5, 3) := by decide +kernel
theorem dX2_link_21 : decode cX2_link 21 = .ok (.iconst (-1), 1) := by decide +kernel
theorem dX2_link_22 : decode cX2_link 22 = .ok (.ireturn, 1) := by decide +kernel
theorem dX2_link_23 : decode cX2_link 23 = .ok (.aload_n 0, 1) := by decide +kernel
theorem dX2_link_24 : decode cX2_link 24 = .ok (.getfield 25, 3) := by decide +kernel
theorem dX2_link_27 : decode cX2_link 27 = .ok (.iload_n 1, 1) := by decide +kernel
theorem dX2_link_28 : decode cX2_link 28 = .ok (.invokevirtual 56, 3) := by decide +kernel
theorem dX2_link_31 : decode cX2_link 31 = .ok (.ifCond .eq 14, 3) := by decide +kernel
theorem dX2_link_34 : decode cX2_link 34 = .ok (.aload_n 0, 1) := by decide +kernel
theorem dX2_link_35 : decode cX2_link 35 = .ok (.getfield 25, 3) := by decide +kernel
theorem dX2_link_38 : decode cX2_link 38 = .ok (.iload_n 3, 1) := by decide +kernel
theorem dX2_link_39 : decode cX2_link 39 = .ok (.invokevirtual 80, 3) := by decide +kernel
theorem dX2_link_42 : decode cX2_link 42 = .ok (.ifCond .ne 6, 3) := by decide +kernel
theorem dX2_link_45 : decode cX2_link 45 = .ok (.bipush (-2), 2) := by decide +kernel
theorem dX2_link_47 : decode cX2_link 47 = .ok (.ireturn, 1) := by decide +kernel
theorem dX2_link_48 : decode cX2_link 48 = .ok (.aload_n 0, 1) := by decide +kernel
theorem dX2_link_49 : decode cX2_link 49 = .ok (.getfield 25, 3) := by decide +kernel
theorem dX2_link_52 : decode cX2_link 52 = .ok (.iload_n 1, 1) := by decide +kernel
theorem dX2_link_53 : decode cX2_link 53 = .ok (.iload_n 2, 1) := by decide +kernel
theorem dX2_link_54 : decode cX2_link 54 = .ok (.invokevirtual 59, 3) := by decide +kernel
theorem dX2_link_57 : decode cX2_link 57 = .ok (.ifCond .eq 6, 3) := by decide +kernel
theorem dX2_link_60 : decode cX2_link 60 = .ok (.bipush (-3), 2) := by decide +kernel
theorem dX2_link_62 : decode cX2_link 62 = .ok (.ireturn, 1) := by decide +kernel
theorem dX2_link_63 : decode cX2_link 63 = .ok (.aload_n 0, 1) := by decide +kernel
theorem dX2_link_64 : decode cX2_link 64 = .ok (.getfield 25, 3) := by decide +kernel
theorem dX2_link_67 : decode cX2_link 67 = .ok (.iload_n 1, 1) := by decide +kernel
theorem dX2_link_68 : decode cX2_link 68 = .ok (.invokevirtual 65, 3) := by decide +kernel
theorem dX2_link_71 : decode cX2_link 71 = .ok (.bipush 8, 2) := by decide +kernel
theorem dX2_link_73 : decode cX2_link 73 = .ok (.if_icmp .lt 6, 3) := by decide +kernel
theorem dX2_link_76 : decode cX2_link 76 = .ok (.bipush (-5), 2) := by decide +kernel
theorem dX2_link_78 : decode cX2_link 78 = .ok (.ireturn, 1) := by decide +kernel
theorem dX2_link_79 : decode cX2_link 79 = .ok (.iconst 2, 1) := by decide +kernel
theorem dX2_link_80 : decode cX2_link 80 = .ok (.iconst 0, 1) := by decide +kernel
theorem dX2_link_81 : decode cX2_link 81 = .ok (.invokestatic 69, 3) := by decide +kernel
theorem dX2_link_84 : decode cX2_link 84 = .ok (.istore 4, 2) := by decide +kernel
theorem dX2_link_86 : decode cX2_link 86 = .ok (.aload_n 0, 1) := by decide +kernel
theorem dX2_link_87 : decode cX2_link 87 = .ok (.iload 4, 2) := by decide +kernel
theorem dX2_link_89 : decode cX2_link 89 = .ok (.iconst 0, 1) := by decide +kernel
theorem dX2_link_90 : decode cX2_link 90 = .ok (.invokevirtual 72, 3) := by decide +kernel
theorem dX2_link_93 : decode cX2_link 93 = .ok (.ifCond .ne 6, 3) := by decide +kernel
theorem dX2_link_96 : decode cX2_link 96 = .ok (.bipush (-6), 2) := by decide +kernel
theorem dX2_link_98 : decode cX2_link 98 = .ok (.ireturn, 1) := by decide +kernel
theorem dX2_link_99 : decode cX2_link 99 = .ok (.aload_n 0, 1) := by decide +kernel
theorem dX2_link_100 : decode cX2_link 100 = .ok (.iload 4, 2) := by decide +kernel
theorem dX2_link_102 : decode cX2_link 102 = .ok (.iconst 1, 1) := by decide +kernel
theorem dX2_link_103 : decode cX2_link 103 = .ok (.iload_n 1, 1) := by decide +kernel
theorem dX2_link_104 : decode cX2_link 104 = .ok (.iload_n 2, 1) := by decide +kernel
theorem dX2_link_105 : decode cX2_link 105 = .ok (.iload_n 3, 1) := by decide +kernel
theorem dX2_link_106 : decode cX2_link 106 = .ok (.iconst 0, 1) := by decide +kernel
theorem dX2_link_107 : decode cX2_link 107 = .ok (.invokevirtual 76, 3) := by decide +kernel
theorem dX2_link_110 : decode cX2_link 110 = .ok (.iconst 0, 1) := by decide +kernel
theorem dX2_link_111 : decode cX2_link 111 = .ok (.ireturn, 1) := by decide +kernel
theorem dX2_remove_0 : decode cX2_remove 0 = .ok (.iload_n 1, 1) := by decide +kernel
theorem dX2_remove_1 : decode cX2_remove 1 = .ok (.invokestatic 49, 3) := by decide +kernel
theorem dX2_remove_4 : decode cX2_remove 4 = .ok (.ifCond .eq 10, 3) := by decide +kernel
theorem dX2_remove_7 : decode cX2_remove 7 = .ok (.iload_n 2, 1) := by decide +kernel
theorem dX2_remove_8 : decode cX2_remove 8 = .ok (.invokestatic 53, 3) := by decide +kernel
theorem dX2_remove_11 : decode cX2_remove 11 = .ok (.ifCond .ne 5, 3) := by decide +kernel
theorem dX2_remove_14 : decode cX2_remove 14 = .ok (.iconst (-1), 1) := by decide +kernel
theorem dX2_remove_15 : decode cX2_remove 15 = .ok (.ireturn, 1) := by decide +kernel
theorem dX2_remove_16 : decode cX2_remove 16 = .ok (.aload_n 0, 1) := by decide +kernel
theorem dX2_remove_17 : decode cX2_remove 17 = .ok (.getfield 25, 3) := by decide +kernel
theorem dX2_remove_20 : decode cX2_remove 20 = .ok (.iload_n 1, 1) := by decide +kernel
theorem dX2_remove_21 : decode cX2_remove 21 = .ok (.invokevirtual 56, 3) := by decide +kernel
theorem dX2_remove_24 : decode cX2_remove 24 = .ok (.ifCond .eq 15, 3) := by decide +kernel
theorem dX2_remove_27 : decode cX2_remove 27 = .ok (.aload_n 0, 1) := by decide +kernel
theorem dX2_remove_28 : decode cX2_remove 28 = .ok (.getfield 25, 3) := by decide +kernel
theorem dX2_remove_31 : decode cX2_remove 31 = .ok (.iload_n 1, 1) := by decide +kernel
theorem dX2_remove_32 : decode cX2_remove 32 = .ok (.iload_n 2, 1) := by decide +kernel
theorem dX2_remove_33 : decode cX2_remove 33 = .ok (.invokevirtual 59, 3) := by decide +kernel
theorem dX2_remove_36 : decode cX2_remove 36 = .ok (.ifCond .ne 6, 3) := by decide +kernel
theorem dX2_remove_39 : decode cX2_remove 39 = .ok (.bipush (-2), 2) := by decide +kernel
theorem dX2_remove_41 : decode cX2_remove 41 = .ok (.ireturn, 1) := by decide +kernel
theorem dX2_remove_42 : decode cX2_remove 42 = .ok (.aload_n 0, 1) := by decide +kernel
theorem dX2_remove_43 : decode cX2_remove 43 = .ok (.getfield 25, 3) := by decide +kernel
theorem dX2_remove_46 : decode cX2_remove 46 = .ok (.iload_n 1, 1) := by decide +kernel
theorem dX2_remove_47 : decode cX2_remove 47 = .ok (.iload_n 2, 1) := by decide +kernel
theorem dX2_remove_48 : decode cX2_remove 48 = .ok (.invokevirtual 59, 3) := by decide +kernel
theorem dX2_remove_51 : decode cX2_remove 51 = .ok (.istore_n 3, 1) := by decide +kernel
theorem dX2_remove_52 : decode cX2_remove 52 = .ok (.aload_n 0, 1) := by decide +kernel
theorem dX2_remove_53 : decode cX2_remove 53 = .ok (.getfield 25, 3) := by decide +kernel
theorem dX2_remove_56 : decode cX2_remove 56 = .ok (.iload_n 3, 1) := by decide +kernel
theorem dX2_remove_57 : decode cX2_remove 57 = .ok (.invokevirtual 56, 3) := by decide +kernel
theorem dX2_remove_60 : decode cX2_remove 60 = .ok (.ifCond .eq 17, 3) := by decide +kernel
theorem dX2_remove_63 : decode cX2_remove 63 = .ok (.aload_n 0, 1) := by decide +kernel
theorem dX2_remove_64 : decode cX2_remove 64 = .ok (.getfield 25, 3) := by decide +kernel
theorem dX2_remove_67 : decode cX2_remove 67 = .ok (.iload_n 3, 1) := by decide +kernel
theorem dX2_remove_68 : decode cX2_remove 68 = .ok (.invokevirtual 65, 3) := by decide +kernel
theorem dX2_remove_71 : decode cX2_remove 71 = .ok (.ifCond .le 6, 3) := by decide +kernel
theorem dX2_remove_74 : decode cX2_remove 74 = .ok (.bipush (-4), 2) := by decide +kernel
theorem dX2_remove_76 : decode cX2_remove 76 = .ok (.ireturn, 1) := by decide +kernel
theorem dX2_remove_77 : decode cX2_remove 77 = .ok (.aload_n 0, 1) := by decide +kernel
theorem dX2_remove_78 : decode cX2_remove 78 = .ok (.getfield 25, 3) := by decide +kernel
theorem dX2_remove_81 : decode cX2_remove 81 = .ok (.iload_n 3, 1) := by decide +kernel
theorem dX2_remove_82 : decode cX2_remove 82 = .ok (.invokevirtual 83, 3) := by decide +kernel
theorem dX2_remove_85 : decode cX2_remove 85 = .ok (.iconst 1, 1) := by decide +kernel
theorem dX2_remove_86 : decode cX2_remove 86 = .ok (.if_icmp .le 7, 3) := by decide +kernel
theorem dX2_remove_89 : decode cX2_remove 89 = .ok (.iconst 1, 1) := by decide +kernel
theorem dX2_remove_90 : decode cX2_remove 90 = .ok (.goto 4, 3) := by decide +kernel
theorem dX2_remove_93 : decode cX2_remove 93 = .ok (.iconst 0, 1) := by decide +kernel
theorem dX2_remove_94 : decode cX2_remove 94 = .ok (.istore 4, 2) := by decide +kernel
theorem dX2_remove_96 : decode cX2_remove 96 = .ok (.iload 4, 2) := by decide +kernel
theorem dX2_remove_98 : decode cX2_remove 98 = .ok (.ifCond .eq 7, 3) := by decide +kernel
theorem dX2_remove_101 : decode cX2_remove 101 = .ok (.iconst 2, 1) := by decide +kernel
theorem dX2_remove_102 : decode cX2_remove 102 = .ok (.goto 4, 3) := by decide +kernel
theorem dX2_remove_105 : decode cX2_remove 105 = .ok (.iconst 1, 1) := by decide +kernel
theorem dX2_remove_106 : decode cX2_remove 106 = .ok (.iconst 0, 1) := by decide +kernel
theorem dX2_remove_107 : decode cX2_remove 107 = .ok (.invokestatic 69, 3) := by decide +kernel
theorem dX2_remove_110 : decode cX2_remove 110 = .ok (.istore 5, 2) := by decide +kernel
theorem dX2_remove_112 : decode cX2_remove 112 = .ok (.aload_n 0, 1) := by decide +kernel
theorem dX2_remove_113 : decode cX2_remove 113 = .ok (.iload 5, 2) := by decide +kernel
theorem dX2_remove_115 : decode cX2_remove 115 = .ok (.iload 4, 2) := by decide +kernel
theorem dX2_remove_117 : decode cX2_remove 117 = .ok (.ifCond .eq 7, 3) := by decide +kernel
theorem dX2_remove_120 : decode cX2_remove 120 = .ok (.iconst 0, 1) := by decide +kernel
theorem dX2_remove_121 : decode cX2_remove 121 = .ok (.goto 12, 3) := by decide +kernel
theorem dX2_remove_124 : decode cX2_remove 124 = .ok (.aload_n 0, 1) := by decide +kernel
theorem dX2_remove_125 : decode cX2_remove 125 = .ok (.getfield 25, 3) := by decide +kernel
theorem dX2_remove_128 : decode cX2_remove 128 = .ok (.iload_n 3, 1) := by decide +kernel
theorem dX2_remove_129 : decode cX2_remove 129 = .ok (.invokevirtual 86, 3) := by decide +kernel
theorem dX2_remove_132 : decode cX2_remove 132 = .ok (.ineg, 1) := by decide +kernel
theorem dX2_remove_133 : decode cX2_remove 133 = .ok (.invokevirtual 72, 3) := by decide +kernel
theorem dX2_remove_136 : decode cX2_remove 136 = .ok (.ifCond .ne 6, 3) := by decide +kernel
theorem dX2_remove_139 : decode cX2_remove 139 = .ok (.bipush (-6), 2) := by decide +kernel
theorem dX2_remove_141 : decode cX2_remove 141 = .ok (.ireturn, 1) := by decide +kernel
theorem dX2_remove_142 : decode cX2_remove 142 = .ok (.aload_n 0, 1) := by decide +kernel
theorem dX2_remove_143 : decode cX2_remove 143 = .ok (.iload 5, 2) := by decide +kernel
theorem dX2_remove_145 : decode cX2_remove 145 = .ok (.iconst 2, 1) := by decide +kernel
theorem dX2_remove_146 : decode cX2_remove 146 = .ok (.iload_n 1, 1) := by decide +kernel
theorem dX2_remove_147 : decode cX2_remove 147 = .ok (.iload_n 2, 1) := by decide +kernel
theorem dX2_remove_148 : decode cX2_remove 148 = .ok (.iconst 0, 1) := by decide +kernel
theorem dX2_remove_149 : decode cX2_remove 149 = .ok (.iconst 0, 1) := by decide +kernel
theorem dX2_remove_150 : decode cX2_remove 150 = .ok (.invokevirtual 76, 3) := by decide +kernel
theorem dX2_remove_153 : decode cX2_remove 153 = .ok (.iconst 0, 1) := by decide +kernel
theorem dX2_remove_154 : decode cX2_remove 154 = .ok (.ireturn, 1) := by decide +kernel
theorem dX2_rename_0 : decode cX2_rename 0 = .ok (.iload_n 1, 1) := by decide +kernel
theorem dX2_rename_1 : decode cX2_rename 1 = .ok (.invokestatic 49, 3) := by decide +kernel
theorem dX2_rename_4 : decode cX2_rename 4 = .ok (.ifCond .eq 25, 3) := by decide +kernel
theorem dX2_rename_7 : decode cX2_rename 7 = .ok (.iload_n 2, 1) := by decide +kernel
theorem dX2_rename_8 : decode cX2_rename 8 = .ok (.invokestatic 53, 3) := by decide +kernel
theorem dX2_rename_11 : decode cX2_rename 11 = .ok (.ifCond .eq 18, 3) := by decide +kernel
theorem dX2_rename_14 : decode cX2_rename 14 = .ok (.iload_n 3, 1) := by decide +kernel
theorem dX2_rename_15 : decode cX2_rename 15 = .ok (.invokestatic 49, 3) := by decide +kernel
theorem dX2_rename_18 : decode cX2_rename 18 = .ok (.ifCond .eq 11, 3) := by decide +kernel
theorem dX2_rename_21 : decode cX2_rename 21 = .ok (.iload 4, 2) := by decide +kernel
theorem dX2_rename_23 : decode cX2_rename 23 = .ok (.invokestatic 53, 3) := by decide +kernel
theorem dX2_rename_26 : decode cX2_rename 26 = .ok (.ifCond .ne 5, 3) := by decide +kernel
theorem dX2_rename_29 : decode cX2_rename 29 = .ok (.iconst (-1), 1) := by decide +kernel
theorem dX2_rename_30 : decode cX2_rename 30 = .ok (.ireturn, 1) := by decide +kernel
theorem dX2_rename_31 : decode cX2_rename 31 = .ok (.aload_n 0, 1) := by decide +kernel
theorem dX2_rename_32 : decode cX2_rename 32 = .ok (.getfield 25, 3) := by decide +kernel
theorem dX2_rename_35 : decode cX2_rename 35 = .ok (.iload_n 1, 1) := by decide +kernel
theorem dX2_rename_36 : decode cX2_rename 36 = .ok (.invokevirtual 56, 3) := by decide +kernel
theorem dX2_rename_39 : decode cX2_rename 39 = .ok (.ifCond .eq 26, 3) := by decide +kernel
theorem dX2_rename_42 : decode cX2_rename 42 = .ok (.aload_n 0, 1) := by decide +kernel
theorem dX2_rename_43 : decode cX2_rename 43 = .ok (.getfield 25, 3) := by decide +kernel
theorem dX2_rename_46 : decode cX2_rename 46 = .ok (.iload_n 3, 1) := by decide +kernel
theorem dX2_rename_47 : decode cX2_rename 47 = .ok (.invokevirtual 56, 3) := by decide +kernel
theorem dX2_rename_50 : decode cX2_rename 50 = .ok (.ifCond .eq 15, 3) := by decide +kernel
theorem dX2_rename_53 : decode cX2_rename 53 = .ok (.aload_n 0, 1) := by decide +kernel
theorem dX2_rename_54 : decode cX2_rename 54 = .ok (.getfield 25, 3) := by decide +kernel
theorem dX2_rename_57 : decode cX2_rename 57 = .ok (.iload_n 1, 1) := by decide +kernel
theorem dX2_rename_58 : decode cX2_rename 58 = .ok (.iload_n 2, 1) := by decide +kernel
theorem dX2_rename_59 : decode cX2_rename 59 = .ok (.invokevirtual 59, 3) := by decide +kernel
theorem dX2_rename_62 : decode cX2_rename 62 = .ok (.ifCond .ne 6, 3) := by decide +kernel
theorem dX2_rename_65 : decode cX2_rename 65 = .ok (.bipush (-2), 2) := by decide +kernel
theorem dX2_rename_67 : decode cX2_rename 67 = .ok (.ireturn, 1) := by decide +kernel
theorem dX2_rename_68 : decode cX2_rename 68 = .ok (.aload_n 0, 1) := by decide +kernel
theorem dX2_rename_69 : decode cX2_rename 69 = .ok (.getfield 25, 3) := by decide +kernel
theorem dX2_rename_72 : decode cX2_rename 72 = .ok (.iload_n 3, 1) := by decide +kernel
theorem dX2_rename_73 : decode cX2_rename 73 = .ok (.iload 4, 2) := by decide +kernel
theorem dX2_rename_75 : decode cX2_rename 75 = .ok (.invokevirtual 59, 3) := by decide +kernel
theorem dX2_rename_78 : decode cX2_rename 78 = .ok (.ifCond .eq 6, 3) := by decide +kernel
theorem dX2_rename_81 : decode cX2_rename 81 = .ok (.bipush (-3), 2) := by decide +kernel
theorem dX2_rename_83 : decode cX2_rename 83 = .ok (.ireturn, 1) := by decide +kernel
theorem dX2_rename_84 : decode cX2_rename 84 = .ok (.aload_n 0, 1) := by decide +kernel
theorem dX2_rename_85 : decode cX2_rename 85 = .ok (.getfield 25, 3) := by decide +kernel
theorem dX2_rename_88 : decode cX2_rename 88 = .ok (.iload_n 3, 1) := by decide +kernel
theorem dX2_rename_89 : decode cX2_rename 89 = .ok (.aload_n 0, 1) := by decide +kernel
theorem dX2_rename_90 : decode cX2_rename 90 = .ok (.getfield 25, 3) := by decide +kernel
theorem dX2_rename_93 : decode cX2_rename 93 = .ok (.iload_n 1, 1) := by decide +kernel
theorem dX2_rename_94 : decode cX2_rename 94 = .ok (.iload_n 2, 1) := by decide +kernel
theorem dX2_rename_95 : decode cX2_rename 95 = .ok (.invokevirtual 59, 3) := by decide +kernel
theorem dX2_rename_98 : decode cX2_rename 98 = .ok (.invokevirtual 89, 3) := by decide +kernel
theorem dX2_rename_101 : decode cX2_rename 101 = .ok (.ifCond .eq 5, 3) := by decide +kernel
theorem dX2_rename_104 : decode cX2_rename 104 = .ok (.iconst (-1), 1) := by decide +kernel
theorem dX2_rename_105 : decode cX2_rename 105 = .ok (.ireturn, 1) := by decide +kernel
theorem dX2_rename_106 : decode cX2_rename 106 = .ok (.iload_n 3, 1) := by decide +kernel
theorem dX2_rename_107 : decode cX2_rename 107 = .ok (.iload_n 1, 1) := by decide +kernel
theorem dX2_rename_108 : decode cX2_rename 108 = .ok (.if_icmp .eq 19, 3) := by decide +kernel
theorem dX2_rename_111 : decode cX2_rename 111 = .ok (.aload_n 0, 1) := by decide +kernel
theorem dX2_rename_112 : decode cX2_rename 112 = .ok (.getfield 25, 3) := by decide +kernel
theorem dX2_rename_115 : decode cX2_rename 115 = .ok (.iload_n 3, 1) := by decide +kernel
theorem dX2_rename_116 : decode cX2_rename 116 = .ok (.invokevirtual 65, 3) := by decide +kernel
theorem dX2_rename_119 : decode cX2_rename 119 = .ok (.bipush 8, 2) := by decide +kernel
theorem dX2_rename_121 : decode cX2_rename 121 = .ok (.if_icmp .lt 6, 3) := by decide +kernel
theorem dX2_rename_124 : decode cX2_rename 124 = .ok (.bipush (-5), 2) := by decide +kernel
theorem dX2_rename_126 : decode cX2_rename 126 = .ok (.ireturn, 1) := by decide +kernel
theorem dX2_rename_127 : decode cX2_rename 127 = .ok (.iload_n 3, 1) := by decide +kernel
theorem dX2_rename_128 : decode cX2_rename 128 = .ok (.iload_n 1, 1) := by decide +kernel
theorem dX2_rename_129 : decode cX2_rename 129 = .ok (.if_icmp .ne 7, 3) := by decide +kernel
theorem dX2_rename_132 : decode cX2_rename 132 = .ok (.iconst 1, 1) := by decide +kernel
theorem dX2_rename_133 : decode cX2_rename 133 = .ok (.goto 4, 3) := by decide +kernel
theorem dX2_rename_136 : decode cX2_rename 136 = .ok (.iconst 2, 1) := by decide +kernel
theorem dX2_rename_137 : decode cX2_rename 137 = .ok (.iconst 0, 1) := by decide +kernel
theorem dX2_rename_138 : decode cX2_rename 138 = .ok (.invokestatic 69, 3) := by decide +kernel
theorem dX2_rename_141 : decode cX2_rename 141 = .ok (.istore 5, 2) := by decide +kernel
theorem dX2_rename_143 : decode cX2_rename 143 = .ok (.aload_n 0, 1) := by decide +kernel
theorem dX2_rename_144 : decode cX2_rename 144 = .ok (.iload 5, 2) := by decide +kernel
theorem dX2_rename_146 : decode cX2_rename 146 = .ok (.iconst 0, 1) := by decide +kernel
theorem dX2_rename_147 : decode cX2_rename 147 = .ok (.invokevirtual 72, 3) := by decide +kernel
theorem dX2_rename_150 : decode cX2_rename 150 = .ok (.ifCond .ne 6, 3) := by decide +kernel
theorem dX2_rename_153 : decode cX2_rename 153 = .ok (.bipush (-6), 2) := by decide +kernel
theorem dX2_rename_155 : decode cX2_rename 155 = .ok (.ireturn, 1) := by decide +kernel
theorem dX2_rename_156 : decode cX2_rename 156 = .ok (.aload_n 0, 1) := by decide +kernel
theorem dX2_rename_157 : decode cX2_rename 157 = .ok (.iload 5, 2) := by decide +kernel
theorem dX2_rename_159 : decode cX2_rename 159 = .ok (.iconst 3, 1) := by decide +kernel
theorem dX2_rename_160 : decode cX2_rename 160 = .ok (.iload_n 1, 1) := by decide +kernel
theorem dX2_rename_161 : decode cX2_rename 161 = .ok (.iload_n 2, 1) := by decide +kernel
theorem dX2_rename_162 : decode cX2_rename 162 = .ok (.iload_n 3, 1) := by decide +kernel
theorem dX2_rename_163 : decode cX2_rename 163 = .ok (.iload 4, 2) := by decide +kernel
theorem dX2_rename_165 : decode cX2_rename 165 = .ok (.invokevirtual 76, 3) := by decide +kernel
theorem dX2_rename_168 : decode cX2_rename 168 = .ok (.iconst 0, 1) := by decide +kernel
theorem dX2_rename_169 : decode cX2_rename 169 = .ok (.ireturn, 1) := by decide +kernel
theorem dX2_write_0 : decode cX2_write 0 = .ok (.iload_n 1, 1) := by decide +kernel
theorem dX2_write_1 : decode cX2_write 1 = .ok (.invokestatic 49, 3) := by decide +kernel
theorem dX2_write_4 : decode cX2_write 4 = .ok (.ifCond .eq 13, 3) := by decide +kernel
theorem dX2_write_7 : decode cX2_write 7 = .ok (.iload_n 2, 1) := by decide +kernel
theorem dX2_write_8 : decode cX2_write 8 = .ok (.ifCond .lt 9, 3) := by decide +kernel
theorem dX2_write_11 : decode cX2_write 11 = .ok (.iload_n 2, 1) := by decide +kernel
theorem dX2_write_12 : decode cX2_write 12 = .ok (.bipush 8, 2) := by decide +kernel
theorem dX2_write_14 : decode cX2_write 14 = .ok (.if_icmp .lt 5, 3) := by decide +kernel
theorem dX2_write_17 : decode cX2_write 17 = .ok (.iconst (-1), 1) := by decide +kernel
theorem dX2_write_18 : decode cX2_write 18 = .ok (.ireturn, 1) := by decide +kernel
theorem dX2_write_19 : decode cX2_write 19 = .ok (.aload_n 0, 1) := by decide +kernel
theorem dX2_write_20 : decode cX2_write 20 = .ok (.getfield 25, 3) := by decide +kernel
theorem dX2_write_23 : decode cX2_write 23 = .ok (.iload_n 1, 1) := by decide +kernel
theorem dX2_write_24 : decode cX2_write 24 = .ok (.invokevirtual 80, 3) := by decide +kernel
theorem dX2_write_27 : decode cX2_write 27 = .ok (.ifCond .ne 6, 3) := by decide +kernel
theorem dX2_write_30 : decode cX2_write 30 = .ok (.bipush (-2), 2) := by decide +kernel
theorem dX2_write_32 : decode cX2_write 32 = .ok (.ireturn, 1) := by decide +kernel
theorem dX2_write_33 : decode cX2_write 33 = .ok (.iload_n 2, 1) := by decide +kernel
theorem dX2_write_34 : decode cX2_write 34 = .ok (.aload_n 0, 1) := by decide +kernel
theorem dX2_write_35 : decode cX2_write 35 = .ok (.getfield 25, 3) := by decide +kernel
theorem dX2_write_38 : decode cX2_write 38 = .ok (.iload_n 1, 1) := by decide +kernel
theorem dX2_write_39 : decode cX2_write 39 = .ok (.invokevirtual 65, 3) := by decide +kernel
theorem dX2_write_42 : decode cX2_write 42 = .ok (.if_icmp .le 5, 3) := by decide +kernel
theorem dX2_write_45 : decode cX2_write 45 = .ok (.iconst (-1), 1) := by decide +kernel
theorem dX2_write_46 : decode cX2_write 46 = .ok (.ireturn, 1) := by decide +kernel
theorem dX2_write_47 : decode cX2_write 47 = .ok (.iconst 1, 1) := by decide +kernel
theorem dX2_write_48 : decode cX2_write 48 = .ok (.iconst 1, 1) := by decide +kernel
theorem dX2_write_49 : decode cX2_write 49 = .ok (.invokestatic 69, 3) := by decide +kernel
theorem dX2_write_52 : decode cX2_write 52 = .ok (.istore 4, 2) := by decide +kernel
theorem dX2_write_54 : decode cX2_write 54 = .ok (.aload_n 0, 1) := by decide +kernel
theorem dX2_write_55 : decode cX2_write 55 = .ok (.iload 4, 2) := by decide +kernel
theorem dX2_write_57 : decode cX2_write 57 = .ok (.iload_n 2, 1) := by decide +kernel
theorem dX2_write_58 : decode cX2_write 58 = .ok (.aload_n 0, 1) := by decide +kernel
theorem dX2_write_59 : decode cX2_write 59 = .ok (.getfield 25, 3) := by decide +kernel
theorem dX2_write_62 : decode cX2_write 62 = .ok (.iload_n 1, 1) := by decide +kernel
theorem dX2_write_63 : decode cX2_write 63 = .ok (.invokevirtual 65, 3) := by decide +kernel
theorem dX2_write_66 : decode cX2_write 66 = .ok (.if_icmp .ne 7, 3) := by decide +kernel
theorem dX2_write_69 : decode cX2_write 69 = .ok (.iconst 1, 1) := by decide +kernel
theorem dX2_write_70 : decode cX2_write 70 = .ok (.goto 4, 3) := by decide +kernel
theorem dX2_write_73 : decode cX2_write 73 = .ok (.iconst 0, 1) := by decide +kernel
theorem dX2_write_74 : decode cX2_write 74 = .ok (.invokevirtual 72, 3) := by decide +kernel
theorem dX2_write_77 : decode cX2_write 77 = .ok (.ifCond .ne 6, 3) := by decide +kernel
theorem dX2_write_80 : decode cX2_write 80 = .ok (.bipush (-6), 2) := by decide +kernel
theorem dX2_write_82 : decode cX2_write 82 = .ok (.ireturn, 1) := by decide +kernel
theorem dX2_write_83 : decode cX2_write 83 = .ok (.aload_n 0, 1) := by decide +kernel
theorem dX2_write_84 : decode cX2_write 84 = .ok (.iload 4, 2) := by decide +kernel
theorem dX2_write_86 : decode cX2_write 86 = .ok (.iconst 4, 1) := by decide +kernel
theorem dX2_write_87 : decode cX2_write 87 = .ok (.iload_n 1, 1) := by decide +kernel
theorem dX2_write_88 : decode cX2_write 88 = .ok (.iload_n 2, 1) := by decide +kernel
theorem dX2_write_89 : decode cX2_write 89 = .ok (.iload_n 3, 1) := by decide +kernel
theorem dX2_write_90 : decode cX2_write 90 = .ok (.iconst 0, 1) := by decide +kernel
theorem dX2_write_91 : decode cX2_write 91 = .ok (.invokevirtual 76, 3) := by decide +kernel
theorem dX2_write_94 : decode cX2_write 94 = .ok (.iconst 0, 1) := by decide +kernel
theorem dX2_write_95 : decode cX2_write 95 = .ok (.ireturn, 1) := by decide +kernel
theorem dX2_cut_0 : decode cX2_cut 0 = .ok (.iload_n 1, 1) := by decide +kernel
theorem dX2_cut_1 : decode cX2_cut 1 = .ok (.invokestatic 49, 3) := by decide +kernel
theorem dX2_cut_4 : decode cX2_cut 4 = .ok (.ifCond .eq 13, 3) := by decide +kernel
theorem dX2_cut_7 : decode cX2_cut 7 = .ok (.iload_n 2, 1) := by decide +kernel
theorem dX2_cut_8 : decode cX2_cut 8 = .ok (.ifCond .lt 9, 3) := by decide +kernel
theorem dX2_cut_11 : decode cX2_cut 11 = .ok (.iload_n 2, 1) := by decide +kernel
theorem dX2_cut_12 : decode cX2_cut 12 = .ok (.bipush 8, 2) := by decide +kernel
theorem dX2_cut_14 : decode cX2_cut 14 = .ok (.if_icmp .le 5, 3) := by decide +kernel
theorem dX2_cut_17 : decode cX2_cut 17 = .ok (.iconst (-1), 1) := by decide +kernel
theorem dX2_cut_18 : decode cX2_cut 18 = .ok (.ireturn, 1) := by decide +kernel
theorem dX2_cut_19 : decode cX2_cut 19 = .ok (.aload_n 0, 1) := by decide +kernel
theorem dX2_cut_20 : decode cX2_cut 20 = .ok (.getfield 25, 3) := by decide +kernel
theorem dX2_cut_23 : decode cX2_cut 23 = .ok (.iload_n 1, 1) := by decide +kernel
theorem dX2_cut_24 : decode cX2_cut 24 = .ok (.invokevirtual 80, 3) := by decide +kernel
theorem dX2_cut_27 : decode cX2_cut 27 = .ok (.ifCond .ne 6, 3) := by decide +kernel
theorem dX2_cut_30 : decode cX2_cut 30 = .ok (.bipush (-2), 2) := by decide +kernel
theorem dX2_cut_32 : decode cX2_cut 32 = .ok (.ireturn, 1) := by decide +kernel
theorem dX2_cut_33 : decode cX2_cut 33 = .ok (.iload_n 2, 1) := by decide +kernel
theorem dX2_cut_34 : decode cX2_cut 34 = .ok (.aload_n 0, 1) := by decide +kernel
theorem dX2_cut_35 : decode cX2_cut 35 = .ok (.getfield 25, 3) := by decide +kernel
theorem dX2_cut_38 : decode cX2_cut 38 = .ok (.iload_n 1, 1) := by decide +kernel
theorem dX2_cut_39 : decode cX2_cut 39 = .ok (.invokevirtual 65, 3) := by decide +kernel
theorem dX2_cut_42 : decode cX2_cut 42 = .ok (.if_icmp .le 5, 3) := by decide +kernel
theorem dX2_cut_45 : decode cX2_cut 45 = .ok (.iconst (-1), 1) := by decide +kernel
theorem dX2_cut_46 : decode cX2_cut 46 = .ok (.ireturn, 1) := by decide +kernel
theorem dX2_cut_47 : decode cX2_cut 47 = .ok (.iconst 1, 1) := by decide +kernel
theorem dX2_cut_48 : decode cX2_cut 48 = .ok (.iconst 0, 1) := by decide +kernel
theorem dX2_cut_49 : decode cX2_cut 49 = .ok (.invokestatic 69, 3) := by decide +kernel
theorem dX2_cut_52 : decode cX2_cut 52 = .ok (.istore_n 3, 1) := by decide +kernel
theorem dX2_cut_53 : decode cX2_cut 53 = .ok (.aload_n 0, 1) := by decide +kernel
theorem dX2_cut_54 : decode cX2_cut 54 = .ok (.iload_n 3, 1) := by decide +kernel
theorem dX2_cut_55 : decode cX2_cut 55 = .ok (.iload_n 2, 1) := by decide +kernel
theorem dX2_cut_56 : decode cX2_cut 56 = .ok (.aload_n 0, 1) := by decide +kernel
theorem dX2_cut_57 : decode cX2_cut 57 = .ok (.getfield 25, 3) := by decide +kernel
theorem dX2_cut_60 : decode cX2_cut 60 = .ok (.iload_n 1, 1) := by decide +kernel
theorem dX2_cut_61 : decode cX2_cut 61 = .ok (.invokevirtual 65, 3) := by decide +kernel
theorem dX2_cut_64 : decode cX2_cut 64 = .ok (.isub, 1) := by decide +kernel
theorem dX2_cut_65 : decode cX2_cut 65 = .ok (.invokevirtual 72, 3) := by decide +kernel
theorem dX2_cut_68 : decode cX2_cut 68 = .ok (.ifCond .ne 6, 3) := by decide +kernel
theorem dX2_cut_71 : decode cX2_cut 71 = .ok (.bipush (-6), 2) := by decide +kernel
theorem dX2_cut_73 : decode cX2_cut 73 = .ok (.ireturn, 1) := by decide +kernel
theorem dX2_cut_74 : decode cX2_cut 74 = .ok (.aload_n 0, 1) := by decide +kernel
theorem dX2_cut_75 : decode cX2_cut 75 = .ok (.iload_n 3, 1) := by decide +kernel
theorem dX2_cut_76 : decode cX2_cut 76 = .ok (.iconst 5, 1) := by decide +kernel
theorem dX2_cut_77 : decode cX2_cut 77 = .ok (.iload_n 1, 1) := by decide +kernel
theorem dX2_cut_78 : decode cX2_cut 78 = .ok (.iload_n 2, 1) := by decide +kernel
theorem dX2_cut_79 : decode cX2_cut 79 = .ok (.iconst 0, 1) := by decide +kernel
theorem dX2_cut_80 : decode cX2_cut 80 = .ok (.iconst 0, 1) := by decide +kernel
theorem dX2_cut_81 : decode cX2_cut 81 = .ok (.invokevirtual 76, 3) := by decide +kernel
theorem dX2_cut_84 : decode cX2_cut 84 = .ok (.iconst 0, 1) := by decide +kernel
theorem dX2_cut_85 : decode cX2_cut 85 = .ok (.ireturn, 1) := by decide +kernel
theorem dX2_sync_0 : decode cX2_sync 0 = .ok (.aload_n 0, 1) := by decide +kernel
theorem dX2_sync_1 : decode cX2_sync 1 = .ok (.invokevirtual 92, 3) := by decide +kernel
theorem dX2_sync_4 : decode cX2_sync 4 = .ok (.aload_n 0, 1) := by decide +kernel
theorem dX2_sync_5 : decode cX2_sync 5 = .ok (.getfield 43, 3) := by decide +kernel
theorem dX2_sync_8 : decode cX2_sync 8 = .ok (.ireturn, 1) := by decide +kernel
theorem dX2_crash_0 : decode cX2_crash 0 = .ok (.iconst 0, 1) := by decide +kernel
theorem dX2_crash_1 : decode cX2_crash 1 = .ok (.iload_n 1, 1) := by decide +kernel
theorem dX2_crash_2 : decode cX2_crash 2 = .ok (.aload_n 0, 1) := by decide +kernel
theorem dX2_crash_3 : decode cX2_crash 3 = .ok (.getfield 35, 3) := by decide +kernel
theorem dX2_crash_6 : decode cX2_crash 6 = .ok (.invokevirtual 95, 3) := by decide +kernel
theorem dX2_crash_9 : decode cX2_crash 9 = .ok (.invokestatic 9, 3) := by decide +kernel
theorem dX2_crash_12 : decode cX2_crash 12 = .ok (.invokestatic 15, 3) := by decide +kernel
theorem dX2_crash_15 : decode cX2_crash 15 = .ok (.istore_n 2, 1) := by decide +kernel
theorem dX2_crash_16 : decode cX2_crash 16 = .ok (.iconst 0, 1) := by decide +kernel
theorem dX2_crash_17 : decode cX2_crash 17 = .ok (.istore_n 3, 1) := by decide +kernel
theorem dX2_crash_18 : decode cX2_crash 18 = .ok (.iload_n 3, 1) := by decide +kernel
theorem dX2_crash_19 : decode cX2_crash 19 = .ok (.iload_n 2, 1) := by decide +kernel
theorem dX2_crash_20 : decode cX2_crash 20 = .ok (.if_icmp .ge 21, 3) := by decide +kernel
theorem dX2_crash_23 : decode cX2_crash 23 = .ok (.aload_n 0, 1) := by decide +kernel
theorem dX2_crash_24 : decode cX2_crash 24 = .ok (.getfield 35, 3) := by decide +kernel
theorem dX2_crash_27 : decode cX2_crash 27 = .ok (.iload_n 3, 1) := by decide +kernel
theorem dX2_crash_28 : decode cX2_crash 28 = .ok (.aload_n 0, 1) := by decide +kernel
theorem dX2_crash_29 : decode cX2_crash 29 = .ok (.getfield 29, 3) := by decide +kernel
theorem dX2_crash_32 : decode cX2_crash 32 = .ok (.invokevirtual 98, 3) := by decide +kernel
theorem dX2_crash_35 : decode cX2_crash 35 = .ok (.iinc 3 1, 3) := by decide +kernel
theorem dX2_crash_38 : decode cX2_crash 38 = .ok (.goto (-20), 3) := by decide +kernel
theorem dX2_crash_41 : decode cX2_crash 41 = .ok (.aload_n 0, 1) := by decide +kernel
theorem dX2_crash_42 : decode cX2_crash 42 = .ok (.getfield 25, 3) := by decide +kernel
theorem dX2_crash_45 : decode cX2_crash 45 = .ok (.aload_n 0, 1) := by decide +kernel
theorem dX2_crash_46 : decode cX2_crash 46 = .ok (.getfield 29, 3) := by decide +kernel
theorem dX2_crash_49 : decode cX2_crash 49 = .ok (.invokevirtual 102, 3) := by decide +kernel
theorem dX2_crash_52 : decode cX2_crash 52 = .ok (.aload_n 0, 1) := by decide +kernel
theorem dX2_crash_53 : decode cX2_crash 53 = .ok (.invokevirtual 106, 3) := by decide +kernel
theorem dX2_crash_56 : decode cX2_crash 56 = .ok (.iload_n 2, 1) := by decide +kernel
theorem dX2_crash_57 : decode cX2_crash 57 = .ok (.ireturn, 1) := by decide +kernel
theorem dX2_find_0 : decode cX2_find 0 = .ok (.iload_n 1, 1) := by decide +kernel
theorem dX2_find_1 : decode cX2_find 1 = .ok (.invokestatic 49, 3) := by decide +kernel
theorem dX2_find_4 : decode cX2_find 4 = .ok (.ifCond .eq 10, 3) := by decide +kernel
theorem dX2_find_7 : decode cX2_find 7 = .ok (.iload_n 2, 1) := by decide +kernel
theorem dX2_find_8 : decode cX2_find 8 = .ok (.invokestatic 53, 3) := by decide +kernel
theorem dX2_find_11 : decode cX2_find 11 = .ok (.ifCond .ne 5, 3) := by decide +kernel
theorem dX2_find_14 : decode cX2_find 14 = .ok (.iconst (-1), 1) := by decide +kernel
theorem dX2_find_15 : decode cX2_find 15 = .ok (.ireturn, 1) := by decide +kernel
theorem dX2_find_16 : decode cX2_find 16 = .ok (.aload_n 0, 1) := by decide +kernel
theorem dX2_find_17 : decode cX2_find 17 = .ok (.getfield 25, 3) := by decide +kernel
theorem dX2_find_20 : decode cX2_find 20 = .ok (.iload_n 1, 1) := by decide +kernel
theorem dX2_find_21 : decode cX2_find 21 = .ok (.invokevirtual 56, 3) := by decide +kernel
theorem dX2_find_24 : decode cX2_find 24 = .ok (.ifCond .eq 15, 3) := by decide +kernel
theorem dX2_find_27 : decode cX2_find 27 = .ok (.aload_n 0, 1) := by decide +kernel
theorem dX2_find_28 : decode cX2_find 28 = .ok (.getfield 25, 3) := by decide +kernel
theorem dX2_find_31 : decode cX2_find 31 = .ok (.iload_n 1, 1) := by decide +kernel
theorem dX2_find_32 : decode cX2_find 32 = .ok (.iload_n 2, 1) := by decide +kernel
theorem dX2_find_33 : decode cX2_find 33 = .ok (.invokevirtual 59, 3) := by decide +kernel
theorem dX2_find_36 : decode cX2_find 36 = .ok (.ifCond .ne 6, 3) := by decide +kernel
theorem dX2_find_39 : decode cX2_find 39 = .ok (.bipush (-2), 2) := by decide +kernel
theorem dX2_find_41 : decode cX2_find 41 = .ok (.ireturn, 1) := by decide +kernel
theorem dX2_find_42 : decode cX2_find 42 = .ok (.aload_n 0, 1) := by decide +kernel
theorem dX2_find_43 : decode cX2_find 43 = .ok (.getfield 25, 3) := by decide +kernel
theorem dX2_find_46 : decode cX2_find 46 = .ok (.iload_n 1, 1) := by decide +kernel
theorem dX2_find_47 : decode cX2_find 47 = .ok (.iload_n 2, 1) := by decide +kernel
theorem dX2_find_48 : decode cX2_find 48 = .ok (.invokevirtual 59, 3) := by decide +kernel
theorem dX2_find_51 : decode cX2_find 51 = .ok (.ireturn, 1) := by decide +kernel
theorem dX2_entry_0 : decode cX2_entry 0 = .ok (.iload_n 1, 1) := by decide +kernel
theorem dX2_entry_1 : decode cX2_entry 1 = .ok (.invokestatic 49, 3) := by decide +kernel
theorem dX2_entry_4 : decode cX2_entry 4 = .ok (.ifCond .ne 5, 3) := by decide +kernel
theorem dX2_entry_7 : decode cX2_entry 7 = .ok (.iconst (-1), 1) := by decide +kernel
theorem dX2_entry_8 : decode cX2_entry 8 = .ok (.ireturn, 1) := by decide +kernel
theorem dX2_entry_9 : decode cX2_entry 9 = .ok (.aload_n 0, 1) := by decide +kernel
theorem dX2_entry_10 : decode cX2_entry 10 = .ok (.getfield 25, 3) := by decide +kernel
theorem dX2_entry_13 : decode cX2_entry 13 = .ok (.iload_n 1, 1) := by decide +kernel
theorem dX2_entry_14 : decode cX2_entry 14 = .ok (.invokevirtual 56, 3) := by decide +kernel
theorem dX2_entry_17 : decode cX2_entry 17 = .ok (.ifCond .ne 6, 3) := by decide +kernel
theorem dX2_entry_20 : decode cX2_entry 20 = .ok (.bipush (-2), 2) := by decide +kernel
theorem dX2_entry_22 : decode cX2_entry 22 = .ok (.ireturn, 1) := by decide +kernel
theorem dX2_entry_23 : decode cX2_entry 23 = .ok (.aload_n 0, 1) := by decide +kernel
theorem dX2_entry_24 : decode cX2_entry 24 = .ok (.getfield 25, 3) := by decide +kernel
theorem dX2_entry_27 : decode cX2_entry 27 = .ok (.iload_n 1, 1) := by decide +kernel
theorem dX2_entry_28 : decode cX2_entry 28 = .ok (.iload_n 2, 1) := by decide +kernel
theorem dX2_entry_29 : decode cX2_entry 29 = .ok (.invokevirtual 109, 3) := by decide +kernel
theorem dX2_entry_32 : decode cX2_entry 32 = .ok (.ireturn, 1) := by decide +kernel
theorem dX2_read_0 : decode cX2_read 0 = .ok (.iload_n 1, 1) := by decide +kernel
theorem dX2_read_1 : decode cX2_read 1 = .ok (.invokestatic 49, 3) := by decide +kernel
theorem dX2_read_4 : decode cX2_read 4 = .ok (.ifCond .eq 14, 3) := by decide +kernel
theorem dX2_read_7 : decode cX2_read 7 = .ok (.aload_n 0, 1) := by decide +kernel
theorem dX2_read_8 : decode cX2_read 8 = .ok (.getfield 25, 3) := by decide +kernel
theorem dX2_read_11 : decode cX2_read 11 = .ok (.iload_n 1, 1) := by decide +kernel
theorem dX2_read_12 : decode cX2_read 12 = .ok (.invokevirtual 80, 3) := by decide +kernel
theorem dX2_read_15 : decode cX2_read 15 = .ok (.ifCond .ne 7, 3) := by decide +kernel
theorem dX2_read_18 : decode cX2_read 18 = .ok (.ldc2_w 112, 3) := by decide +kernel
theorem dX2_read_21 : decode cX2_read 21 = .ok (.lreturn, 1) := by decide +kernel
theorem dX2_read_22 : decode cX2_read 22 = .ok (.iload_n 2, 1) := by decide +kernel
theorem dX2_read_23 : decode cX2_read 23 = .ok (.ifCond .lt 15, 3) := by decide +kernel
theorem dX2_read_26 : decode cX2_read 26 = .ok (.iload_n 2, 1) := by decide +kernel
theorem dX2_read_27 : decode cX2_read 27 = .ok (.aload_n 0, 1) := by decide +kernel
theorem dX2_read_28 : decode cX2_read 28 = .ok (.getfield 25, 3) := by decide +kernel
theorem dX2_read_31 : decode cX2_read 31 = .ok (.iload_n 1, 1) := by decide +kernel
theorem dX2_read_32 : decode cX2_read 32 = .ok (.invokevirtual 65, 3) := by decide +kernel
theorem dX2_read_35 : decode cX2_read 35 = .ok (.if_icmp .lt 7, 3) := by decide +kernel
theorem dX2_read_38 : decode cX2_read 38 = .ok (.ldc2_w 112, 3) := by decide +kernel
theorem dX2_read_41 : decode cX2_read 41 = .ok (.lreturn, 1) := by decide +kernel
theorem dX2_read_42 : decode cX2_read 42 = .ok (.aload_n 0, 1) := by decide +kernel
theorem dX2_read_43 : decode cX2_read 43 = .ok (.getfield 25, 3) := by decide +kernel
theorem dX2_read_46 : decode cX2_read 46 = .ok (.iload_n 1, 1) := by decide +kernel
theorem dX2_read_47 : decode cX2_read 47 = .ok (.iload_n 2, 1) := by decide +kernel
theorem dX2_read_48 : decode cX2_read 48 = .ok (.invokevirtual 114, 3) := by decide +kernel
theorem dX2_read_51 : decode cX2_read 51 = .ok (.i2l, 1) := by decide +kernel
theorem dX2_read_52 : decode cX2_read 52 = .ok (.lreturn, 1) := by decide +kernel
theorem dX2_tell_0 : decode cX2_tell 0 = .ok (.iload_n 1, 1) := by decide +kernel
theorem dX2_tell_1 : decode cX2_tell 1 = .ok (.invokestatic 49, 3) := by decide +kernel
theorem dX2_tell_4 : decode cX2_tell 4 = .ok (.ifCond .eq 12, 3) := by decide +kernel
theorem dX2_tell_7 : decode cX2_tell 7 = .ok (.iload_n 2, 1) := by decide +kernel
theorem dX2_tell_8 : decode cX2_tell 8 = .ok (.ifCond .lt 8, 3) := by decide +kernel
theorem dX2_tell_11 : decode cX2_tell 11 = .ok (.iload_n 2, 1) := by decide +kernel
theorem dX2_tell_12 : decode cX2_tell 12 = .ok (.iconst 2, 1) := by decide +kernel
theorem dX2_tell_13 : decode cX2_tell 13 = .ok (.if_icmp .le 5, 3) := by decide +kernel
theorem dX2_tell_16 : decode cX2_tell 16 = .ok (.iconst (-1), 1) := by decide +kernel
theorem dX2_tell_17 : decode cX2_tell 17 = .ok (.ireturn, 1) := by decide +kernel
theorem dX2_tell_18 : decode cX2_tell 18 = .ok (.iload_n 2, 1) := by decide +kernel
theorem dX2_tell_19 : decode cX2_tell 19 = .ok (.ifCond .ne 12, 3) := by decide +kernel
theorem dX2_tell_22 : decode cX2_tell 22 = .ok (.aload_n 0, 1) := by decide +kernel
theorem dX2_tell_23 : decode cX2_tell 23 = .ok (.getfield 25, 3) := by decide +kernel
theorem dX2_tell_26 : decode cX2_tell 26 = .ok (.iload_n 1, 1) := by decide +kernel
theorem dX2_tell_27 : decode cX2_tell 27 = .ok (.invokevirtual 117, 3) := by decide +kernel
theorem dX2_tell_30 : decode cX2_tell 30 = .ok (.ireturn, 1) := by decide +kernel
theorem dX2_tell_31 : decode cX2_tell 31 = .ok (.aload_n 0, 1) := by decide +kernel
theorem dX2_tell_32 : decode cX2_tell 32 = .ok (.getfield 25, 3) := by decide +kernel
theorem dX2_tell_35 : decode cX2_tell 35 = .ok (.iload_n 1, 1) := by decide +kernel
theorem dX2_tell_36 : decode cX2_tell 36 = .ok (.invokevirtual 117, 3) := by decide +kernel
theorem dX2_tell_39 : decode cX2_tell 39 = .ok (.ifCond .ne 6, 3) := by decide +kernel
theorem dX2_tell_42 : decode cX2_tell 42 = .ok (.bipush (-2), 2) := by decide +kernel
theorem dX2_tell_44 : decode cX2_tell 44 = .ok (.ireturn, 1) := by decide +kernel
theorem dX2_tell_45 : decode cX2_tell 45 = .ok (.iload_n 2, 1) := by decide +kernel
theorem dX2_tell_46 : decode cX2_tell 46 = .ok (.iconst 1, 1) := by decide +kernel
theorem dX2_tell_47 : decode cX2_tell 47 = .ok (.if_icmp .ne 14, 3) := by decide +kernel
theorem dX2_tell_50 : decode cX2_tell 50 = .ok (.aload_n 0, 1) := by decide +kernel
theorem dX2_tell_51 : decode cX2_tell 51 = .ok (.getfield 25, 3) := by decide +kernel
theorem dX2_tell_54 : decode cX2_tell 54 = .ok (.iload_n 1, 1) := by decide +kernel
theorem dX2_tell_55 : decode cX2_tell 55 = .ok (.invokevirtual 65, 3) := by decide +kernel
theorem dX2_tell_58 : decode cX2_tell 58 = .ok (.goto 11, 3) := by decide +kernel
theorem dX2_tell_61 : decode cX2_tell 61 = .ok (.aload_n 0, 1) := by decide +kernel
theorem dX2_tell_62 : decode cX2_tell 62 = .ok (.getfield 25, 3) := by decide +kernel
theorem dX2_tell_65 : decode cX2_tell 65 = .ok (.iload_n 1, 1) := by decide +kernel
theorem dX2_tell_66 : decode cX2_tell 66 = .ok (.invokevirtual 83, 3) := by decide +kernel
theorem dX2_tell_69 : decode cX2_tell 69 = .ok (.ireturn, 1) := by decide +kernel
theorem dX2_count_0 : decode cX2_count 0 = .ok (.iload_n 1, 1) := by decide +kernel
theorem dX2_count_1 : decode cX2_count 1 = .ok (.tableswitch 78 0 5 #[39, 47, 52, 60, 65, 73], 39) := by decide +kernel
theorem dX2_count_40 : decode cX2_count 40 = .ok (.aload_n 0, 1) := by decide +kernel
theorem dX2_count_41 : decode cX2_count 41 = .ok (.getfield 25, 3) := by decide +kernel
theorem dX2_count_44 : decode cX2_count 44 = .ok (.invokevirtual 39, 3) := by decide +kernel
theorem dX2_count_47 : decode cX2_count 47 = .ok (.ireturn, 1) := by decide +kernel
theorem dX2_count_48 : decode cX2_count 48 = .ok (.aload_n 0, 1) := by decide +kernel
theorem dX2_count_49 : decode cX2_count 49 = .ok (.getfield 43, 3) := by decide +kernel
theorem dX2_count_52 : decode cX2_count 52 = .ok (.ireturn, 1) := by decide +kernel
theorem dX2_count_53 : decode cX2_count 53 = .ok (.aload_n 0, 1) := by decide +kernel
theorem dX2_count_54 : decode cX2_count 54 = .ok (.getfield 35, 3) := by decide +kernel
theorem dX2_count_57 : decode cX2_count 57 = .ok (.invokevirtual 95, 3) := by decide +kernel
theorem dX2_count_60 : decode cX2_count 60 = .ok (.ireturn, 1) := by decide +kernel
theorem dX2_count_61 : decode cX2_count 61 = .ok (.aload_n 0, 1) := by decide +kernel
theorem dX2_count_62 : decode cX2_count 62 = .ok (.getfield 46, 3) := by decide +kernel
theorem dX2_count_65 : decode cX2_count 65 = .ok (.ireturn, 1) := by decide +kernel
theorem dX2_count_66 : decode cX2_count 66 = .ok (.aload_n 0, 1) := by decide +kernel
theorem dX2_count_67 : decode cX2_count 67 = .ok (.getfield 25, 3) := by decide +kernel
theorem dX2_count_70 : decode cX2_count 70 = .ok (.invokevirtual 120, 3) := by decide +kernel
theorem dX2_count_73 : decode cX2_count 73 = .ok (.ireturn, 1) := by decide +kernel
theorem dX2_count_74 : decode cX2_count 74 = .ok (.aload_n 0, 1) := by decide +kernel
theorem dX2_count_75 : decode cX2_count 75 = .ok (.getfield 18, 3) := by decide +kernel
theorem dX2_count_78 : decode cX2_count 78 = .ok (.ireturn, 1) := by decide +kernel
theorem dX2_count_79 : decode cX2_count 79 = .ok (.iconst (-1), 1) := by decide +kernel
theorem dX2_count_80 : decode cX2_count 80 = .ok (.ireturn, 1) := by decide +kernel
theorem dX2_isNode_0 : decode cX2_isNode 0 = .ok (.iload_n 0, 1) := by decide +kernel
theorem dX2_isNode_1 : decode cX2_isNode 1 = .ok (.ifCond .lt 13, 3) := by decide +kernel
theorem dX2_isNode_4 : decode cX2_isNode 4 = .ok (.iload_n 0, 1) := by decide +kernel
theorem dX2_isNode_5 : decode cX2_isNode 5 = .ok (.bipush 16, 2) := by decide +kernel
theorem dX2_isNode_7 : decode cX2_isNode 7 = .ok (.if_icmp .ge 7, 3) := by decide +kernel
theorem dX2_isNode_10 : decode cX2_isNode 10 = .ok (.iconst 1, 1) := by decide +kernel
theorem dX2_isNode_11 : decode cX2_isNode 11 = .ok (.goto 4, 3) := by decide +kernel
theorem dX2_isNode_14 : decode cX2_isNode 14 = .ok (.iconst 0, 1) := by decide +kernel
theorem dX2_isNode_15 : decode cX2_isNode 15 = .ok (.ireturn, 1) := by decide +kernel
theorem dX2_isName_0 : decode cX2_isName 0 = .ok (.iload_n 0, 1) := by decide +kernel
theorem dX2_isName_1 : decode cX2_isName 1 = .ok (.ifCond .lt 13, 3) := by decide +kernel
theorem dX2_isName_4 : decode cX2_isName 4 = .ok (.iload_n 0, 1) := by decide +kernel
theorem dX2_isName_5 : decode cX2_isName 5 = .ok (.bipush 32, 2) := by decide +kernel
theorem dX2_isName_7 : decode cX2_isName 7 = .ok (.if_icmp .ge 7, 3) := by decide +kernel
theorem dX2_isName_10 : decode cX2_isName 10 = .ok (.iconst 1, 1) := by decide +kernel
theorem dX2_isName_11 : decode cX2_isName 11 = .ok (.goto 4, 3) := by decide +kernel
theorem dX2_isName_14 : decode cX2_isName 14 = .ok (.iconst 0, 1) := by decide +kernel
theorem dX2_isName_15 : decode cX2_isName 15 = .ok (.ireturn, 1) := by decide +kernel
theorem dX2_costOf_0 : decode cX2_costOf 0 = .ok (.iconst 1, 1) := by decide +kernel
theorem dX2_costOf_1 : decode cX2_costOf 1 = .ok (.iload_n 0, 1) := by decide +kernel
theorem dX2_costOf_2 : decode cX2_costOf 2 = .ok (.iadd, 1) := by decide +kernel
theorem dX2_costOf_3 : decode cX2_costOf 3 = .ok (.iload_n 1, 1) := by decide +kernel
theorem dX2_costOf_4 : decode cX2_costOf 4 = .ok (.iadd, 1) := by decide +kernel
theorem dX2_costOf_5 : decode cX2_costOf 5 = .ok (.ireturn, 1) := by decide +kernel
theorem dX2_makesRoom_0 : decode cX2_makesRoom 0 = .ok (.aload_n 0, 1) := by decide +kernel
theorem dX2_makesRoom_1 : decode cX2_makesRoom 1 = .ok (.getfield 43, 3) := by decide +kernel
theorem dX2_makesRoom_4 : decode cX2_makesRoom 4 = .ok (.iload_n 1, 1) := by decide +kernel
theorem dX2_makesRoom_5 : decode cX2_makesRoom 5 = .ok (.iadd, 1) := by decide +kernel
theorem dX2_makesRoom_6 : decode cX2_makesRoom 6 = .ok (.aload_n 0, 1) := by decide +kernel
theorem dX2_makesRoom_7 : decode cX2_makesRoom 7 = .ok (.getfield 18, 3) := by decide +kernel
theorem dX2_makesRoom_10 : decode cX2_makesRoom 10 = .ok (.if_icmp .le 7, 3) := by decide +kernel
theorem dX2_makesRoom_13 : decode cX2_makesRoom 13 = .ok (.aload_n 0, 1) := by decide +kernel
theorem dX2_makesRoom_14 : decode cX2_makesRoom 14 = .ok (.invokevirtual 92, 3) := by decide +kernel
theorem dX2_makesRoom_17 : decode cX2_makesRoom 17 = .ok (.aload_n 0, 1) := by decide +kernel
theorem dX2_makesRoom_18 : decode cX2_makesRoom 18 = .ok (.getfield 25, 3) := by decide +kernel
theorem dX2_makesRoom_21 : decode cX2_makesRoom 21 = .ok (.invokevirtual 39, 3) := by decide +kernel
theorem dX2_makesRoom_24 : decode cX2_makesRoom 24 = .ok (.iload_n 2, 1) := by decide +kernel
theorem dX2_makesRoom_25 : decode cX2_makesRoom 25 = .ok (.iadd, 1) := by decide +kernel
theorem dX2_makesRoom_26 : decode cX2_makesRoom 26 = .ok (.aload_n 0, 1) := by decide +kernel
theorem dX2_makesRoom_27 : decode cX2_makesRoom 27 = .ok (.getfield 18, 3) := by decide +kernel
theorem dX2_makesRoom_30 : decode cX2_makesRoom 30 = .ok (.bipush 8, 2) := by decide +kernel
theorem dX2_makesRoom_32 : decode cX2_makesRoom 32 = .ok (.isub, 1) := by decide +kernel
theorem dX2_makesRoom_33 : decode cX2_makesRoom 33 = .ok (.if_icmp .gt 7, 3) := by decide +kernel
theorem dX2_makesRoom_36 : decode cX2_makesRoom 36 = .ok (.iconst 1, 1) := by decide +kernel
theorem dX2_makesRoom_37 : decode cX2_makesRoom 37 = .ok (.goto 4, 3) := by decide +kernel
theorem dX2_makesRoom_40 : decode cX2_makesRoom 40 = .ok (.iconst 0, 1) := by decide +kernel
theorem dX2_makesRoom_41 : decode cX2_makesRoom 41 = .ok (.ireturn, 1) := by decide +kernel
theorem dX2_perform_0 : decode cX2_perform 0 = .ok (.aload_n 0, 1) := by decide +kernel
theorem dX2_perform_1 : decode cX2_perform 1 = .ok (.getfield 35, 3) := by decide +kernel
theorem dX2_perform_4 : decode cX2_perform 4 = .ok (.iload_n 2, 1) := by decide +kernel
theorem dX2_perform_5 : decode cX2_perform 5 = .ok (.iload_n 3, 1) := by decide +kernel
theorem dX2_perform_6 : decode cX2_perform 6 = .ok (.iload 4, 2) := by decide +kernel
theorem dX2_perform_8 : decode cX2_perform 8 = .ok (.iload 5, 2) := by decide +kernel
theorem dX2_perform_10 : decode cX2_perform 10 = .ok (.iload 6, 2) := by decide +kernel
theorem dX2_perform_12 : decode cX2_perform 12 = .ok (.invokevirtual 123, 3) := by decide +kernel
theorem dX2_perform_15 : decode cX2_perform 15 = .ok (.aload_n 0, 1) := by decide +kernel
theorem dX2_perform_16 : decode cX2_perform 16 = .ok (.getfield 35, 3) := by decide +kernel
theorem dX2_perform_19 : decode cX2_perform 19 = .ok (.aload_n 0, 1) := by decide +kernel
theorem dX2_perform_20 : decode cX2_perform 20 = .ok (.getfield 35, 3) := by decide +kernel
theorem dX2_perform_23 : decode cX2_perform 23 = .ok (.invokevirtual 95, 3) := by decide +kernel
theorem dX2_perform_26 : decode cX2_perform 26 = .ok (.iconst 1, 1) := by decide +kernel
theorem dX2_perform_27 : decode cX2_perform 27 = .ok (.isub, 1) := by decide +kernel
theorem dX2_perform_28 : decode cX2_perform 28 = .ok (.aload_n 0, 1) := by decide +kernel
theorem dX2_perform_29 : decode cX2_perform 29 = .ok (.getfield 25, 3) := by decide +kernel
theorem dX2_perform_32 : decode cX2_perform 32 = .ok (.invokevirtual 98, 3) := by decide +kernel
theorem dX2_perform_35 : decode cX2_perform 35 = .ok (.aload_n 0, 1) := by decide +kernel
theorem dX2_perform_36 : decode cX2_perform 36 = .ok (.dup, 1) := by decide +kernel
theorem dX2_perform_37 : decode cX2_perform 37 = .ok (.getfield 43, 3) := by decide +kernel
theorem dX2_perform_40 : decode cX2_perform 40 = .ok (.iload_n 1, 1) := by decide +kernel
theorem dX2_perform_41 : decode cX2_perform 41 = .ok (.iadd, 1) := by decide +kernel
theorem dX2_perform_42 : decode cX2_perform 42 = .ok (.putfield 43, 3) := by decide +kernel
theorem dX2_perform_45 : decode cX2_perform 45 = .ok (.return_, 1) := by decide +kernel
theorem dX2_countedSync_0 : decode cX2_countedSync 0 = .ok (.aload_n 0, 1) := by decide +kernel
theorem dX2_countedSync_1 : decode cX2_countedSync 1 = .ok (.getfield 29, 3) := by decide +kernel
theorem dX2_countedSync_4 : decode cX2_countedSync 4 = .ok (.aload_n 0, 1) := by decide +kernel
theorem dX2_countedSync_5 : decode cX2_countedSync 5 = .ok (.getfield 25, 3) := by decide +kernel
theorem dX2_countedSync_8 : decode cX2_countedSync 8 = .ok (.invokevirtual 102, 3) := by decide +kernel
theorem dX2_countedSync_11 : decode cX2_countedSync 11 = .ok (.aload_n 0, 1) := by decide +kernel
theorem dX2_countedSync_12 : decode cX2_countedSync 12 = .ok (.invokevirtual 106, 3) := by decide +kernel
theorem dX2_countedSync_15 : decode cX2_countedSync 15 = .ok (.aload_n 0, 1) := by decide +kernel
theorem dX2_countedSync_16 : decode cX2_countedSync 16 = .ok (.dup, 1) := by decide +kernel
theorem dX2_countedSync_17 : decode cX2_countedSync 17 = .ok (.getfield 46, 3) := by decide +kernel
theorem dX2_countedSync_20 : decode cX2_countedSync 20 = .ok (.iconst 1, 1) := by decide +kernel
theorem dX2_countedSync_21 : decode cX2_countedSync 21 = .ok (.iadd, 1) := by decide +kernel
theorem dX2_countedSync_22 : decode cX2_countedSync 22 = .ok (.putfield 46, 3) := by decide +kernel
theorem dX2_countedSync_25 : decode cX2_countedSync 25 = .ok (.return_, 1) := by decide +kernel
theorem dX2_startAfresh_0 : decode cX2_startAfresh 0 = .ok (.aload_n 0, 1) := by decide +kernel
theorem dX2_startAfresh_1 : decode cX2_startAfresh 1 = .ok (.getfield 35, 3) := by decide +kernel
theorem dX2_startAfresh_4 : decode cX2_startAfresh 4 = .ok (.invokevirtual 127, 3) := by decide +kernel
theorem dX2_startAfresh_7 : decode cX2_startAfresh 7 = .ok (.aload_n 0, 1) := by decide +kernel
theorem dX2_startAfresh_8 : decode cX2_startAfresh 8 = .ok (.aload_n 0, 1) := by decide +kernel
theorem dX2_startAfresh_9 : decode cX2_startAfresh 9 = .ok (.getfield 25, 3) := by decide +kernel
theorem dX2_startAfresh_12 : decode cX2_startAfresh 12 = .ok (.invokevirtual 39, 3) := by decide +kernel
theorem dX2_startAfresh_15 : decode cX2_startAfresh 15 = .ok (.putfield 43, 3) := by decide +kernel
theorem dX2_startAfresh_18 : decode cX2_startAfresh 18 = .ok (.return_, 1) := by decide +kernel
end
section
theorem dX3_init_0 : decode cX3_init 0 = .ok (.aload_n 0, 1) := by decide +kernel
theorem dX3_init_1 : decode cX3_init 1 = .ok (.invokespecial 1, 3) := by decide +kernel
theorem dX3_init_4 : decode cX3_init 4 = .ok (.aload_n 0, 1) := by decide +kernel
theorem dX3_init_5 : decode cX3_init 5 = .ok (.bipush 48, 2) := by decide +kernel
theorem dX3_init_7 : decode cX3_init 7 = .ok (.newarray .int, 2) := by decide +kernel
theorem dX3_init_9 : decode cX3_init 9 = .ok (.putfield 7, 3) := by decide +kernel
theorem dX3_init_12 : decode cX3_init 12 = .ok (.aload_n 0, 1) := by decide +kernel
theorem dX3_init_13 : decode cX3_init 13 = .ok (.bipush 48, 2) := by decide +kernel
theorem dX3_init_15 : decode cX3_init 15 = .ok (.newarray .int, 2) := by decide +kernel
theorem dX3_init_17 : decode cX3_init 17 = .ok (.putfield 13, 3) := by decide +kernel
theorem dX3_init_20 : decode cX3_init 20 = .ok (.aload_n 0, 1) := by decide +kernel
theorem dX3_init_21 : decode cX3_init 21 = .ok (.sipush 384, 3) := by decide +kernel
theorem dX3_init_24 : decode cX3_init 24 = .ok (.newarray .int, 2) := by decide +kernel
theorem dX3_init_26 : decode cX3_init 26 = .ok (.putfield 16, 3) := by decide +kernel
theorem dX3_init_29 : decode cX3_init 29 = .ok (.aload_n 0, 1) := by decide +kernel
theorem dX3_init_30 : decode cX3_init 30 = .ok (.sipush 1536, 3) := by decide +kernel
theorem dX3_init_33 : decode cX3_init 33 = .ok (.newarray .int, 2) := by decide +kernel
theorem dX3_init_35 : decode cX3_init 35 = .ok (.putfield 19, 3) := by decide +kernel
theorem dX3_init_38 : decode cX3_init 38 = .ok (.aload_n 0, 1) := by decide +kernel
theorem dX3_init_39 : decode cX3_init 39 = .ok (.iconst 1, 1) := by decide +kernel
theorem dX3_init_40 : decode cX3_init 40 = .ok (.putfield 22, 3) := by decide +kernel
theorem dX3_init_43 : decode cX3_init 43 = .ok (.aload_n 0, 1) := by decide +kernel
theorem dX3_init_44 : decode cX3_init 44 = .ok (.sipush 200, 3) := by decide +kernel
theorem dX3_init_47 : decode cX3_init 47 = .ok (.newarray .int, 2) := by decide +kernel
theorem dX3_init_49 : decode cX3_init 49 = .ok (.putfield 26, 3) := by decide +kernel
theorem dX3_init_52 : decode cX3_init 52 = .ok (.iload_n 1, 1) := by decide +kernel
theorem dX3_init_53 : decode cX3_init 53 = .ok (.iconst 4, 1) := by decide +kernel
theorem dX3_init_54 : decode cX3_init 54 = .ok (.if_icmp .ge 7, 3) := by decide +kernel
theorem dX3_init_57 : decode cX3_init 57 = .ok (.iconst 4, 1) := by decide +kernel
theorem dX3_init_58 : decode cX3_init 58 = .ok (.goto 15, 3) := by decide +kernel
theorem dX3_init_61 : decode cX3_init 61 = .ok (.iload_n 1, 1) := by decide +kernel
theorem dX3_init_62 : decode cX3_init 62 = .ok (.bipush 8, 2) := by decide +kernel
theorem dX3_init_64 : decode cX3_init 64 = .ok (.if_icmp .le 8, 3) := by decide +kernel
theorem dX3_init_67 : decode cX3_init 67 = .ok (.bipush 8, 2) := by decide +kernel
theorem dX3_init_69 : decode cX3_init 69 = .ok (.goto 4, 3) := by decide +kernel
theorem dX3_init_72 : decode cX3_init 72 = .ok (.iload_n 1, 1) := by decide +kernel
theorem dX3_init_73 : decode cX3_init 73 = .ok (.istore_n 2, 1) := by decide +kernel
theorem dX3_init_74 : decode cX3_init 74 = .ok (.aload_n 0, 1) := by decide +kernel
theorem dX3_init_75 : decode cX3_init 75 = .ok (.bipush 8, 2) := by decide +kernel
theorem dX3_init_77 : decode cX3_init 77 = .ok (.iload_n 2, 1) := by decide +kernel
theorem dX3_init_78 : decode cX3_init 78 = .ok (.iconst 2, 1) := by decide +kernel
theorem dX3_init_79 : decode cX3_init 79 = .ok (.isub, 1) := by decide +kernel
theorem dX3_init_80 : decode cX3_init 80 = .ok (.imul, 1) := by decide +kernel
theorem dX3_init_81 : decode cX3_init 81 = .ok (.putfield 29, 3) := by decide +kernel
theorem dX3_init_84 : decode cX3_init 84 = .ok (.iconst 0, 1) := by decide +kernel
theorem dX3_init_85 : decode cX3_init 85 = .ok (.istore_n 3, 1) := by decide +kernel
theorem dX3_init_86 : decode cX3_init 86 = .ok (.iload_n 3, 1) := by decide +kernel
theorem dX3_init_87 : decode cX3_init 87 = .ok (.sipush 1536, 3) := by decide +kernel
theorem dX3_init_90 : decode cX3_init 90 = .ok (.if_icmp .ge 16, 3) := by decide +kernel
theorem dX3_init_93 : decode cX3_init 93 = .ok (.aload_n 0, 1) := by decide +kernel
theorem dX3_init_94 : decode cX3_init 94 = .ok (.getfield 19, 3) := by decide +kernel
theorem dX3_init_97 : decode cX3_init 97 = .ok (.iload_n 3, 1) := by decide +kernel
theorem dX3_init_98 : decode cX3_init 98 = .ok (.iconst (-1), 1) := by decide +kernel
theorem dX3_init_99 : decode cX3_init 99 = .ok (.iastore, 1) := by decide +kernel
theorem dX3_init_100 : decode cX3_init 100 = .ok (.iinc 3 1, 3) := by decide +kernel
theorem dX3_init_103 : decode cX3_init 103 = .ok (.goto (-17), 3) := by decide +kernel
theorem dX3_init_106 : decode cX3_init 106 = .ok (.aload_n 0, 1) := by decide +kernel
theorem dX3_init_107 : decode cX3_init 107 = .ok (.getfield 7, 3) := by decide +kernel
theorem dX3_init_110 : decode cX3_init 110 = .ok (.iconst 0, 1) := by decide +kernel
theorem dX3_init_111 : decode cX3_init 111 = .ok (.iconst 2, 1) := by decide +kernel
theorem dX3_init_112 : decode cX3_init 112 = .ok (.iastore, 1) := by decide +kernel
theorem dX3_init_113 : decode cX3_init 113 = .ok (.aload_n 0, 1) := by decide +kernel
theorem dX3_init_114 : decode cX3_init 114 = .ok (.iconst 0, 1) := by decide +kernel
theorem dX3_init_115 : decode cX3_init 115 = .ok (.iconst 1, 1) := by decide +kernel
theorem dX3_init_116 : decode cX3_init 116 = .ok (.invokevirtual 32, 3) := by decide +kernel
theorem dX3_init_119 : decode cX3_init 119 = .ok (.return_, 1) := by decide +kernel
theorem dX3_copy_0 : decode cX3_copy 0 = .ok (.iconst 0, 1) := by decide +kernel
theorem dX3_copy_1 : decode cX3_copy 1 = .ok (.istore_n 3, 1) := by decide +kernel
theorem dX3_copy_2 : decode cX3_copy 2 = .ok (.iload_n 3, 1) := by decide +kernel
theorem dX3_copy_3 : decode cX3_copy 3 = .ok (.bipush 16, 2) := by decide +kernel
theorem dX3_copy_5 : decode cX3_copy 5 = .ok (.if_icmp .ge 53, 3) := by decide +kernel
theorem dX3_copy_8 : decode cX3_copy 8 = .ok (.aload_n 0, 1) := by decide +kernel
theorem dX3_copy_9 : decode cX3_copy 9 = .ok (.getfield 7, 3) := by decide +kernel
theorem dX3_copy_12 : decode cX3_copy 12 = .ok (.bipush 16, 2) := by decide +kernel
theorem dX3_copy_14 : decode cX3_copy 14 = .ok (.iload_n 2, 1) := by decide +kernel
theorem dX3_copy_15 : decode cX3_copy 15 = .ok (.imul, 1) := by decide +kernel
theorem dX3_copy_16 : decode cX3_copy 16 = .ok (.iload_n 3, 1) := by decide +kernel
theorem dX3_copy_17 : decode cX3_copy 17 = .ok (.iadd, 1) := by decide +kernel
theorem dX3_copy_18 : decode cX3_copy 18 = .ok (.aload_n 0, 1) := by decide +kernel
theorem dX3_copy_19 : decode cX3_copy 19 = .ok (.getfield 7, 3) := by decide +kernel
theorem dX3_copy_22 : decode cX3_copy 22 = .ok (.bipush 16, 2) := by decide +kernel
theorem dX3_copy_24 : decode cX3_copy 24 = .ok (.iload_n 1, 1) := by decide +kernel
theorem dX3_copy_25 : decode cX3_copy 25 = .ok (.imul, 1) := by decide +kernel
theorem dX3_copy_26 : decode cX3_copy 26 = .ok (.iload_n 3, 1) := by decide +kernel
theorem dX3_copy_27 : decode cX3_copy 27 = .ok (.iadd, 1) := by decide +kernel
theorem dX3_copy_28 : decode cX3_copy 28 = .ok (.iaload, 1) := by decide +kernel
theorem dX3_copy_29 : decode cX3_copy 29 = .ok (.iastore, 1) := by decide +kernel
theorem dX3_copy_30 : decode cX3_copy 30 = .ok (.aload_n 0, 1) := by decide +kernel
theorem dX3_copy_31 : decode cX3_copy 31 = .ok (.getfield 13, 3) := by decide +kernel
theorem dX3_copy_34 : decode cX3_copy 34 = .ok (.bipush 16, 2) := by decide +kernel
theorem dX3_copy_36 : decode cX3_copy 36 = .ok (.iload_n 2, 1) := by decide +kernel
theorem dX3_copy_37 : decode cX3_copy 37 = .ok (.imul, 1) := by decide +kernel
theorem dX3_copy_38 : decode cX3_copy 38 = .ok (.iload_n 3, 1) := by decide +kernel
theorem dX3_copy_39 : decode cX3_copy 39 = .ok (.iadd, 1) := by decide +kernel
theorem dX3_copy_40 : decode cX3_copy 40 = .ok (.aload_n 0, 1) := by decide +kernel
theorem dX3_copy_41 : decode cX3_copy 41 = .ok (.getfield 13, 3) := by decide +kernel
theorem dX3_copy_44 : decode cX3_copy 44 = .ok (.bipush 16, 2) := by decide +kernel
theorem dX3_copy_46 : decode cX3_copy 46 = .ok (.iload_n 1, 1) := by decide +kernel
theorem dX3_copy_47 : decode cX3_copy 47 = .ok (.imul, 1) := by decide +kernel
theorem dX3_copy_48 : decode cX3_copy 48 = .ok (.iload_n 3, 1) := by decide +kernel
theorem dX3_copy_49 : decode cX3_copy 49 = .ok (.iadd, 1) := by decide +kernel
theorem dX3_copy_50 : decode cX3_copy 50 = .ok (.iaload, 1) := by decide +kernel
theorem dX3_copy_51 : decode cX3_copy 51 = .ok (.iastore, 1) := by decide +kernel
theorem dX3_copy_52 : decode cX3_copy 52 = .ok (.iinc 3 1, 3) := by decide +kernel
theorem dX3_copy_55 : decode cX3_copy 55 = .ok (.goto (-53), 3) := by decide +kernel
theorem dX3_copy_58 : decode cX3_copy 58 = .ok (.iconst 0, 1) := by decide +kernel
theorem dX3_copy_59 : decode cX3_copy 59 = .ok (.istore_n 3, 1) := by decide +kernel
theorem dX3_copy_60 : decode cX3_copy 60 = .ok (.iload_n 3, 1) := by decide +kernel
theorem dX3_copy_61 : decode cX3_copy 61 = .ok (.sipush 128, 3) := by decide +kernel
theorem dX3_copy_64 : decode cX3_copy 64 = .ok (.if_icmp .ge 33, 3) := by decide +kernel
theorem dX3_copy_67 : decode cX3_copy 67 = .ok (.aload_n 0, 1) := by decide +kernel
theorem dX3_copy_68 : decode cX3_copy 68 = .ok (.getfield 16, 3) := by decide +kernel
theorem dX3_copy_71 : decode cX3_copy 71 = .ok (.sipush 128, 3) := by decide +kernel
theorem dX3_copy_74 : decode cX3_copy 74 = .ok (.iload_n 2, 1) := by decide +kernel
theorem dX3_copy_75 : decode cX3_copy 75 = .ok (.imul, 1) := by decide +kernel
theorem dX3_copy_76 : decode cX3_copy 76 = .ok (.iload_n 3, 1) := by decide +kernel
theorem dX3_copy_77 : decode cX3_copy 77 = .ok (.iadd, 1) := by decide +kernel
theorem dX3_copy_78 : decode cX3_copy 78 = .ok (.aload_n 0, 1) := by decide +kernel
theorem dX3_copy_79 : decode cX3_copy 79 = .ok (.getfield 16, 3) := by decide +kernel
theorem dX3_copy_82 : decode cX3_copy 82 = .ok (.sipush 128, 3) := by decide +kernel
theorem dX3_copy_85 : decode cX3_copy 85 = .ok (.iload_n 1, 1) := by decide +kernel
theorem dX3_copy_86 : decode cX3_copy 86 = .ok (.imul, 1) := by decide +kernel
theorem dX3_copy_87 : decode cX3_copy 87 = .ok (.iload_n 3, 1) := by decide +kernel
theorem dX3_copy_88 : decode cX3_copy 88 = .ok (.iadd, 1) := by decide +kernel
theorem dX3_copy_89 : decode cX3_copy 89 = .ok (.iaload, 1) := by decide +kernel
theorem dX3_copy_90 : decode cX3_copy 90 = .ok (.iastore, 1) := by decide +kernel
theorem dX3_copy_91 : decode cX3_copy 91 = .ok (.iinc 3 1, 3) := by decide +kernel
theorem dX3_copy_94 : decode cX3_copy 94 = .ok (.goto (-34), 3) := by decide +kernel
theorem dX3_copy_97 : decode cX3_copy 97 = .ok (.iconst 0, 1) := by decide +kernel
theorem dX3_copy_98 : decode cX3_copy 98 = .ok (.istore_n 3, 1) := by decide +kernel
theorem dX3_copy_99 : decode cX3_copy 99 = .ok (.iload_n 3, 1) := by decide +kernel
theorem dX3_copy_100 : decode cX3_copy 100 = .ok (.sipush 512, 3) := by decide +kernel
theorem dX3_copy_103 : decode cX3_copy 103 = .ok (.if_icmp .ge 33, 3) := by decide +kernel
theorem dX3_copy_106 : decode cX3_copy 106 = .ok (.aload_n 0, 1) := by decide +kernel
theorem dX3_copy_107 : decode cX3_copy 107 = .ok (.getfield 19, 3) := by decide +kernel
theorem dX3_copy_110 : decode cX3_copy 110 = .ok (.sipush 512, 3) := by decide +kernel
theorem dX3_copy_113 : decode cX3_copy 113 = .ok (.iload_n 2, 1) := by decide +kernel
theorem dX3_copy_114 : decode cX3_copy 114 = .ok (.imul, 1) := by decide +kernel
theorem dX3_copy_115 : decode cX3_copy 115 = .ok (.iload_n 3, 1) := by decide +kernel
theorem dX3_copy_116 : decode cX3_copy 116 = .ok (.iadd, 1) := by decide +kernel
theorem dX3_copy_117 : decode cX3_copy 117 = .ok (.aload_n 0, 1) := by decide +kernel
theorem dX3_copy_118 : decode cX3_copy 118 = .ok (.getfield 19, 3) := by decide +kernel
theorem dX3_copy_121 : decode cX3_copy 121 = .ok (.sipush 512, 3) := by decide +kernel
theorem dX3_copy_124 : decode cX3_copy 124 = .ok (.iload_n 1, 1) := by decide +kernel
theorem dX3_copy_125 : decode cX3_copy 125 = .ok (.imul, 1) := by decide +kernel
theorem dX3_copy_126 : decode cX3_copy 126 = .ok (.iload_n 3, 1) := by decide +kernel
theorem dX3_copy_127 : decode cX3_copy 127 = .ok (.iadd, 1) := by decide +kernel
theorem dX3_copy_128 : decode cX3_copy 128 = .ok (.iaload, 1) := by decide +kernel
theorem dX3_copy_129 : decode cX3_copy 129 = .ok (.iastore, 1) := by decide +kernel
theorem dX3_copy_130 : decode cX3_copy 130 = .ok (.iinc 3 1, 3) := by decide +kernel
theorem dX3_copy_133 : decode cX3_copy 133 = .ok (.goto (-34), 3) := by decide +kernel
theorem dX3_copy_136 : decode cX3_copy 136 = .ok (.return_, 1) := by decide +kernel
theorem dX3_out_0 : decode cX3_out 0 = .ok (.iload_n 0, 1) := by decide +kernel
theorem dX3_out_1 : decode cX3_out 1 = .ok (.ifCond .lt 8, 3) := by decide +kernel
theorem dX3_out_4 : decode cX3_out 4 = .ok (.iload_n 0, 1) := by decide +kernel
theorem dX3_out_5 : decode cX3_out 5 = .ok (.iload_n 1, 1) := by decide +kernel
theorem dX3_out_6 : decode cX3_out 6 = .ok (.if_icmp .lt 7, 3) := by decide +kernel
theorem dX3_out_9 : decode cX3_out 9 = .ok (.iconst 1, 1) := by decide +kernel
theorem dX3_out_10 : decode cX3_out 10 = .ok (.goto 4, 3) := by decide +kernel
theorem dX3_out_13 : decode cX3_out 13 = .ok (.iconst 0, 1) := by decide +kernel
theorem dX3_out_14 : decode cX3_out 14 = .ok (.ireturn, 1) := by decide +kernel
theorem dX3_live_0 : decode cX3_live 0 = .ok (.iconst 0, 1) := by decide +kernel
theorem dX3_live_1 : decode cX3_live 1 = .ok (.istore_n 1, 1) := by decide +kernel
theorem dX3_live_2 : decode cX3_live 2 = .ok (.iconst 0, 1) := by decide +kernel
theorem dX3_live_3 : decode cX3_live 3 = .ok (.istore_n 2, 1) := by decide +kernel
theorem dX3_live_4 : decode cX3_live 4 = .ok (.iload_n 2, 1) := by decide +kernel
theorem dX3_live_5 : decode cX3_live 5 = .ok (.bipush 16, 2) := by decide +kernel
theorem dX3_live_7 : decode cX3_live 7 = .ok (.if_icmp .ge 43, 3) := by decide +kernel
theorem dX3_live_10 : decode cX3_live 10 = .ok (.aload_n 0, 1) := by decide +kernel
theorem dX3_live_11 : decode cX3_live 11 = .ok (.getfield 7, 3) := by decide +kernel
theorem dX3_live_14 : decode cX3_live 14 = .ok (.iload_n 2, 1) := by decide +kernel
theorem dX3_live_15 : decode cX3_live 15 = .ok (.iaload, 1) := by decide +kernel
theorem dX3_live_16 : decode cX3_live 16 = .ok (.ifCond .eq 28, 3) := by decide +kernel
theorem dX3_live_19 : decode cX3_live 19 = .ok (.iload_n 1, 1) := by decide +kernel
theorem dX3_live_20 : decode cX3_live 20 = .ok (.iconst 1, 1) := by decide +kernel
theorem dX3_live_21 : decode cX3_live 21 = .ok (.aload_n 0, 1) := by decide +kernel
theorem dX3_live_22 : decode cX3_live 22 = .ok (.getfield 7, 3) := by decide +kernel
theorem dX3_live_25 : decode cX3_live 25 = .ok (.iload_n 2, 1) := by decide +kernel
theorem dX3_live_26 : decode cX3_live 26 = .ok (.iaload, 1) := by decide +kernel
theorem dX3_live_27 : decode cX3_live 27 = .ok (.iconst 1, 1) := by decide +kernel
theorem dX3_live_28 : decode cX3_live 28 = .ok (.if_icmp .ne 12, 3) := by decide +kernel
theorem dX3_live_31 : decode cX3_live 31 = .ok (.aload_n 0, 1) := by decide +kernel
theorem dX3_live_32 : decode cX3_live 32 = .ok (.getfield 13, 3) := by decide +kernel
theorem dX3_live_35 : decode cX3_live 35 = .ok (.iload_n 2, 1) := by decide +kernel
theorem dX3_live_36 : decode cX3_live 36 = .ok (.iaload, 1) := by decide +kernel
theorem dX3_live_37 : decode cX3_live 37 = .ok (.goto 4, 3) := by decide +kernel
theorem dX3_live_40 : decode cX3_live 40 = .ok (.iconst 0, 1) := by decide +kernel
theorem dX3_live_41 : decode cX3_live 41 = .ok (.iadd, 1) := by decide +kernel
theorem dX3_live_42 : decode cX3_live 42 = .ok (.iadd, 1) := by decide +kernel
theorem dX3_live_43 : decode cX3_live 43 = .ok (.istore_n 1, 1) := by decide +kernel
theorem dX3_live_44 : decode cX3_live 44 = .ok (.iinc 2 1, 3) := by decide +kernel
theorem dX3_live_47 : decode cX3_live 47 = .ok (.goto (-43), 3) := by decide +kernel
theorem dX3_live_50 : decode cX3_live 50 = .ok (.iload_n 1, 1) := by decide +kernel
theorem dX3_live_51 : decode cX3_live 51 = .ok (.ireturn, 1) := by decide +kernel
theorem dX3_nodes_0 : decode cX3_nodes 0 = .ok (.iconst 0, 1) := by decide +kernel
theorem dX3_nodes_1 : decode cX3_nodes 1 = .ok (.istore_n 1, 1) := by decide +kernel
theorem dX3_nodes_2 : decode cX3_nodes 2 = .ok (.iconst 0, 1) := by decide +kernel
theorem dX3_nodes_3 : decode cX3_nodes 3 = .ok (.istore_n 2, 1) := by decide +kernel
theorem dX3_nodes_4 : decode cX3_nodes 4 = .ok (.iload_n 2, 1) := by decide +kernel
theorem dX3_nodes_5 : decode cX3_nodes 5 = .ok (.bipush 16, 2) := by decide +kernel
theorem dX3_nodes_7 : decode cX3_nodes 7 = .ok (.if_icmp .ge 21, 3) := by decide +kernel
theorem dX3_nodes_10 : decode cX3_nodes 10 = .ok (.aload_n 0, 1) := by decide +kernel
theorem dX3_nodes_11 : decode cX3_nodes 11 = .ok (.getfield 7, 3) := by decide +kernel
theorem dX3_nodes_14 : decode cX3_nodes 14 = .ok (.iload_n 2, 1) := by decide +kernel
theorem dX3_nodes_15 : decode cX3_nodes 15 = .ok (.iaload, 1) := by decide +kernel
theorem dX3_nodes_16 : decode cX3_nodes 16 = .ok (.ifCond .eq 6, 3) := by decide +kernel
theorem dX3_nodes_19 : decode cX3_nodes 19 = .ok (.iinc 1 1, 3) := by decide +kernel
theorem dX3_nodes_22 : decode cX3_nodes 22 = .ok (.iinc 2 1, 3) := by decide +kernel
theorem dX3_nodes_25 : decode cX3_nodes 25 = .ok (.goto (-21), 3) := by decide +kernel
theorem dX3_nodes_28 : decode cX3_nodes 28 = .ok (.iload_n 1, 1) := by decide +kernel
theorem dX3_nodes_29 : decode cX3_nodes 29 = .ok (.ireturn, 1) := by decide +kernel
theorem dX3_entryCount_0 : decode cX3_entryCount 0 = .ok (.iconst 0, 1) := by decide +kernel
theorem dX3_entryCount_1 : decode cX3_entryCount 1 = .ok (.istore_n 2, 1) := by decide +kernel
theorem dX3_entryCount_2 : decode cX3_entryCount 2 = .ok (.iconst 0, 1) := by decide +kernel
theorem dX3_entryCount_3 : decode cX3_entryCount 3 = .ok (.istore_n 3, 1) := by decide +kernel
theorem dX3_entryCount_4 : decode cX3_entryCount 4 = .ok (.iload_n 3, 1) := by decide +kernel
theorem dX3_entryCount_5 : decode cX3_entryCount 5 = .ok (.bipush 32, 2) := by decide +kernel
theorem dX3_entryCount_7 : decode cX3_entryCount 7 = .ok (.if_icmp .ge 26, 3) := by decide +kernel
theorem dX3_entryCount_10 : decode cX3_entryCount 10 = .ok (.aload_n 0, 1) := by decide +kernel
theorem dX3_entryCount_11 : decode cX3_entryCount 11 = .ok (.getfield 19, 3) := by decide +kernel
theorem dX3_entryCount_14 : decode cX3_entryCount 14 = .ok (.bipush 32, 2) := by decide +kernel
theorem dX3_entryCount_16 : decode cX3_entryCount 16 = .ok (.iload_n 1, 1) := by decide +kernel
theorem dX3_entryCount_17 : decode cX3_entryCount 17 = .ok (.imul, 1) := by decide +kernel
theorem dX3_entryCount_18 : decode cX3_entryCount 18 = .ok (.iload_n 3, 1) := by decide +kernel
theorem dX3_entryCount_19 : decode cX3_entryCount 19 = .ok (.iadd, 1) := by decide +kernel
theorem dX3_entryCount_20 : decode cX3_entryCount 20 = .ok (.iaload, 1) := by decide +kernel
theorem dX3_entryCount_21 : decode cX3_entryCount 21 = .ok (.ifCond .lt 6, 3) := by decide +kernel
theorem dX3_entryCount_24 : decode cX3_entryCount 24 = .ok (.iinc 2 1, 3) := by decide +kernel
theorem dX3_entryCount_27 : decode cX3_entryCount 27 = .ok (.iinc 3 1, 3) := by decide +kernel
theorem dX3_entryCount_30 : decode cX3_entryCount 30 = .ok (.goto (-26), 3) := by decide +kernel
theorem dX3_entryCount_33 : decode cX3_entryCount 33 = .ok (.iload_n 2, 1) := by decide +kernel
theorem dX3_entryCount_34 : decode cX3_entryCount 34 = .ok (.ireturn, 1) := by decide +kernel
theorem dX3_links_0 : decode cX3_links 0 = .ok (.iconst 0, 1) := by decide +kernel
theorem dX3_links_1 : decode cX3_links 1 = .ok (.istore_n 2, 1) := by decide +kernel
theorem dX3_links_2 : decode cX3_links 2 = .ok (.iconst 0, 1) := by decide +kernel
theorem dX3_links_3 : decode cX3_links 3 = .ok (.istore_n 3, 1) := by decide +kernel
theorem dX3_links_4 : decode cX3_links 4 = .ok (.iload_n 3, 1) := by decide +kernel
theorem dX3_links_5 : decode cX3_links 5 = .ok (.sipush 512, 3) := by decide +kernel
theorem dX3_links_8 : decode cX3_links 8 = .ok (.if_icmp .ge 22, 3) := by decide +kernel
theorem dX3_links_11 : decode cX3_links 11 = .ok (.aload_n 0, 1) := by decide +kernel
theorem dX3_links_12 : decode cX3_links 12 = .ok (.getfield 19, 3) := by decide +kernel
theorem dX3_links_15 : decode cX3_links 15 = .ok (.iload_n 3, 1) := by decide +kernel
theorem dX3_links_16 : decode cX3_links 16 = .ok (.iaload, 1) := by decide +kernel
theorem dX3_links_17 : decode cX3_links 17 = .ok (.iload_n 1, 1) := by decide +kernel
theorem dX3_links_18 : decode cX3_links 18 = .ok (.if_icmp .ne 6, 3) := by decide +kernel
theorem dX3_links_21 : decode cX3_links 21 = .ok (.iinc 2 1, 3) := by decide +kernel
theorem dX3_links_24 : decode cX3_links 24 = .ok (.iinc 3 1, 3) := by decide +kernel
theorem dX3_links_27 : decode cX3_links 27 = .ok (.goto (-23), 3) := by decide +kernel
theorem dX3_links_30 : decode cX3_links 30 = .ok (.iload_n 2, 1) := by decide +kernel
theorem dX3_links_31 : decode cX3_links 31 = .ok (.ireturn, 1) := by decide +kernel
theorem dX3_isDir_0 : decode cX3_isDir 0 = .ok (.aload_n 0, 1) := by decide +kernel
theorem dX3_isDir_1 : decode cX3_isDir 1 = .ok (.getfield 7, 3) := by decide +kernel
theorem dX3_isDir_4 : decode cX3_isDir 4 = .ok (.iload_n 1, 1) := by decide +kernel
theorem dX3_isDir_5 : decode cX3_isDir 5 = .ok (.iaload, 1) := by decide +kernel
theorem dX3_isDir_6 : decode cX3_isDir 6 = .ok (.iconst 2, 1) := by decide +kernel
theorem dX3_isDir_7 : decode cX3_isDir 7 = .ok (.if_icmp .ne 7, 3) := by decide +kernel
theorem dX3_isDir_10 : decode cX3_isDir 10 = .ok (.iconst 1, 1) := by decide +kernel
theorem dX3_isDir_11 : decode cX3_isDir 11 = .ok (.goto 4, 3) := by decide +kernel
theorem dX3_isDir_14 : decode cX3_isDir 14 = .ok (.iconst 0, 1) := by decide +kernel
theorem dX3_isDir_15 : decode cX3_isDir 15 = .ok (.ireturn, 1) := by decide +kernel
theorem dX3_liesIn_0 : decode cX3_liesIn 0 = .ok (.iload_n 1, 1) := by decide +kernel
theorem dX3_liesIn_1 : decode cX3_liesIn 1 = .ok (.istore_n 3, 1) := by decide +kernel
theorem dX3_liesIn_2 : decode cX3_liesIn 2 = .ok (.iconst 0, 1) := by decide +kernel
theorem dX3_liesIn_3 : decode cX3_liesIn 3 = .ok (.istore 4, 2) := by decide +kernel
theorem dX3_liesIn_5 : decode cX3_liesIn 5 = .ok (.iload 4, 2) := by decide +kernel
theorem dX3_liesIn_7 : decode cX3_liesIn 7 = .ok (.bipush 16, 2) := by decide +kernel
theorem dX3_liesIn_9 : decode cX3_liesIn 9 = .ok (.if_icmp .ge 64, 3) := by decide +kernel
theorem dX3_liesIn_12 : decode cX3_liesIn 12 = .ok (.iload_n 3, 1) := by decide +kernel
theorem dX3_liesIn_13 : decode cX3_liesIn 13 = .ok (.iload_n 2, 1) := by decide +kernel
theorem dX3_liesIn_14 : decode cX3_liesIn 14 = .ok (.if_icmp .ne 5, 3) := by decide +kernel
theorem dX3_liesIn_17 : decode cX3_liesIn 17 = .ok (.iconst 1, 1) := by decide +kernel
theorem dX3_liesIn_18 : decode cX3_liesIn 18 = .ok (.ireturn, 1) := by decide +kernel
theorem dX3_liesIn_19 : decode cX3_liesIn 19 = .ok (.iconst (-1), 1) := by decide +kernel
theorem dX3_liesIn_20 : decode cX3_liesIn 20 = .ok (.istore 5, 2) := by decide +kernel
theorem dX3_liesIn_22 : decode cX3_liesIn 22 = .ok (.iconst 0, 1) := by decide +kernel
theorem dX3_liesIn_23 : decode cX3_liesIn 23 = .ok (.istore 6, 2) := by decide +kernel
theorem dX3_liesIn_25 : decode cX3_liesIn 25 = .ok (.iload 6, 2) := by decide +kernel
theorem dX3_liesIn_27 : decode cX3_liesIn 27 = .ok (.sipush 512, 3) := by decide +kernel
theorem dX3_liesIn_30 : decode cX3_liesIn 30 = .ok (.if_icmp .ge 27, 3) := by decide +kernel
theorem dX3_liesIn_33 : decode cX3_liesIn 33 = .ok (.aload_n 0, 1) := by decide +kernel
theorem dX3_liesIn_34 : decode cX3_liesIn 34 = .ok (.getfield 19, 3) := by decide +kernel
theorem dX3_liesIn_37 : decode cX3_liesIn 37 = .ok (.iload 6, 2) := by decide +kernel
theorem dX3_liesIn_39 : decode cX3_liesIn 39 = .ok (.iaload, 1) := by decide +kernel
theorem dX3_liesIn_40 : decode cX3_liesIn 40 = .ok (.iload_n 3, 1) := by decide +kernel
theorem dX3_liesIn_41 : decode cX3_liesIn 41 = .ok (.if_icmp .ne 10, 3) := by decide +kernel
theorem dX3_liesIn_44 : decode cX3_liesIn 44 = .ok (.iload 6, 2) := by decide +kernel
theorem dX3_liesIn_46 : decode cX3_liesIn 46 = .ok (.bipush 32, 2) := by decide +kernel
theorem dX3_liesIn_48 : decode cX3_liesIn 48 = .ok (.idiv, 1) := by decide +kernel
theorem dX3_liesIn_49 : decode cX3_liesIn 49 = .ok (.istore 5, 2) := by decide +kernel
theorem dX3_liesIn_51 : decode cX3_liesIn 51 = .ok (.iinc 6 1, 3) := by decide +kernel
theorem dX3_liesIn_54 : decode cX3_liesIn 54 = .ok (.goto (-29), 3) := by decide +kernel
theorem dX3_liesIn_57 : decode cX3_liesIn 57 = .ok (.iload 5, 2) := by decide +kernel
theorem dX3_liesIn_59 : decode cX3_liesIn 59 = .ok (.ifCond .ge 5, 3) := by decide +kernel
theorem dX3_liesIn_62 : decode cX3_liesIn 62 = .ok (.iconst 0, 1) := by decide +kernel
theorem dX3_liesIn_63 : decode cX3_liesIn 63 = .ok (.ireturn, 1) := by decide +kernel
theorem dX3_liesIn_64 : decode cX3_liesIn 64 = .ok (.iload 5, 2) := by decide +kernel
theorem dX3_liesIn_66 : decode cX3_liesIn 66 = .ok (.istore_n 3, 1) := by decide +kernel
theorem dX3_liesIn_67 : decode cX3_liesIn 67 = .ok (.iinc 4 1, 3) := by decide +kernel
theorem dX3_liesIn_70 : decode cX3_liesIn 70 = .ok (.goto (-65), 3) := by decide +kernel
theorem dX3_liesIn_73 : decode cX3_liesIn 73 = .ok (.iconst 0, 1) := by decide +kernel
theorem dX3_liesIn_74 : decode cX3_liesIn 74 = .ok (.ireturn, 1) := by decide +kernel
theorem dX3_leastAbsent_0 : decode cX3_leastAbsent 0 = .ok (.iconst 1, 1) := by decide +kernel
theorem dX3_leastAbsent_1 : decode cX3_leastAbsent 1 = .ok (.istore_n 1, 1) := by decide +kernel
theorem dX3_leastAbsent_2 : decode cX3_leastAbsent 2 = .ok (.iload_n 1, 1) := by decide +kernel
theorem dX3_leastAbsent_3 : decode cX3_leastAbsent 3 = .ok (.bipush 16, 2) := by decide +kernel
theorem dX3_leastAbsent_5 : decode cX3_leastAbsent 5 = .ok (.if_icmp .ge 18, 3) := by decide +kernel
theorem dX3_leastAbsent_8 : decode cX3_leastAbsent 8 = .ok (.aload_n 0, 1) := by decide +kernel
theorem dX3_leastAbsent_9 : decode cX3_leastAbsent 9 = .ok (.getfield 7, 3) := by decide +kernel
theorem dX3_leastAbsent_12 : decode cX3_leastAbsent 12 = .ok (.iload_n 1, 1) := by decide +kernel
theorem dX3_leastAbsent_13 : decode cX3_leastAbsent 13 = .ok (.iaload, 1) := by decide +kernel
theorem dX3_leastAbsent_14 : decode cX3_leastAbsent 14 = .ok (.ifCond .eq 9, 3) := by decide +kernel
theorem dX3_leastAbsent_17 : decode cX3_leastAbsent 17 = .ok (.iinc 1 1, 3) := by decide +kernel
theorem dX3_leastAbsent_20 : decode cX3_leastAbsent 20 = .ok (.goto (-18), 3) := by decide +kernel
theorem dX3_leastAbsent_23 : decode cX3_leastAbsent 23 = .ok (.iload_n 1, 1) := by decide +kernel
theorem dX3_leastAbsent_24 : decode cX3_leastAbsent 24 = .ok (.ireturn, 1) := by decide +kernel
theorem dX3_objection_0 : decode cX3_objection 0 = .ok (.iload_n 1, 1) := by decide +kernel
theorem dX3_objection_1 : decode cX3_objection 1 = .ok (.tableswitch 326 0 3 #[31, 85, 141, 209], 31) := by decide +kernel
theorem dX3_objection_32 : decode cX3_objection 32 = .ok (.aload_n 0, 1) := by decide +kernel
theorem dX3_objection_33 : decode cX3_objection 33 = .ok (.iload_n 2, 1) := by decide +kernel
theorem dX3_objection_34 : decode cX3_objection 34 = .ok (.invokevirtual 36, 3) := by decide +kernel
theorem dX3_objection_37 : decode cX3_objection 37 = .ok (.ifCond .ne 6, 3) := by decide +kernel
theorem dX3_objection_40 : decode cX3_objection 40 = .ok (.bipush (-2), 2) := by decide +kernel
theorem dX3_objection_42 : decode cX3_objection 42 = .ok (.ireturn, 1) := by decide +kernel
theorem dX3_objection_43 : decode cX3_objection 43 = .ok (.aload_n 0, 1) := by decide +kernel
theorem dX3_objection_44 : decode cX3_objection 44 = .ok (.getfield 19, 3) := by decide +kernel
theorem dX3_objection_47 : decode cX3_objection 47 = .ok (.bipush 32, 2) := by decide +kernel
theorem dX3_objection_49 : decode cX3_objection 49 = .ok (.iload_n 2, 1) := by decide +kernel
theorem dX3_objection_50 : decode cX3_objection 50 = .ok (.imul, 1) := by decide +kernel
theorem dX3_objection_51 : decode cX3_objection 51 = .ok (.iload_n 3, 1) := by decide +kernel
theorem dX3_objection_52 : decode cX3_objection 52 = .ok (.iadd, 1) := by decide +kernel
theorem dX3_objection_53 : decode cX3_objection 53 = .ok (.iaload, 1) := by decide +kernel
theorem dX3_objection_54 : decode cX3_objection 54 = .ok (.ifCond .lt 6, 3) := by decide +kernel
theorem dX3_objection_57 : decode cX3_objection 57 = .ok (.bipush (-3), 2) := by decide +kernel
theorem dX3_objection_59 : decode cX3_objection 59 = .ok (.ireturn, 1) := by decide +kernel
theorem dX3_objection_60 : decode cX3_objection 60 = .ok (.aload_n 0, 1) := by decide +kernel
theorem dX3_objection_61 : decode cX3_objection 61 = .ok (.iload_n 2, 1) := by decide +kernel
theorem dX3_objection_62 : decode cX3_objection 62 = .ok (.invokevirtual 40, 3) := by decide +kernel
theorem dX3_objection_65 : decode cX3_objection 65 = .ok (.bipush 8, 2) := by decide +kernel
theorem dX3_objection_67 : decode cX3_objection 67 = .ok (.if_icmp .eq 12, 3) := by decide +kernel
theorem dX3_objection_70 : decode cX3_objection 70 = .ok (.aload_n 0, 1) := by decide +kernel
theorem dX3_objection_71 : decode cX3_objection 71 = .ok (.invokevirtual 44, 3) := by decide +kernel
theorem dX3_objection_74 : decode cX3_objection 74 = .ok (.bipush 16, 2) := by decide +kernel
theorem dX3_objection_76 : decode cX3_objection 76 = .ok (.if_icmp .ne 8, 3) := by decide +kernel
theorem dX3_objection_79 : decode cX3_objection 79 = .ok (.bipush (-5), 2) := by decide +kernel
theorem dX3_objection_81 : decode cX3_objection 81 = .ok (.goto 4, 3) := by decide +kernel
theorem dX3_objection_84 : decode cX3_objection 84 = .ok (.iconst 0, 1) := by decide +kernel
theorem dX3_objection_85 : decode cX3_objection 85 = .ok (.ireturn, 1) := by decide +kernel
theorem dX3_objection_86 : decode cX3_objection 86 = .ok (.aload_n 0, 1) := by decide +kernel
theorem dX3_objection_87 : decode cX3_objection 87 = .ok (.iload_n 2, 1) := by decide +kernel
theorem dX3_objection_88 : decode cX3_objection 88 = .ok (.invokevirtual 36, 3) := by decide +kernel
theorem dX3_objection_91 : decode cX3_objection 91 = .ok (.ifCond .eq 14, 3) := by decide +kernel
theorem dX3_objection_94 : decode cX3_objection 94 = .ok (.aload_n 0, 1) := by decide +kernel
theorem dX3_objection_95 : decode cX3_objection 95 = .ok (.getfield 7, 3) := by decide +kernel
theorem dX3_objection_98 : decode cX3_objection 98 = .ok (.iload 4, 2) := by decide +kernel
theorem dX3_objection_100 : decode cX3_objection 100 = .ok (.iaload, 1) := by decide +kernel
theorem dX3_objection_101 : decode cX3_objection 101 = .ok (.iconst 1, 1) := by decide +kernel
theorem dX3_objection_102 : decode cX3_objection 102 = .ok (.if_icmp .eq 6, 3) := by decide +kernel
theorem dX3_objection_105 : decode cX3_objection 105 = .ok (.bipush (-2), 2) := by decide +kernel
theorem dX3_objection_107 : decode cX3_objection 107 = .ok (.ireturn, 1) := by decide +kernel
theorem dX3_objection_108 : decode cX3_objection 108 = .ok (.aload_n 0, 1) := by decide +kernel
theorem dX3_objection_109 : decode cX3_objection 109 = .ok (.getfield 19, 3) := by decide +kernel
theorem dX3_objection_112 : decode cX3_objection 112 = .ok (.bipush 32, 2) := by decide +kernel
theorem dX3_objection_114 : decode cX3_objection 114 = .ok (.iload_n 2, 1) := by decide +kernel
theorem dX3_objection_115 : decode cX3_objection 115 = .ok (.imul, 1) := by decide +kernel
theorem dX3_objection_116 : decode cX3_objection 116 = .ok (.iload_n 3, 1) := by decide +kernel
theorem dX3_objection_117 : decode cX3_objection 117 = .ok (.iadd, 1) := by decide +kernel
theorem dX3_objection_118 : decode cX3_objection 118 = .ok (.iaload, 1) := by decide +kernel
theorem dX3_objection_119 : decode cX3_objection 119 = .ok (.ifCond .lt 6, 3) := by decide +kernel
theorem dX3_objection_122 : decode cX3_objection 122 = .ok (.bipush (-3), 2) := by decide +kernel
theorem dX3_objection_124 : decode cX3_objection 124 = .ok (.ireturn, 1) := by decide +kernel
theorem dX3_objection_125 : decode cX3_objection 125 = .ok (.aload_n 0, 1) := by decide +kernel
theorem dX3_objection_126 : decode cX3_objection 126 = .ok (.iload_n 2, 1) := by decide +kernel
theorem dX3_objection_127 : decode cX3_objection 127 = .ok (.invokevirtual 40, 3) := by decide +kernel
theorem dX3_objection_130 : decode cX3_objection 130 = .ok (.bipush 8, 2) := by decide +kernel
theorem dX3_objection_132 : decode cX3_objection 132 = .ok (.if_icmp .ne 8, 3) := by decide +kernel
theorem dX3_objection_135 : decode cX3_objection 135 = .ok (.bipush (-5), 2) := by decide +kernel
theorem dX3_objection_137 : decode cX3_objection 137 = .ok (.goto 4, 3) := by decide +kernel
theorem dX3_objection_140 : decode cX3_objection 140 = .ok (.iconst 0, 1) := by decide +kernel
theorem dX3_objection_141 : decode cX3_objection 141 = .ok (.ireturn, 1) := by decide +kernel
theorem dX3_objection_142 : decode cX3_objection 142 = .ok (.aload_n 0, 1) := by decide +kernel
theorem dX3_objection_143 : decode cX3_objection 143 = .ok (.iload_n 2, 1) := by decide +kernel
theorem dX3_objection_144 : decode cX3_objection 144 = .ok (.invokevirtual 36, 3) := by decide +kernel
theorem dX3_objection_147 : decode cX3_objection 147 = .ok (.ifCond .eq 17, 3) := by decide +kernel
theorem dX3_objection_150 : decode cX3_objection 150 = .ok (.aload_n 0, 1) := by decide +kernel
theorem dX3_objection_151 : decode cX3_objection 151 = .ok (.getfield 19, 3) := by decide +kernel
theorem dX3_objection_154 : decode cX3_objection 154 = .ok (.bipush 32, 2) := by decide +kernel
theorem dX3_objection_156 : decode cX3_objection 156 = .ok (.iload_n 2, 1) := by decide +kernel
theorem dX3_objection_157 : decode cX3_objection 157 = .ok (.imul, 1) := by decide +kernel
theorem dX3_objection_158 : decode cX3_objection 158 = .ok (.iload_n 3, 1) := by decide +kernel
theorem dX3_objection_159 : decode cX3_objection 159 = .ok (.iadd, 1) := by decide +kernel
theorem dX3_objection_160 : decode cX3_objection 160 = .ok (.iaload, 1) := by decide +kernel
theorem dX3_objection_161 : decode cX3_objection 161 = .ok (.ifCond .ge 6, 3) := by decide +kernel
theorem dX3_objection_164 : decode cX3_objection 164 = .ok (.bipush (-2), 2) := by decide +kernel
theorem dX3_objection_166 : decode cX3_objection 166 = .ok (.ireturn, 1) := by decide +kernel
theorem dX3_objection_167 : decode cX3_objection 167 = .ok (.aload_n 0, 1) := by decide +kernel
theorem dX3_objection_168 : decode cX3_objection 168 = .ok (.aload_n 0, 1) := by decide +kernel
theorem dX3_objection_169 : decode cX3_objection 169 = .ok (.getfield 19, 3) := by decide +kernel
theorem dX3_objection_172 : decode cX3_objection 172 = .ok (.bipush 32, 2) := by decide +kernel
theorem dX3_objection_174 : decode cX3_objection 174 = .ok (.iload_n 2, 1) := by decide +kernel
theorem dX3_objection_175 : decode cX3_objection 175 = .ok (.imul, 1) := by decide +kernel
theorem dX3_objection_176 : decode cX3_objection 176 = .ok (.iload_n 3, 1) := by decide +kernel
theorem dX3_objection_177 : decode cX3_objection 177 = .ok (.iadd, 1) := by decide +kernel
theorem dX3_objection_178 : decode cX3_objection 178 = .ok (.iaload, 1) := by decide +kernel
theorem dX3_objection_179 : decode cX3_objection 179 = .ok (.invokevirtual 36, 3) := by decide +kernel
theorem dX3_objection_182 : decode cX3_objection 182 = .ok (.ifCond .eq 26, 3) := by decide +kernel
theorem dX3_objection_185 : decode cX3_objection 185 = .ok (.aload_n 0, 1) := by decide +kernel
theorem dX3_objection_186 : decode cX3_objection 186 = .ok (.aload_n 0, 1) := by decide +kernel
theorem dX3_objection_187 : decode cX3_objection 187 = .ok (.getfield 19, 3) := by decide +kernel
theorem dX3_objection_190 : decode cX3_objection 190 = .ok (.bipush 32, 2) := by decide +kernel
theorem dX3_objection_192 : decode cX3_objection 192 = .ok (.iload_n 2, 1) := by decide +kernel
theorem dX3_objection_193 : decode cX3_objection 193 = .ok (.imul, 1) := by decide +kernel
theorem dX3_objection_194 : decode cX3_objection 194 = .ok (.iload_n 3, 1) := by decide +kernel
theorem dX3_objection_195 : decode cX3_objection 195 = .ok (.iadd, 1) := by decide +kernel
theorem dX3_objection_196 : decode cX3_objection 196 = .ok (.iaload, 1) := by decide +kernel
theorem dX3_objection_197 : decode cX3_objection 197 = .ok (.invokevirtual 40, 3) := by decide +kernel
theorem dX3_objection_200 : decode cX3_objection 200 = .ok (.ifCond .le 8, 3) := by decide +kernel
theorem dX3_objection_203 : decode cX3_objection 203 = .ok (.bipush (-4), 2) := by decide +kernel
theorem dX3_objection_205 : decode cX3_objection 205 = .ok (.goto 4, 3) := by decide +kernel
theorem dX3_objection_208 : decode cX3_objection 208 = .ok (.iconst 0, 1) := by decide +kernel
theorem dX3_objection_209 : decode cX3_objection 209 = .ok (.ireturn, 1) := by decide +kernel
theorem dX3_objection_210 : decode cX3_objection 210 = .ok (.aload_n 0, 1) := by decide +kernel
theorem dX3_objection_211 : decode cX3_objection 211 = .ok (.iload_n 2, 1) := by decide +kernel
theorem dX3_objection_212 : decode cX3_objection 212 = .ok (.invokevirtual 36, 3) := by decide +kernel
theorem dX3_objection_215 : decode cX3_objection 215 = .ok (.ifCond .eq 26, 3) := by decide +kernel
theorem dX3_objection_218 : decode cX3_objection 218 = .ok (.aload_n 0, 1) := by decide +kernel
theorem dX3_objection_219 : decode cX3_objection 219 = .ok (.iload 4, 2) := by decide +kernel
theorem dX3_objection_221 : decode cX3_objection 221 = .ok (.invokevirtual 36, 3) := by decide +kernel
theorem dX3_objection_224 : decode cX3_objection 224 = .ok (.ifCond .eq 17, 3) := by decide +kernel
theorem dX3_objection_227 : decode cX3_objection 227 = .ok (.aload_n 0, 1) := by decide +kernel
theorem dX3_objection_228 : decode cX3_objection 228 = .ok (.getfield 19, 3) := by decide +kernel
theorem dX3_objection_231 : decode cX3_objection 231 = .ok (.bipush 32, 2) := by decide +kernel
theorem dX3_objection_233 : decode cX3_objection 233 = .ok (.iload_n 2, 1) := by decide +kernel
theorem dX3_objection_234 : decode cX3_objection 234 = .ok (.imul, 1) := by decide +kernel
theorem dX3_objection_235 : decode cX3_objection 235 = .ok (.iload_n 3, 1) := by decide +kernel
theorem dX3_objection_236 : decode cX3_objection 236 = .ok (.iadd, 1) := by decide +kernel
theorem dX3_objection_237 : decode cX3_objection 237 = .ok (.iaload, 1) := by decide +kernel
theorem dX3_objection_238 : decode cX3_objection 238 = .ok (.ifCond .ge 6, 3) := by decide +kernel
theorem dX3_objection_241 : decode cX3_objection 241 = .ok (.bipush (-2), 2) := by decide +kernel
theorem dX3_objection_243 : decode cX3_objection 243 = .ok (.ireturn, 1) := by decide +kernel
theorem dX3_objection_244 : decode cX3_objection 244 = .ok (.aload_n 0, 1) := by decide +kernel
theorem dX3_objection_245 : decode cX3_objection 245 = .ok (.getfield 19, 3) := by decide +kernel
theorem dX3_objection_248 : decode cX3_objection 248 = .ok (.bipush 32, 2) := by decide +kernel
theorem dX3_objection_250 : decode cX3_objection 250 = .ok (.iload 4, 2) := by decide +kernel
theorem dX3_objection_252 : decode cX3_objection 252 = .ok (.imul, 1) := by decide +kernel
theorem dX3_objection_253 : decode cX3_objection 253 = .ok (.iload 5, 2) := by decide +kernel
theorem dX3_objection_255 : decode cX3_objection 255 = .ok (.iadd, 1) := by decide +kernel
theorem dX3_objection_256 : decode cX3_objection 256 = .ok (.iaload, 1) := by decide +kernel
theorem dX3_objection_257 : decode cX3_objection 257 = .ok (.ifCond .lt 6, 3) := by decide +kernel
theorem dX3_objection_260 : decode cX3_objection 260 = .ok (.bipush (-3), 2) := by decide +kernel
theorem dX3_objection_262 : decode cX3_objection 262 = .ok (.ireturn, 1) := by decide +kernel
theorem dX3_objection_263 : decode cX3_objection 263 = .ok (.aload_n 0, 1) := by decide +kernel
theorem dX3_objection_264 : decode cX3_objection 264 = .ok (.aload_n 0, 1) := by decide +kernel
theorem dX3_objection_265 : decode cX3_objection 265 = .ok (.getfield 19, 3) := by decide +kernel
theorem dX3_objection_268 : decode cX3_objection 268 = .ok (.bipush 32, 2) := by decide +kernel
theorem dX3_objection_270 : decode cX3_objection 270 = .ok (.iload_n 2, 1) := by decide +kernel
theorem dX3_objection_271 : decode cX3_objection 271 = .ok (.imul, 1) := by decide +kernel
theorem dX3_objection_272 : decode cX3_objection 272 = .ok (.iload_n 3, 1) := by decide +kernel
theorem dX3_objection_273 : decode cX3_objection 273 = .ok (.iadd, 1) := by decide +kernel
theorem dX3_objection_274 : decode cX3_objection 274 = .ok (.iaload, 1) := by decide +kernel
theorem dX3_objection_275 : decode cX3_objection 275 = .ok (.invokevirtual 36, 3) := by decide +kernel
theorem dX3_objection_278 : decode cX3_objection 278 = .ok (.ifCond .eq 25, 3) := by decide +kernel
theorem dX3_objection_281 : decode cX3_objection 281 = .ok (.aload_n 0, 1) := by decide +kernel
theorem dX3_objection_282 : decode cX3_objection 282 = .ok (.iload 4, 2) := by decide +kernel
theorem dX3_objection_284 : decode cX3_objection 284 = .ok (.aload_n 0, 1) := by decide +kernel
theorem dX3_objection_285 : decode cX3_objection 285 = .ok (.getfield 19, 3) := by decide +kernel
theorem dX3_objection_288 : decode cX3_objection 288 = .ok (.bipush 32, 2) := by decide +kernel
theorem dX3_objection_290 : decode cX3_objection 290 = .ok (.iload_n 2, 1) := by decide +kernel
theorem dX3_objection_291 : decode cX3_objection 291 = .ok (.imul, 1) := by decide +kernel
theorem dX3_objection_292 : decode cX3_objection 292 = .ok (.iload_n 3, 1) := by decide +kernel
theorem dX3_objection_293 : decode cX3_objection 293 = .ok (.iadd, 1) := by decide +kernel
theorem dX3_objection_294 : decode cX3_objection 294 = .ok (.iaload, 1) := by decide +kernel
theorem dX3_objection_295 : decode cX3_objection 295 = .ok (.invokevirtual 48, 3) := by decide +kernel
theorem dX3_objection_298 : decode cX3_objection 298 = .ok (.ifCond .eq 5, 3) := by decide +kernel
theorem dX3_objection_301 : decode cX3_objection 301 = .ok (.iconst (-1), 1) := by decide +kernel
theorem dX3_objection_302 : decode cX3_objection 302 = .ok (.ireturn, 1) := by decide +kernel
theorem dX3_objection_303 : decode cX3_objection 303 = .ok (.iload 4, 2) := by decide +kernel
theorem dX3_objection_305 : decode cX3_objection 305 = .ok (.iload_n 2, 1) := by decide +kernel
theorem dX3_objection_306 : decode cX3_objection 306 = .ok (.if_icmp .eq 19, 3) := by decide +kernel
theorem dX3_objection_309 : decode cX3_objection 309 = .ok (.aload_n 0, 1) := by decide +kernel
theorem dX3_objection_310 : decode cX3_objection 310 = .ok (.iload 4, 2) := by decide +kernel
theorem dX3_objection_312 : decode cX3_objection 312 = .ok (.invokevirtual 40, 3) := by decide +kernel
theorem dX3_objection_315 : decode cX3_objection 315 = .ok (.bipush 8, 2) := by decide +kernel
theorem dX3_objection_317 : decode cX3_objection 317 = .ok (.if_icmp .ne 8, 3) := by decide +kernel
theorem dX3_objection_320 : decode cX3_objection 320 = .ok (.bipush (-5), 2) := by decide +kernel
theorem dX3_objection_322 : decode cX3_objection 322 = .ok (.goto 4, 3) := by decide +kernel
theorem dX3_objection_325 : decode cX3_objection 325 = .ok (.iconst 0, 1) := by decide +kernel
theorem dX3_objection_326 : decode cX3_objection 326 = .ok (.ireturn, 1) := by decide +kernel
theorem dX3_objection_327 : decode cX3_objection 327 = .ok (.aload_n 0, 1) := by decide +kernel
theorem dX3_objection_328 : decode cX3_objection 328 = .ok (.getfield 7, 3) := by decide +kernel
theorem dX3_objection_331 : decode cX3_objection 331 = .ok (.iload_n 2, 1) := by decide +kernel
theorem dX3_objection_332 : decode cX3_objection 332 = .ok (.iaload, 1) := by decide +kernel
theorem dX3_objection_333 : decode cX3_objection 333 = .ok (.iconst 1, 1) := by decide +kernel
theorem dX3_objection_334 : decode cX3_objection 334 = .ok (.if_icmp .eq 6, 3) := by decide +kernel
theorem dX3_objection_337 : decode cX3_objection 337 = .ok (.bipush (-2), 2) := by decide +kernel
theorem dX3_objection_339 : decode cX3_objection 339 = .ok (.ireturn, 1) := by decide +kernel
theorem dX3_objection_340 : decode cX3_objection 340 = .ok (.iload_n 3, 1) := by decide +kernel
theorem dX3_objection_341 : decode cX3_objection 341 = .ok (.aload_n 0, 1) := by decide +kernel
theorem dX3_objection_342 : decode cX3_objection 342 = .ok (.getfield 13, 3) := by decide +kernel
theorem dX3_objection_345 : decode cX3_objection 345 = .ok (.iload_n 2, 1) := by decide +kernel
theorem dX3_objection_346 : decode cX3_objection 346 = .ok (.iaload, 1) := by decide +kernel
theorem dX3_objection_347 : decode cX3_objection 347 = .ok (.if_icmp .le 7, 3) := by decide +kernel
theorem dX3_objection_350 : decode cX3_objection 350 = .ok (.iconst (-1), 1) := by decide +kernel
theorem dX3_objection_351 : decode cX3_objection 351 = .ok (.goto 4, 3) := by decide +kernel
theorem dX3_objection_354 : decode cX3_objection 354 = .ok (.iconst 0, 1) := by decide +kernel
theorem dX3_objection_355 : decode cX3_objection 355 = .ok (.ireturn, 1) := by decide +kernel
theorem dX3_cost_0 : decode cX3_cost 0 = .ok (.iload_n 1, 1) := by decide +kernel
theorem dX3_cost_1 : decode cX3_cost 1 = .ok (.iconst 2, 1) := by decide +kernel
theorem dX3_cost_2 : decode cX3_cost 2 = .ok (.if_icmp .ne 50, 3) := by decide +kernel
theorem dX3_cost_5 : decode cX3_cost 5 = .ok (.iconst 2, 1) := by decide +kernel
theorem dX3_cost_6 : decode cX3_cost 6 = .ok (.aload_n 0, 1) := by decide +kernel
theorem dX3_cost_7 : decode cX3_cost 7 = .ok (.getfield 7, 3) := by decide +kernel
theorem dX3_cost_10 : decode cX3_cost 10 = .ok (.aload_n 0, 1) := by decide +kernel
theorem dX3_cost_11 : decode cX3_cost 11 = .ok (.getfield 19, 3) := by decide +kernel
theorem dX3_cost_14 : decode cX3_cost 14 = .ok (.bipush 32, 2) := by decide +kernel
theorem dX3_cost_16 : decode cX3_cost 16 = .ok (.iload_n 2, 1) := by decide +kernel
theorem dX3_cost_17 : decode cX3_cost 17 = .ok (.imul, 1) := by decide +kernel
theorem dX3_cost_18 : decode cX3_cost 18 = .ok (.iload_n 3, 1) := by decide +kernel
theorem dX3_cost_19 : decode cX3_cost 19 = .ok (.iadd, 1) := by decide +kernel
theorem dX3_cost_20 : decode cX3_cost 20 = .ok (.iaload, 1) := by decide +kernel
theorem dX3_cost_21 : decode cX3_cost 21 = .ok (.iaload, 1) := by decide +kernel
theorem dX3_cost_22 : decode cX3_cost 22 = .ok (.iconst 1, 1) := by decide +kernel
theorem dX3_cost_23 : decode cX3_cost 23 = .ok (.if_icmp .ne 26, 3) := by decide +kernel
theorem dX3_cost_26 : decode cX3_cost 26 = .ok (.aload_n 0, 1) := by decide +kernel
theorem dX3_cost_27 : decode cX3_cost 27 = .ok (.aload_n 0, 1) := by decide +kernel
theorem dX3_cost_28 : decode cX3_cost 28 = .ok (.getfield 19, 3) := by decide +kernel
theorem dX3_cost_31 : decode cX3_cost 31 = .ok (.bipush 32, 2) := by decide +kernel
theorem dX3_cost_33 : decode cX3_cost 33 = .ok (.iload_n 2, 1) := by decide +kernel
theorem dX3_cost_34 : decode cX3_cost 34 = .ok (.imul, 1) := by decide +kernel
theorem dX3_cost_35 : decode cX3_cost 35 = .ok (.iload_n 3, 1) := by decide +kernel
theorem dX3_cost_36 : decode cX3_cost 36 = .ok (.iadd, 1) := by decide +kernel
theorem dX3_cost_37 : decode cX3_cost 37 = .ok (.iaload, 1) := by decide +kernel
theorem dX3_cost_38 : decode cX3_cost 38 = .ok (.invokevirtual 52, 3) := by decide +kernel
theorem dX3_cost_41 : decode cX3_cost 41 = .ok (.iconst 1, 1) := by decide +kernel
theorem dX3_cost_42 : decode cX3_cost 42 = .ok (.if_icmp .le 7, 3) := by decide +kernel
theorem dX3_cost_45 : decode cX3_cost 45 = .ok (.iconst 1, 1) := by decide +kernel
theorem dX3_cost_46 : decode cX3_cost 46 = .ok (.goto 4, 3) := by decide +kernel
theorem dX3_cost_49 : decode cX3_cost 49 = .ok (.iconst 0, 1) := by decide +kernel
theorem dX3_cost_50 : decode cX3_cost 50 = .ok (.iadd, 1) := by decide +kernel
theorem dX3_cost_51 : decode cX3_cost 51 = .ok (.ireturn, 1) := by decide +kernel
theorem dX3_cost_52 : decode cX3_cost 52 = .ok (.iload_n 1, 1) := by decide +kernel
theorem dX3_cost_53 : decode cX3_cost 53 = .ok (.iconst 3, 1) := by decide +kernel
theorem dX3_cost_54 : decode cX3_cost 54 = .ok (.if_icmp .ne 15, 3) := by decide +kernel
theorem dX3_cost_57 : decode cX3_cost 57 = .ok (.iload_n 2, 1) := by decide +kernel
theorem dX3_cost_58 : decode cX3_cost 58 = .ok (.iload 4, 2) := by decide +kernel
theorem dX3_cost_60 : decode cX3_cost 60 = .ok (.if_icmp .ne 7, 3) := by decide +kernel
theorem dX3_cost_63 : decode cX3_cost 63 = .ok (.iconst 2, 1) := by decide +kernel
theorem dX3_cost_64 : decode cX3_cost 64 = .ok (.goto 4, 3) := by decide +kernel
theorem dX3_cost_67 : decode cX3_cost 67 = .ok (.iconst 3, 1) := by decide +kernel
theorem dX3_cost_68 : decode cX3_cost 68 = .ok (.ireturn, 1) := by decide +kernel
theorem dX3_cost_69 : decode cX3_cost 69 = .ok (.iload_n 1, 1) := by decide +kernel
theorem dX3_cost_70 : decode cX3_cost 70 = .ok (.iconst 5, 1) := by decide +kernel
theorem dX3_cost_71 : decode cX3_cost 71 = .ok (.if_icmp .ne 7, 3) := by decide +kernel
theorem dX3_cost_74 : decode cX3_cost 74 = .ok (.iconst 2, 1) := by decide +kernel
theorem dX3_cost_75 : decode cX3_cost 75 = .ok (.goto 4, 3) := by decide +kernel
theorem dX3_cost_78 : decode cX3_cost 78 = .ok (.iconst 3, 1) := by decide +kernel
theorem dX3_cost_79 : decode cX3_cost 79 = .ok (.ireturn, 1) := by decide +kernel
theorem dX3_perform_0 : decode cX3_perform 0 = .ok (.iconst 0, 1) := by decide +kernel
theorem dX3_perform_1 : decode cX3_perform 1 = .ok (.istore 6, 2) := by decide +kernel
theorem dX3_perform_3 : decode cX3_perform 3 = .ok (.iload_n 1, 1) := by decide +kernel
theorem dX3_perform_4 : decode cX3_perform 4 = .ok (.tableswitch 211 0 4 #[36, 75, 90, 134, 176], 36) := by decide +kernel
theorem dX3_perform_40 : decode cX3_perform 40 = .ok (.aload_n 0, 1) := by decide +kernel
theorem dX3_perform_41 : decode cX3_perform 41 = .ok (.invokevirtual 55, 3) := by decide +kernel
theorem dX3_perform_44 : decode cX3_perform 44 = .ok (.istore 6, 2) := by decide +kernel
theorem dX3_perform_46 : decode cX3_perform 46 = .ok (.aload_n 0, 1) := by decide +kernel
theorem dX3_perform_47 : decode cX3_perform 47 = .ok (.getfield 7, 3) := by decide +kernel
theorem dX3_perform_50 : decode cX3_perform 50 = .ok (.iload 6, 2) := by decide +kernel
theorem dX3_perform_52 : decode cX3_perform 52 = .ok (.iload 4, 2) := by decide +kernel
theorem dX3_perform_54 : decode cX3_perform 54 = .ok (.iastore, 1) := by decide +kernel
theorem dX3_perform_55 : decode cX3_perform 55 = .ok (.aload_n 0, 1) := by decide +kernel
theorem dX3_perform_56 : decode cX3_perform 56 = .ok (.getfield 13, 3) := by decide +kernel
theorem dX3_perform_59 : decode cX3_perform 59 = .ok (.iload 6, 2) := by decide +kernel
theorem dX3_perform_61 : decode cX3_perform 61 = .ok (.iconst 0, 1) := by decide +kernel
theorem dX3_perform_62 : decode cX3_perform 62 = .ok (.iastore, 1) := by decide +kernel
theorem dX3_perform_63 : decode cX3_perform 63 = .ok (.aload_n 0, 1) := by decide +kernel
theorem dX3_perform_64 : decode cX3_perform 64 = .ok (.getfield 19, 3) := by decide +kernel
theorem dX3_perform_67 : decode cX3_perform 67 = .ok (.bipush 32, 2) := by decide +kernel
theorem dX3_perform_69 : decode cX3_perform 69 = .ok (.iload_n 2, 1) := by decide +kernel
theorem dX3_perform_70 : decode cX3_perform 70 = .ok (.imul, 1) := by decide +kernel
theorem dX3_perform_71 : decode cX3_perform 71 = .ok (.iload_n 3, 1) := by decide +kernel
theorem dX3_perform_72 : decode cX3_perform 72 = .ok (.iadd, 1) := by decide +kernel
theorem dX3_perform_73 : decode cX3_perform 73 = .ok (.iload 6, 2) := by decide +kernel
theorem dX3_perform_75 : decode cX3_perform 75 = .ok (.iastore, 1) := by decide +kernel
theorem dX3_perform_76 : decode cX3_perform 76 = .ok (.iload 6, 2) := by decide +kernel
theorem dX3_perform_78 : decode cX3_perform 78 = .ok (.ireturn, 1) := by decide +kernel
theorem dX3_perform_79 : decode cX3_perform 79 = .ok (.aload_n 0, 1) := by decide +kernel
theorem dX3_perform_80 : decode cX3_perform 80 = .ok (.getfield 19, 3) := by decide +kernel
theorem dX3_perform_83 : decode cX3_perform 83 = .ok (.bipush 32, 2) := by decide +kernel
theorem dX3_perform_85 : decode cX3_perform 85 = .ok (.iload_n 2, 1) := by decide +kernel
theorem dX3_perform_86 : decode cX3_perform 86 = .ok (.imul, 1) := by decide +kernel
theorem dX3_perform_87 : decode cX3_perform 87 = .ok (.iload_n 3, 1) := by decide +kernel
theorem dX3_perform_88 : decode cX3_perform 88 = .ok (.iadd, 1) := by decide +kernel
theorem dX3_perform_89 : decode cX3_perform 89 = .ok (.iload 4, 2) := by decide +kernel
theorem dX3_perform_91 : decode cX3_perform 91 = .ok (.iastore, 1) := by decide +kernel
theorem dX3_perform_92 : decode cX3_perform 92 = .ok (.iconst 0, 1) := by decide +kernel
theorem dX3_perform_93 : decode cX3_perform 93 = .ok (.ireturn, 1) := by decide +kernel
theorem dX3_perform_94 : decode cX3_perform 94 = .ok (.aload_n 0, 1) := by decide +kernel
theorem dX3_perform_95 : decode cX3_perform 95 = .ok (.getfield 19, 3) := by decide +kernel
theorem dX3_perform_98 : decode cX3_perform 98 = .ok (.bipush 32, 2) := by decide +kernel
theorem dX3_perform_100 : decode cX3_perform 100 = .ok (.iload_n 2, 1) := by decide +kernel
theorem dX3_perform_101 : decode cX3_perform 101 = .ok (.imul, 1) := by decide +kernel
theorem dX3_perform_102 : decode cX3_perform 102 = .ok (.iload_n 3, 1) := by decide +kernel
theorem dX3_perform_103 : decode cX3_perform 103 = .ok (.iadd, 1) := by decide +kernel
theorem dX3_perform_104 : decode cX3_perform 104 = .ok (.iaload, 1) := by decide +kernel
theorem dX3_perform_105 : decode cX3_perform 105 = .ok (.istore 6, 2) := by decide +kernel
theorem dX3_perform_107 : decode cX3_perform 107 = .ok (.aload_n 0, 1) := by decide +kernel
theorem dX3_perform_108 : decode cX3_perform 108 = .ok (.getfield 19, 3) := by decide +kernel
theorem dX3_perform_111 : decode cX3_perform 111 = .ok (.bipush 32, 2) := by decide +kernel
theorem dX3_perform_113 : decode cX3_perform 113 = .ok (.iload_n 2, 1) := by decide +kernel
theorem dX3_perform_114 : decode cX3_perform 114 = .ok (.imul, 1) := by decide +kernel
theorem dX3_perform_115 : decode cX3_perform 115 = .ok (.iload_n 3, 1) := by decide +kernel
theorem dX3_perform_116 : decode cX3_perform 116 = .ok (.iadd, 1) := by decide +kernel
theorem dX3_perform_117 : decode cX3_perform 117 = .ok (.iconst (-1), 1) := by decide +kernel
theorem dX3_perform_118 : decode cX3_perform 118 = .ok (.iastore, 1) := by decide +kernel
theorem dX3_perform_119 : decode cX3_perform 119 = .ok (.aload_n 0, 1) := by decide +kernel
theorem dX3_perform_120 : decode cX3_perform 120 = .ok (.iload 6, 2) := by decide +kernel
theorem dX3_perform_122 : decode cX3_perform 122 = .ok (.invokevirtual 52, 3) := by decide +kernel
theorem dX3_perform_125 : decode cX3_perform 125 = .ok (.ifCond .ne 11, 3) := by decide +kernel
theorem dX3_perform_128 : decode cX3_perform 128 = .ok (.aload_n 0, 1) := by decide +kernel
theorem dX3_perform_129 : decode cX3_perform 129 = .ok (.getfield 7, 3) := by decide +kernel
theorem dX3_perform_132 : decode cX3_perform 132 = .ok (.iload 6, 2) := by decide +kernel
theorem dX3_perform_134 : decode cX3_perform 134 = .ok (.iconst 0, 1) := by decide +kernel
theorem dX3_perform_135 : decode cX3_perform 135 = .ok (.iastore, 1) := by decide +kernel
theorem dX3_perform_136 : decode cX3_perform 136 = .ok (.iconst 0, 1) := by decide +kernel
theorem dX3_perform_137 : decode cX3_perform 137 = .ok (.ireturn, 1) := by decide +kernel
theorem dX3_perform_138 : decode cX3_perform 138 = .ok (.aload_n 0, 1) := by decide +kernel
theorem dX3_perform_139 : decode cX3_perform 139 = .ok (.getfield 19, 3) := by decide +kernel
theorem dX3_perform_142 : decode cX3_perform 142 = .ok (.bipush 32, 2) := by decide +kernel
theorem dX3_perform_144 : decode cX3_perform 144 = .ok (.iload_n 2, 1) := by decide +kernel
theorem dX3_perform_145 : decode cX3_perform 145 = .ok (.imul, 1) := by decide +kernel
theorem dX3_perform_146 : decode cX3_perform 146 = .ok (.iload_n 3, 1) := by decide +kernel
theorem dX3_perform_147 : decode cX3_perform 147 = .ok (.iadd, 1) := by decide +kernel
theorem dX3_perform_148 : decode cX3_perform 148 = .ok (.iaload, 1) := by decide +kernel
theorem dX3_perform_149 : decode cX3_perform 149 = .ok (.istore 6, 2) := by decide +kernel
theorem dX3_perform_151 : decode cX3_perform 151 = .ok (.aload_n 0, 1) := by decide +kernel
theorem dX3_perform_152 : decode cX3_perform 152 = .ok (.getfield 19, 3) := by decide +kernel
theorem dX3_perform_155 : decode cX3_perform 155 = .ok (.bipush 32, 2) := by decide +kernel
theorem dX3_perform_157 : decode cX3_perform 157 = .ok (.iload_n 2, 1) := by decide +kernel
theorem dX3_perform_158 : decode cX3_perform 158 = .ok (.imul, 1) := by decide +kernel
theorem dX3_perform_159 : decode cX3_perform 159 = .ok (.iload_n 3, 1) := by decide +kernel
theorem dX3_perform_160 : decode cX3_perform 160 = .ok (.iadd, 1) := by decide +kernel
theorem dX3_perform_161 : decode cX3_perform 161 = .ok (.iconst (-1), 1) := by decide +kernel
theorem dX3_perform_162 : decode cX3_perform 162 = .ok (.iastore, 1) := by decide +kernel
theorem dX3_perform_163 : decode cX3_perform 163 = .ok (.aload_n 0, 1) := by decide +kernel
theorem dX3_perform_164 : decode cX3_perform 164 = .ok (.getfield 19, 3) := by decide +kernel
theorem dX3_perform_167 : decode cX3_perform 167 = .ok (.bipush 32, 2) := by decide +kernel
theorem dX3_perform_169 : decode cX3_perform 169 = .ok (.iload 4, 2) := by decide +kernel
theorem dX3_perform_171 : decode cX3_perform 171 = .ok (.imul, 1) := by decide +kernel
theorem dX3_perform_172 : decode cX3_perform 172 = .ok (.iload 5, 2) := by decide +kernel
theorem dX3_perform_174 : decode cX3_perform 174 = .ok (.iadd, 1) := by decide +kernel
theorem dX3_perform_175 : decode cX3_perform 175 = .ok (.iload 6, 2) := by decide +kernel
theorem dX3_perform_177 : decode cX3_perform 177 = .ok (.iastore, 1) := by decide +kernel
theorem dX3_perform_178 : decode cX3_perform 178 = .ok (.iconst 0, 1) := by decide +kernel
theorem dX3_perform_179 : decode cX3_perform 179 = .ok (.ireturn, 1) := by decide +kernel
theorem dX3_perform_180 : decode cX3_perform 180 = .ok (.aload_n 0, 1) := by decide +kernel
theorem dX3_perform_181 : decode cX3_perform 181 = .ok (.getfield 16, 3) := by decide +kernel
theorem dX3_perform_184 : decode cX3_perform 184 = .ok (.bipush 8, 2) := by decide +kernel
theorem dX3_perform_186 : decode cX3_perform 186 = .ok (.iload_n 2, 1) := by decide +kernel
theorem dX3_perform_187 : decode cX3_perform 187 = .ok (.imul, 1) := by decide +kernel
theorem dX3_perform_188 : decode cX3_perform 188 = .ok (.iload_n 3, 1) := by decide +kernel
theorem dX3_perform_189 : decode cX3_perform 189 = .ok (.iadd, 1) := by decide +kernel
theorem dX3_perform_190 : decode cX3_perform 190 = .ok (.iload 4, 2) := by decide +kernel
theorem dX3_perform_192 : decode cX3_perform 192 = .ok (.iastore, 1) := by decide +kernel
theorem dX3_perform_193 : decode cX3_perform 193 = .ok (.iload_n 3, 1) := by decide +kernel
theorem dX3_perform_194 : decode cX3_perform 194 = .ok (.aload_n 0, 1) := by decide +kernel
theorem dX3_perform_195 : decode cX3_perform 195 = .ok (.getfield 13, 3) := by decide +kernel
theorem dX3_perform_198 : decode cX3_perform 198 = .ok (.iload_n 2, 1) := by decide +kernel
theorem dX3_perform_199 : decode cX3_perform 199 = .ok (.iaload, 1) := by decide +kernel
theorem dX3_perform_200 : decode cX3_perform 200 = .ok (.if_icmp .ne 13, 3) := by decide +kernel
theorem dX3_perform_203 : decode cX3_perform 203 = .ok (.aload_n 0, 1) := by decide +kernel
theorem dX3_perform_204 : decode cX3_perform 204 = .ok (.getfield 13, 3) := by decide +kernel
theorem dX3_perform_207 : decode cX3_perform 207 = .ok (.iload_n 2, 1) := by decide +kernel
theorem dX3_perform_208 : decode cX3_perform 208 = .ok (.dup2, 1) := by decide +kernel
theorem dX3_perform_209 : decode cX3_perform 209 = .ok (.iaload, 1) := by decide +kernel
theorem dX3_perform_210 : decode cX3_perform 210 = .ok (.iconst 1, 1) := by decide +kernel
theorem dX3_perform_211 : decode cX3_perform 211 = .ok (.iadd, 1) := by decide +kernel
theorem dX3_perform_212 : decode cX3_perform 212 = .ok (.iastore, 1) := by decide +kernel
theorem dX3_perform_213 : decode cX3_perform 213 = .ok (.iconst 0, 1) := by decide +kernel
theorem dX3_perform_214 : decode cX3_perform 214 = .ok (.ireturn, 1) := by decide +kernel
theorem dX3_perform_215 : decode cX3_perform 215 = .ok (.aload_n 0, 1) := by decide +kernel
theorem dX3_perform_216 : decode cX3_perform 216 = .ok (.getfield 13, 3) := by decide +kernel
theorem dX3_perform_219 : decode cX3_perform 219 = .ok (.iload_n 2, 1) := by decide +kernel
theorem dX3_perform_220 : decode cX3_perform 220 = .ok (.iload_n 3, 1) := by decide +kernel
theorem dX3_perform_221 : decode cX3_perform 221 = .ok (.iastore, 1) := by decide +kernel
theorem dX3_perform_222 : decode cX3_perform 222 = .ok (.iconst 0, 1) := by decide +kernel
theorem dX3_perform_223 : decode cX3_perform 223 = .ok (.ireturn, 1) := by decide +kernel
theorem dX3_settle_0 : decode cX3_settle 0 = .ok (.aload_n 0, 1) := by decide +kernel
theorem dX3_settle_1 : decode cX3_settle 1 = .ok (.iconst 0, 1) := by decide +kernel
theorem dX3_settle_2 : decode cX3_settle 2 = .ok (.iconst 1, 1) := by decide +kernel
theorem dX3_settle_3 : decode cX3_settle 3 = .ok (.invokevirtual 32, 3) := by decide +kernel
theorem dX3_settle_6 : decode cX3_settle 6 = .ok (.aload_n 0, 1) := by decide +kernel
theorem dX3_settle_7 : decode cX3_settle 7 = .ok (.iconst 0, 1) := by decide +kernel
theorem dX3_settle_8 : decode cX3_settle 8 = .ok (.putfield 58, 3) := by decide +kernel
theorem dX3_settle_11 : decode cX3_settle 11 = .ok (.aload_n 0, 1) := by decide +kernel
theorem dX3_settle_12 : decode cX3_settle 12 = .ok (.aload_n 0, 1) := by decide +kernel
theorem dX3_settle_13 : decode cX3_settle 13 = .ok (.invokevirtual 61, 3) := by decide +kernel
theorem dX3_settle_16 : decode cX3_settle 16 = .ok (.putfield 22, 3) := by decide +kernel
theorem dX3_settle_19 : decode cX3_settle 19 = .ok (.return_, 1) := by decide +kernel
theorem dX3_attempt_0 : decode cX3_attempt 0 = .ok (.aload_n 0, 1) := by decide +kernel
theorem dX3_attempt_1 : decode cX3_attempt 1 = .ok (.iload_n 1, 1) := by decide +kernel
theorem dX3_attempt_2 : decode cX3_attempt 2 = .ok (.iload_n 2, 1) := by decide +kernel
theorem dX3_attempt_3 : decode cX3_attempt 3 = .ok (.iload_n 3, 1) := by decide +kernel
theorem dX3_attempt_4 : decode cX3_attempt 4 = .ok (.iload 4, 2) := by decide +kernel
theorem dX3_attempt_6 : decode cX3_attempt 6 = .ok (.iload 5, 2) := by decide +kernel
theorem dX3_attempt_8 : decode cX3_attempt 8 = .ok (.invokevirtual 64, 3) := by decide +kernel
theorem dX3_attempt_11 : decode cX3_attempt 11 = .ok (.istore 6, 2) := by decide +kernel
theorem dX3_attempt_13 : decode cX3_attempt 13 = .ok (.iload 6, 2) := by decide +kernel
theorem dX3_attempt_15 : decode cX3_attempt 15 = .ok (.ifCond .eq 6, 3) := by decide +kernel
theorem dX3_attempt_18 : decode cX3_attempt 18 = .ok (.iload 6, 2) := by decide +kernel
theorem dX3_attempt_20 : decode cX3_attempt 20 = .ok (.ireturn, 1) := by decide +kernel
theorem dX3_attempt_21 : decode cX3_attempt 21 = .ok (.aload_n 0, 1) := by decide +kernel
theorem dX3_attempt_22 : decode cX3_attempt 22 = .ok (.iload_n 1, 1) := by decide +kernel
theorem dX3_attempt_23 : decode cX3_attempt 23 = .ok (.iload_n 2, 1) := by decide +kernel
theorem dX3_attempt_24 : decode cX3_attempt 24 = .ok (.iload_n 3, 1) := by decide +kernel
theorem dX3_attempt_25 : decode cX3_attempt 25 = .ok (.iload 4, 2) := by decide +kernel
theorem dX3_attempt_27 : decode cX3_attempt 27 = .ok (.invokevirtual 68, 3) := by decide +kernel
theorem dX3_attempt_30 : decode cX3_attempt 30 = .ok (.istore 7, 2) := by decide +kernel
theorem dX3_attempt_32 : decode cX3_attempt 32 = .ok (.aload_n 0, 1) := by decide +kernel
theorem dX3_attempt_33 : decode cX3_attempt 33 = .ok (.getfield 22, 3) := by decide +kernel
theorem dX3_attempt_36 : decode cX3_attempt 36 = .ok (.iload 7, 2) := by decide +kernel
theorem dX3_attempt_38 : decode cX3_attempt 38 = .ok (.iadd, 1) := by decide +kernel
theorem dX3_attempt_39 : decode cX3_attempt 39 = .ok (.aload_n 0, 1) := by decide +kernel
theorem dX3_attempt_40 : decode cX3_attempt 40 = .ok (.getfield 29, 3) := by decide +kernel
theorem dX3_attempt_43 : decode cX3_attempt 43 = .ok (.if_icmp .le 8, 3) := by decide +kernel
theorem dX3_attempt_46 : decode cX3_attempt 46 = .ok (.aload_n 0, 1) := by decide +kernel
theorem dX3_attempt_47 : decode cX3_attempt 47 = .ok (.invokevirtual 72, 3) := by decide +kernel
theorem dX3_attempt_50 : decode cX3_attempt 50 = .ok (.pop, 1) := by decide +kernel
theorem dX3_attempt_51 : decode cX3_attempt 51 = .ok (.aload_n 0, 1) := by decide +kernel
theorem dX3_attempt_52 : decode cX3_attempt 52 = .ok (.iconst 0, 1) := by decide +kernel
theorem dX3_attempt_53 : decode cX3_attempt 53 = .ok (.iconst 2, 1) := by decide +kernel
theorem dX3_attempt_54 : decode cX3_attempt 54 = .ok (.invokevirtual 32, 3) := by decide +kernel
theorem dX3_attempt_57 : decode cX3_attempt 57 = .ok (.aload_n 0, 1) := by decide +kernel
theorem dX3_attempt_58 : decode cX3_attempt 58 = .ok (.iload_n 1, 1) := by decide +kernel
theorem dX3_attempt_59 : decode cX3_attempt 59 = .ok (.iload_n 2, 1) := by decide +kernel
theorem dX3_attempt_60 : decode cX3_attempt 60 = .ok (.iload_n 3, 1) := by decide +kernel
theorem dX3_attempt_61 : decode cX3_attempt 61 = .ok (.iload 4, 2) := by decide +kernel
theorem dX3_attempt_63 : decode cX3_attempt 63 = .ok (.iload 5, 2) := by decide +kernel
theorem dX3_attempt_65 : decode cX3_attempt 65 = .ok (.invokevirtual 75, 3) := by decide +kernel
theorem dX3_attempt_68 : decode cX3_attempt 68 = .ok (.istore 8, 2) := by decide +kernel
theorem dX3_attempt_70 : decode cX3_attempt 70 = .ok (.aload_n 0, 1) := by decide +kernel
theorem dX3_attempt_71 : decode cX3_attempt 71 = .ok (.invokevirtual 61, 3) := by decide +kernel
theorem dX3_attempt_74 : decode cX3_attempt 74 = .ok (.aload_n 0, 1) := by decide +kernel
theorem dX3_attempt_75 : decode cX3_attempt 75 = .ok (.getfield 29, 3) := by decide +kernel
theorem dX3_attempt_78 : decode cX3_attempt 78 = .ok (.bipush 8, 2) := by decide +kernel
theorem dX3_attempt_80 : decode cX3_attempt 80 = .ok (.isub, 1) := by decide +kernel
theorem dX3_attempt_81 : decode cX3_attempt 81 = .ok (.if_icmp .le 12, 3) := by decide +kernel
theorem dX3_attempt_84 : decode cX3_attempt 84 = .ok (.aload_n 0, 1) := by decide +kernel
theorem dX3_attempt_85 : decode cX3_attempt 85 = .ok (.iconst 2, 1) := by decide +kernel
theorem dX3_attempt_86 : decode cX3_attempt 86 = .ok (.iconst 0, 1) := by decide +kernel
theorem dX3_attempt_87 : decode cX3_attempt 87 = .ok (.invokevirtual 32, 3) := by decide +kernel
theorem dX3_attempt_90 : decode cX3_attempt 90 = .ok (.bipush (-6), 2) := by decide +kernel
theorem dX3_attempt_92 : decode cX3_attempt 92 = .ok (.ireturn, 1) := by decide +kernel
theorem dX3_attempt_93 : decode cX3_attempt 93 = .ok (.aload_n 0, 1) := by decide +kernel
theorem dX3_attempt_94 : decode cX3_attempt 94 = .ok (.dup, 1) := by decide +kernel
theorem dX3_attempt_95 : decode cX3_attempt 95 = .ok (.getfield 22, 3) := by decide +kernel
theorem dX3_attempt_98 : decode cX3_attempt 98 = .ok (.iload 7, 2) := by decide +kernel
theorem dX3_attempt_100 : decode cX3_attempt 100 = .ok (.iadd, 1) := by decide +kernel
theorem dX3_attempt_101 : decode cX3_attempt 101 = .ok (.putfield 22, 3) := by decide +kernel
theorem dX3_attempt_104 : decode cX3_attempt 104 = .ok (.iconst 5, 1) := by decide +kernel
theorem dX3_attempt_105 : decode cX3_attempt 105 = .ok (.aload_n 0, 1) := by decide +kernel
theorem dX3_attempt_106 : decode cX3_attempt 106 = .ok (.getfield 58, 3) := by decide +kernel
theorem dX3_attempt_109 : decode cX3_attempt 109 = .ok (.imul, 1) := by decide +kernel
theorem dX3_attempt_110 : decode cX3_attempt 110 = .ok (.istore 9, 2) := by decide +kernel
theorem dX3_attempt_112 : decode cX3_attempt 112 = .ok (.aload_n 0, 1) := by decide +kernel
theorem dX3_attempt_113 : decode cX3_attempt 113 = .ok (.getfield 26, 3) := by decide +kernel
theorem dX3_attempt_116 : decode cX3_attempt 116 = .ok (.iload 9, 2) := by decide +kernel
theorem dX3_attempt_118 : decode cX3_attempt 118 = .ok (.iload_n 1, 1) := by decide +kernel
theorem dX3_attempt_119 : decode cX3_attempt 119 = .ok (.iastore, 1) := by decide +kernel
theorem dX3_attempt_120 : decode cX3_attempt 120 = .ok (.aload_n 0, 1) := by decide +kernel
theorem dX3_attempt_121 : decode cX3_attempt 121 = .ok (.getfield 26, 3) := by decide +kernel
theorem dX3_attempt_124 : decode cX3_attempt 124 = .ok (.iload 9, 2) := by decide +kernel
theorem dX3_attempt_126 : decode cX3_attempt 126 = .ok (.iconst 1, 1) := by decide +kernel
theorem dX3_attempt_127 : decode cX3_attempt 127 = .ok (.iadd, 1) := by decide +kernel
theorem dX3_attempt_128 : decode cX3_attempt 128 = .ok (.iload_n 2, 1) := by decide +kernel
theorem dX3_attempt_129 : decode cX3_attempt 129 = .ok (.iastore, 1) := by decide +kernel
theorem dX3_attempt_130 : decode cX3_attempt 130 = .ok (.aload_n 0, 1) := by decide +kernel
theorem dX3_attempt_131 : decode cX3_attempt 131 = .ok (.getfield 26, 3) := by decide +kernel
theorem dX3_attempt_134 : decode cX3_attempt 134 = .ok (.iload 9, 2) := by decide +kernel
theorem dX3_attempt_136 : decode cX3_attempt 136 = .ok (.iconst 2, 1) := by decide +kernel
theorem dX3_attempt_137 : decode cX3_attempt 137 = .ok (.iadd, 1) := by decide +kernel
theorem dX3_attempt_138 : decode cX3_attempt 138 = .ok (.iload_n 3, 1) := by decide +kernel
theorem dX3_attempt_139 : decode cX3_attempt 139 = .ok (.iastore, 1) := by decide +kernel
theorem dX3_attempt_140 : decode cX3_attempt 140 = .ok (.aload_n 0, 1) := by decide +kernel
theorem dX3_attempt_141 : decode cX3_attempt 141 = .ok (.getfield 26, 3) := by decide +kernel
theorem dX3_attempt_144 : decode cX3_attempt 144 = .ok (.iload 9, 2) := by decide +kernel
theorem dX3_attempt_146 : decode cX3_attempt 146 = .ok (.iconst 3, 1) := by decide +kernel
theorem dX3_attempt_147 : decode cX3_attempt 147 = .ok (.iadd, 1) := by decide +kernel
theorem dX3_attempt_148 : decode cX3_attempt 148 = .ok (.iload 4, 2) := by decide +kernel
theorem dX3_attempt_150 : decode cX3_attempt 150 = .ok (.iastore, 1) := by decide +kernel
theorem dX3_attempt_151 : decode cX3_attempt 151 = .ok (.aload_n 0, 1) := by decide +kernel
theorem dX3_attempt_152 : decode cX3_attempt 152 = .ok (.getfield 26, 3) := by decide +kernel
theorem dX3_attempt_155 : decode cX3_attempt 155 = .ok (.iload 9, 2) := by decide +kernel
theorem dX3_attempt_157 : decode cX3_attempt 157 = .ok (.iconst 4, 1) := by decide +kernel
theorem dX3_attempt_158 : decode cX3_attempt 158 = .ok (.iadd, 1) := by decide +kernel
theorem dX3_attempt_159 : decode cX3_attempt 159 = .ok (.iload 5, 2) := by decide +kernel
theorem dX3_attempt_161 : decode cX3_attempt 161 = .ok (.iastore, 1) := by decide +kernel
theorem dX3_attempt_162 : decode cX3_attempt 162 = .ok (.aload_n 0, 1) := by decide +kernel
theorem dX3_attempt_163 : decode cX3_attempt 163 = .ok (.dup, 1) := by decide +kernel
theorem dX3_attempt_164 : decode cX3_attempt 164 = .ok (.getfield 58, 3) := by decide +kernel
theorem dX3_attempt_167 : decode cX3_attempt 167 = .ok (.iconst 1, 1) := by decide +kernel
theorem dX3_attempt_168 : decode cX3_attempt 168 = .ok (.iadd, 1) := by decide +kernel
theorem dX3_attempt_169 : decode cX3_attempt 169 = .ok (.putfield 58, 3) := by decide +kernel
theorem dX3_attempt_172 : decode cX3_attempt 172 = .ok (.iload 8, 2) := by decide +kernel
theorem dX3_attempt_174 : decode cX3_attempt 174 = .ok (.ireturn, 1) := by decide +kernel
theorem dX3_create_0 : decode cX3_create 0 = .ok (.iload_n 1, 1) := by decide +kernel
theorem dX3_create_1 : decode cX3_create 1 = .ok (.bipush 16, 2) := by decide +kernel
theorem dX3_create_3 : decode cX3_create 3 = .ok (.invokestatic 78, 3) := by decide +kernel
theorem dX3_create_6 : decode cX3_create 6 = .ok (.ifCond .ne 12, 3) := by decide +kernel
theorem dX3_create_9 : decode cX3_create 9 = .ok (.iload_n 2, 1) := by decide +kernel
theorem dX3_create_10 : decode cX3_create 10 = .ok (.bipush 32, 2) := by decide +kernel
theorem dX3_create_12 : decode cX3_create 12 = .ok (.invokestatic 78, 3) := by decide +kernel
theorem dX3_create_15 : decode cX3_create 15 = .ok (.ifCond .eq 5, 3) := by decide +kernel
theorem dX3_create_18 : decode cX3_create 18 = .ok (.iconst (-1), 1) := by decide +kernel
theorem dX3_create_19 : decode cX3_create 19 = .ok (.ireturn, 1) := by decide +kernel
theorem dX3_create_20 : decode cX3_create 20 = .ok (.aload_n 0, 1) := by decide +kernel
theorem dX3_create_21 : decode cX3_create 21 = .ok (.iconst 0, 1) := by decide +kernel
theorem dX3_create_22 : decode cX3_create 22 = .ok (.iload_n 1, 1) := by decide +kernel
theorem dX3_create_23 : decode cX3_create 23 = .ok (.iload_n 2, 1) := by decide +kernel
theorem dX3_create_24 : decode cX3_create 24 = .ok (.iload_n 3, 1) := by decide +kernel
theorem dX3_create_25 : decode cX3_create 25 = .ok (.ifCond .eq 7, 3) := by decide +kernel
theorem dX3_create_28 : decode cX3_create 28 = .ok (.iconst 2, 1) := by decide +kernel
theorem dX3_create_29 : decode cX3_create 29 = .ok (.goto 4, 3) := by decide +kernel
theorem dX3_create_32 : decode cX3_create 32 = .ok (.iconst 1, 1) := by decide +kernel
theorem dX3_create_33 : decode cX3_create 33 = .ok (.iconst 0, 1) := by decide +kernel
theorem dX3_create_34 : decode cX3_create 34 = .ok (.invokevirtual 81, 3) := by decide +kernel
theorem dX3_create_37 : decode cX3_create 37 = .ok (.ireturn, 1) := by decide +kernel
theorem dX3_link_0 : decode cX3_link 0 = .ok (.iload_n 1, 1) := by decide +kernel
theorem dX3_link_1 : decode cX3_link 1 = .ok (.bipush 16, 2) := by decide +kernel
theorem dX3_link_3 : decode cX3_link 3 = .ok (.invokestatic 78, 3) := by decide +kernel
theorem dX3_link_6 : decode cX3_link 6 = .ok (.ifCond .ne 21, 3) := by decide +kernel
theorem dX3_link_9 : decode cX3_link 9 = .ok (.iload_n 2, 1) := by decide +kernel
theorem dX3_link_10 : decode cX3_link 10 = .ok (.bipush 32, 2) := by decide +kernel
theorem dX3_link_12 : decode cX3_link 12 = .ok (.invokestatic 78, 3) := by decide +kernel
theorem dX3_link_15 : decode cX3_link 15 = .ok (.ifCond .ne 12, 3) := by decide +kernel
theorem dX3_link_18 : decode cX3_link 18 = .ok (.iload_n 3, 1) := by decide +kernel
theorem dX3_link_19 : decode cX3_link 19 = .ok (.bipush 16, 2) := by decide +kernel
theorem dX3_link_21 : decode cX3_link 21 = .ok (.invokestatic 78, 3) := by decide +kernel
theorem dX3_link_24 : decode cX3_link 24 = .ok (.ifCond .eq 5, 3) := by decide +kernel
theorem dX3_link_27 : decode cX3_link 27 = .ok (.iconst (-1), 1) := by decide +kernel
theorem dX3_link_28 : decode cX3_link 28 = .ok (.ireturn, 1) := by decide +kernel
theorem dX3_link_29 : decode cX3_link 29 = .ok (.aload_n 0, 1) := by decide +kernel
theorem dX3_link_30 : decode cX3_link 30 = .ok (.iconst 1, 1) := by decide +kernel
theorem dX3_link_31 : decode cX3_link 31 = .ok (.iload_n 1, 1) := by decide +kernel
theorem dX3_link_32 : decode cX3_link 32 = .ok (.iload_n 2, 1) := by decide +kernel
theorem dX3_link_33 : decode cX3_link 33 = .ok (.iload_n 3, 1) := by decide +kernel
theorem dX3_link_34 : decode cX3_link 34 = .ok (.iconst 0, 1) := by decide +kernel
theorem dX3_link_35 : decode cX3_link 35 = .ok (.invokevirtual 81, 3) := by decide +kernel
theorem dX3_link_38 : decode cX3_link 38 = .ok (.ireturn, 1) := by decide +kernel
theorem dX3_remove_0 : decode cX3_remove 0 = .ok (.iload_n 1, 1) := by decide +kernel
theorem dX3_remove_1 : decode cX3_remove 1 = .ok (.bipush 16, 2) := by decide +kernel
theorem dX3_remove_3 : decode cX3_remove 3 = .ok (.invokestatic 78, 3) := by decide +kernel
theorem dX3_remove_6 : decode cX3_remove 6 = .ok (.ifCond .ne 12, 3) := by decide +kernel
theorem dX3_remove_9 : decode cX3_remove 9 = .ok (.iload_n 2, 1) := by decide +kernel
theorem dX3_remove_10 : decode cX3_remove 10 = .ok (.bipush 32, 2) := by decide +kernel
theorem dX3_remove_12 : decode cX3_remove 12 = .ok (.invokestatic 78, 3) := by decide +kernel
theorem dX3_remove_15 : decode cX3_remove 15 = .ok (.ifCond .eq 5, 3) := by decide +kernel
theorem dX3_remove_18 : decode cX3_remove 18 = .ok (.iconst (-1), 1) := by decide +kernel
theorem dX3_remove_19 : decode cX3_remove 19 = .ok (.ireturn, 1) := by decide +kernel
theorem dX3_remove_20 : decode cX3_remove 20 = .ok (.aload_n 0, 1) := by decide +kernel
theorem dX3_remove_21 : decode cX3_remove 21 = .ok (.iconst 2, 1) := by decide +kernel
theorem dX3_remove_22 : decode cX3_remove 22 = .ok (.iload_n 1, 1) := by decide +kernel
theorem dX3_remove_23 : decode cX3_remove 23 = .ok (.iload_n 2, 1) := by decide +kernel
theorem dX3_remove_24 : decode cX3_remove 24 = .ok (.iconst 0, 1) := by decide +kernel
theorem dX3_remove_25 : decode cX3_remove 25 = .ok (.iconst 0, 1) := by decide +kernel
theorem dX3_remove_26 : decode cX3_remove 26 = .ok (.invokevirtual 81, 3) := by decide +kernel
theorem dX3_remove_29 : decode cX3_remove 29 = .ok (.ireturn, 1) := by decide +kernel
theorem dX3_rename_0 : decode cX3_rename 0 = .ok (.iload_n 1, 1) := by decide +kernel
theorem dX3_rename_1 : decode cX3_rename 1 = .ok (.bipush 16, 2) := by decide +kernel
theorem dX3_rename_3 : decode cX3_rename 3 = .ok (.invokestatic 78, 3) := by decide +kernel
theorem dX3_rename_6 : decode cX3_rename 6 = .ok (.ifCond .ne 31, 3) := by decide +kernel
theorem dX3_rename_9 : decode cX3_rename 9 = .ok (.iload_n 2, 1) := by decide +kernel
theorem dX3_rename_10 : decode cX3_rename 10 = .ok (.bipush 32, 2) := by decide +kernel
theorem dX3_rename_12 : decode cX3_rename 12 = .ok (.invokestatic 78, 3) := by decide +kernel
theorem dX3_rename_15 : decode cX3_rename 15 = .ok (.ifCond .ne 22, 3) := by decide +kernel
theorem dX3_rename_18 : decode cX3_rename 18 = .ok (.iload_n 3, 1) := by decide +kernel
theorem dX3_rename_19 : decode cX3_rename 19 = .ok (.bipush 16, 2) := by decide +kernel
theorem dX3_rename_21 : decode cX3_rename 21 = .ok (.invokestatic 78, 3) := by decide +kernel
theorem dX3_rename_24 : decode cX3_rename 24 = .ok (.ifCond .ne 13, 3) := by decide +kernel
theorem dX3_rename_27 : decode cX3_rename 27 = .ok (.iload 4, 2) := by decide +kernel
theorem dX3_rename_29 : decode cX3_rename 29 = .ok (.bipush 32, 2) := by decide +kernel
theorem dX3_rename_31 : decode cX3_rename 31 = .ok (.invokestatic 78, 3) := by decide +kernel
theorem dX3_rename_34 : decode cX3_rename 34 = .ok (.ifCond .eq 5, 3) := by decide +kernel
theorem dX3_rename_37 : decode cX3_rename 37 = .ok (.iconst (-1), 1) := by decide +kernel
theorem dX3_rename_38 : decode cX3_rename 38 = .ok (.ireturn, 1) := by decide +kernel
theorem dX3_rename_39 : decode cX3_rename 39 = .ok (.aload_n 0, 1) := by decide +kernel
theorem dX3_rename_40 : decode cX3_rename 40 = .ok (.iconst 3, 1) := by decide +kernel
theorem dX3_rename_41 : decode cX3_rename 41 = .ok (.iload_n 1, 1) := by decide +kernel
theorem dX3_rename_42 : decode cX3_rename 42 = .ok (.iload_n 2, 1) := by decide +kernel
theorem dX3_rename_43 : decode cX3_rename 43 = .ok (.iload_n 3, 1) := by decide +kernel
theorem dX3_rename_44 : decode cX3_rename 44 = .ok (.iload 4, 2) := by decide +kernel
theorem dX3_rename_46 : decode cX3_rename 46 = .ok (.invokevirtual 81, 3) := by decide +kernel
theorem dX3_rename_49 : decode cX3_rename 49 = .ok (.ireturn, 1) := by decide +kernel
theorem dX3_write_0 : decode cX3_write 0 = .ok (.iload_n 1, 1) := by decide +kernel
theorem dX3_write_1 : decode cX3_write 1 = .ok (.bipush 16, 2) := by decide +kernel
theorem dX3_write_3 : decode cX3_write 3 = .ok (.invokestatic 78, 3) := by decide +kernel
theorem dX3_write_6 : decode cX3_write 6 = .ok (.ifCond .ne 12, 3) := by decide +kernel
theorem dX3_write_9 : decode cX3_write 9 = .ok (.iload_n 2, 1) := by decide +kernel
theorem dX3_write_10 : decode cX3_write 10 = .ok (.bipush 8, 2) := by decide +kernel
theorem dX3_write_12 : decode cX3_write 12 = .ok (.invokestatic 78, 3) := by decide +kernel
theorem dX3_write_15 : decode cX3_write 15 = .ok (.ifCond .eq 5, 3) := by decide +kernel
theorem dX3_write_18 : decode cX3_write 18 = .ok (.iconst (-1), 1) := by decide +kernel
theorem dX3_write_19 : decode cX3_write 19 = .ok (.ireturn, 1) := by decide +kernel
theorem dX3_write_20 : decode cX3_write 20 = .ok (.aload_n 0, 1) := by decide +kernel
theorem dX3_write_21 : decode cX3_write 21 = .ok (.iconst 4, 1) := by decide +kernel
theorem dX3_write_22 : decode cX3_write 22 = .ok (.iload_n 1, 1) := by decide +kernel
theorem dX3_write_23 : decode cX3_write 23 = .ok (.iload_n 2, 1) := by decide +kernel
theorem dX3_write_24 : decode cX3_write 24 = .ok (.iload_n 3, 1) := by decide +kernel
theorem dX3_write_25 : decode cX3_write 25 = .ok (.iconst 0, 1) := by decide +kernel
theorem dX3_write_26 : decode cX3_write 26 = .ok (.invokevirtual 81, 3) := by decide +kernel
theorem dX3_write_29 : decode cX3_write 29 = .ok (.ireturn, 1) := by decide +kernel
theorem dX3_cut_0 : decode cX3_cut 0 = .ok (.iload_n 1, 1) := by decide +kernel
theorem dX3_cut_1 : decode cX3_cut 1 = .ok (.bipush 16, 2) := by decide +kernel
theorem dX3_cut_3 : decode cX3_cut 3 = .ok (.invokestatic 78, 3) := by decide +kernel
theorem dX3_cut_6 : decode cX3_cut 6 = .ok (.ifCond .ne 12, 3) := by decide +kernel
theorem dX3_cut_9 : decode cX3_cut 9 = .ok (.iload_n 2, 1) := by decide +kernel
theorem dX3_cut_10 : decode cX3_cut 10 = .ok (.bipush 9, 2) := by decide +kernel
theorem dX3_cut_12 : decode cX3_cut 12 = .ok (.invokestatic 78, 3) := by decide +kernel
theorem dX3_cut_15 : decode cX3_cut 15 = .ok (.ifCond .eq 5, 3) := by decide +kernel
theorem dX3_cut_18 : decode cX3_cut 18 = .ok (.iconst (-1), 1) := by decide +kernel
theorem dX3_cut_19 : decode cX3_cut 19 = .ok (.ireturn, 1) := by decide +kernel
theorem dX3_cut_20 : decode cX3_cut 20 = .ok (.aload_n 0, 1) := by decide +kernel
theorem dX3_cut_21 : decode cX3_cut 21 = .ok (.iconst 5, 1) := by decide +kernel
theorem dX3_cut_22 : decode cX3_cut 22 = .ok (.iload_n 1, 1) := by decide +kernel
theorem dX3_cut_23 : decode cX3_cut 23 = .ok (.iload_n 2, 1) := by decide +kernel
theorem dX3_cut_24 : decode cX3_cut 24 = .ok (.iconst 0, 1) := by decide +kernel
theorem dX3_cut_25 : decode cX3_cut 25 = .ok (.iconst 0, 1) := by decide +kernel
theorem dX3_cut_26 : decode cX3_cut 26 = .ok (.invokevirtual 81, 3) := by decide +kernel
theorem dX3_cut_29 : decode cX3_cut 29 = .ok (.ireturn, 1) := by decide +kernel
theorem dX3_sync_0 : decode cX3_sync 0 = .ok (.aload_n 0, 1) := by decide +kernel
theorem dX3_sync_1 : decode cX3_sync 1 = .ok (.invokevirtual 84, 3) := by decide +kernel
theorem dX3_sync_4 : decode cX3_sync 4 = .ok (.aload_n 0, 1) := by decide +kernel
theorem dX3_sync_5 : decode cX3_sync 5 = .ok (.dup, 1) := by decide +kernel
theorem dX3_sync_6 : decode cX3_sync 6 = .ok (.getfield 87, 3) := by decide +kernel
theorem dX3_sync_9 : decode cX3_sync 9 = .ok (.iconst 1, 1) := by decide +kernel
theorem dX3_sync_10 : decode cX3_sync 10 = .ok (.iadd, 1) := by decide +kernel
theorem dX3_sync_11 : decode cX3_sync 11 = .ok (.putfield 87, 3) := by decide +kernel
theorem dX3_sync_14 : decode cX3_sync 14 = .ok (.aload_n 0, 1) := by decide +kernel
theorem dX3_sync_15 : decode cX3_sync 15 = .ok (.getfield 22, 3) := by decide +kernel
theorem dX3_sync_18 : decode cX3_sync 18 = .ok (.ireturn, 1) := by decide +kernel
theorem dX3_crash_0 : decode cX3_crash 0 = .ok (.iload_n 1, 1) := by decide +kernel
theorem dX3_crash_1 : decode cX3_crash 1 = .ok (.ifCond .ge 7, 3) := by decide +kernel
theorem dX3_crash_4 : decode cX3_crash 4 = .ok (.iconst 0, 1) := by decide +kernel
theorem dX3_crash_5 : decode cX3_crash 5 = .ok (.goto 19, 3) := by decide +kernel
theorem dX3_crash_8 : decode cX3_crash 8 = .ok (.iload_n 1, 1) := by decide +kernel
theorem dX3_crash_9 : decode cX3_crash 9 = .ok (.aload_n 0, 1) := by decide +kernel
theorem dX3_crash_10 : decode cX3_crash 10 = .ok (.getfield 58, 3) := by decide +kernel
theorem dX3_crash_13 : decode cX3_crash 13 = .ok (.if_icmp .le 10, 3) := by decide +kernel
theorem dX3_crash_16 : decode cX3_crash 16 = .ok (.aload_n 0, 1) := by decide +kernel
theorem dX3_crash_17 : decode cX3_crash 17 = .ok (.getfield 58, 3) := by decide +kernel
theorem dX3_crash_20 : decode cX3_crash 20 = .ok (.goto 4, 3) := by decide +kernel
theorem dX3_crash_23 : decode cX3_crash 23 = .ok (.iload_n 1, 1) := by decide +kernel
theorem dX3_crash_24 : decode cX3_crash 24 = .ok (.istore_n 2, 1) := by decide +kernel
theorem dX3_crash_25 : decode cX3_crash 25 = .ok (.aload_n 0, 1) := by decide +kernel
theorem dX3_crash_26 : decode cX3_crash 26 = .ok (.iconst 1, 1) := by decide +kernel
theorem dX3_crash_27 : decode cX3_crash 27 = .ok (.iconst 0, 1) := by decide +kernel
theorem dX3_crash_28 : decode cX3_crash 28 = .ok (.invokevirtual 32, 3) := by decide +kernel
theorem dX3_crash_31 : decode cX3_crash 31 = .ok (.iconst 0, 1) := by decide +kernel
theorem dX3_crash_32 : decode cX3_crash 32 = .ok (.istore_n 3, 1) := by decide +kernel
theorem dX3_crash_33 : decode cX3_crash 33 = .ok (.iload_n 3, 1) := by decide +kernel
theorem dX3_crash_34 : decode cX3_crash 34 = .ok (.iload_n 2, 1) := by decide +kernel
theorem dX3_crash_35 : decode cX3_crash 35 = .ok (.if_icmp .ge 62, 3) := by decide +kernel
theorem dX3_crash_38 : decode cX3_crash 38 = .ok (.aload_n 0, 1) := by decide +kernel
theorem dX3_crash_39 : decode cX3_crash 39 = .ok (.aload_n 0, 1) := by decide +kernel
theorem dX3_crash_40 : decode cX3_crash 40 = .ok (.getfield 26, 3) := by decide +kernel
theorem dX3_crash_43 : decode cX3_crash 43 = .ok (.iconst 5, 1) := by decide +kernel
theorem dX3_crash_44 : decode cX3_crash 44 = .ok (.iload_n 3, 1) := by decide +kernel
theorem dX3_crash_45 : decode cX3_crash 45 = .ok (.imul, 1) := by decide +kernel
theorem dX3_crash_46 : decode cX3_crash 46 = .ok (.iaload, 1) := by decide +kernel
theorem dX3_crash_47 : decode cX3_crash 47 = .ok (.aload_n 0, 1) := by decide +kernel
theorem dX3_crash_48 : decode cX3_crash 48 = .ok (.getfield 26, 3) := by decide +kernel
theorem dX3_crash_51 : decode cX3_crash 51 = .ok (.iconst 5, 1) := by decide +kernel
theorem dX3_crash_52 : decode cX3_crash 52 = .ok (.iload_n 3, 1) := by decide +kernel
theorem dX3_crash_53 : decode cX3_crash 53 = .ok (.imul, 1) := by decide +kernel
theorem dX3_crash_54 : decode cX3_crash 54 = .ok (.iconst 1, 1) := by decide +kernel
theorem dX3_crash_55 : decode cX3_crash 55 = .ok (.iadd, 1) := by decide +kernel
theorem dX3_crash_56 : decode cX3_crash 56 = .ok (.iaload, 1) := by decide +kernel
theorem dX3_crash_57 : decode cX3_crash 57 = .ok (.aload_n 0, 1) := by decide +kernel
theorem dX3_crash_58 : decode cX3_crash 58 = .ok (.getfield 26, 3) := by decide +kernel
theorem dX3_crash_61 : decode cX3_crash 61 = .ok (.iconst 5, 1) := by decide +kernel
theorem dX3_crash_62 : decode cX3_crash 62 = .ok (.iload_n 3, 1) := by decide +kernel
theorem dX3_crash_63 : decode cX3_crash 63 = .ok (.imul, 1) := by decide +kernel
theorem dX3_crash_64 : decode cX3_crash 64 = .ok (.iconst 2, 1) := by decide +kernel
theorem dX3_crash_65 : decode cX3_crash 65 = .ok (.iadd, 1) := by decide +kernel
theorem dX3_crash_66 : decode cX3_crash 66 = .ok (.iaload, 1) := by decide +kernel
theorem dX3_crash_67 : decode cX3_crash 67 = .ok (.aload_n 0, 1) := by decide +kernel
theorem dX3_crash_68 : decode cX3_crash 68 = .ok (.getfield 26, 3) := by decide +kernel
theorem dX3_crash_71 : decode cX3_crash 71 = .ok (.iconst 5, 1) := by decide +kernel
theorem dX3_crash_72 : decode cX3_crash 72 = .ok (.iload_n 3, 1) := by decide +kernel
theorem dX3_crash_73 : decode cX3_crash 73 = .ok (.imul, 1) := by decide +kernel
theorem dX3_crash_74 : decode cX3_crash 74 = .ok (.iconst 3, 1) := by decide +kernel
theorem dX3_crash_75 : decode cX3_crash 75 = .ok (.iadd, 1) := by decide +kernel
theorem dX3_crash_76 : decode cX3_crash 76 = .ok (.iaload, 1) := by decide +kernel
theorem dX3_crash_77 : decode cX3_crash 77 = .ok (.aload_n 0, 1) := by decide +kernel
theorem dX3_crash_78 : decode cX3_crash 78 = .ok (.getfield 26, 3) := by decide +kernel
theorem dX3_crash_81 : decode cX3_crash 81 = .ok (.iconst 5, 1) := by decide +kernel
theorem dX3_crash_82 : decode cX3_crash 82 = .ok (.iload_n 3, 1) := by decide +kernel
theorem dX3_crash_83 : decode cX3_crash 83 = .ok (.imul, 1) := by decide +kernel
theorem dX3_crash_84 : decode cX3_crash 84 = .ok (.iconst 4, 1) := by decide +kernel
theorem dX3_crash_85 : decode cX3_crash 85 = .ok (.iadd, 1) := by decide +kernel
theorem dX3_crash_86 : decode cX3_crash 86 = .ok (.iaload, 1) := by decide +kernel
theorem dX3_crash_87 : decode cX3_crash 87 = .ok (.invokevirtual 75, 3) := by decide +kernel
theorem dX3_crash_90 : decode cX3_crash 90 = .ok (.pop, 1) := by decide +kernel
theorem dX3_crash_91 : decode cX3_crash 91 = .ok (.iinc 3 1, 3) := by decide +kernel
theorem dX3_crash_94 : decode cX3_crash 94 = .ok (.goto (-61), 3) := by decide +kernel
theorem dX3_crash_97 : decode cX3_crash 97 = .ok (.aload_n 0, 1) := by decide +kernel
theorem dX3_crash_98 : decode cX3_crash 98 = .ok (.invokevirtual 84, 3) := by decide +kernel
theorem dX3_crash_101 : decode cX3_crash 101 = .ok (.iload_n 2, 1) := by decide +kernel
theorem dX3_crash_102 : decode cX3_crash 102 = .ok (.ireturn, 1) := by decide +kernel
theorem dX3_find_0 : decode cX3_find 0 = .ok (.iload_n 1, 1) := by decide +kernel
theorem dX3_find_1 : decode cX3_find 1 = .ok (.bipush 16, 2) := by decide +kernel
theorem dX3_find_3 : decode cX3_find 3 = .ok (.invokestatic 78, 3) := by decide +kernel
theorem dX3_find_6 : decode cX3_find 6 = .ok (.ifCond .ne 12, 3) := by decide +kernel
theorem dX3_find_9 : decode cX3_find 9 = .ok (.iload_n 2, 1) := by decide +kernel
theorem dX3_find_10 : decode cX3_find 10 = .ok (.bipush 32, 2) := by decide +kernel
theorem dX3_find_12 : decode cX3_find 12 = .ok (.invokestatic 78, 3) := by decide +kernel
theorem dX3_find_15 : decode cX3_find 15 = .ok (.ifCond .eq 5, 3) := by decide +kernel
theorem dX3_find_18 : decode cX3_find 18 = .ok (.iconst (-1), 1) := by decide +kernel
theorem dX3_find_19 : decode cX3_find 19 = .ok (.ireturn, 1) := by decide +kernel
theorem dX3_find_20 : decode cX3_find 20 = .ok (.aload_n 0, 1) := by decide +kernel
theorem dX3_find_21 : decode cX3_find 21 = .ok (.iload_n 1, 1) := by decide +kernel
theorem dX3_find_22 : decode cX3_find 22 = .ok (.invokevirtual 36, 3) := by decide +kernel
theorem dX3_find_25 : decode cX3_find 25 = .ok (.ifCond .eq 31, 3) := by decide +kernel
theorem dX3_find_28 : decode cX3_find 28 = .ok (.aload_n 0, 1) := by decide +kernel
theorem dX3_find_29 : decode cX3_find 29 = .ok (.getfield 19, 3) := by decide +kernel
theorem dX3_find_32 : decode cX3_find 32 = .ok (.bipush 32, 2) := by decide +kernel
theorem dX3_find_34 : decode cX3_find 34 = .ok (.iload_n 1, 1) := by decide +kernel
theorem dX3_find_35 : decode cX3_find 35 = .ok (.imul, 1) := by decide +kernel
theorem dX3_find_36 : decode cX3_find 36 = .ok (.iload_n 2, 1) := by decide +kernel
theorem dX3_find_37 : decode cX3_find 37 = .ok (.iadd, 1) := by decide +kernel
theorem dX3_find_38 : decode cX3_find 38 = .ok (.iaload, 1) := by decide +kernel
theorem dX3_find_39 : decode cX3_find 39 = .ok (.ifCond .lt 17, 3) := by decide +kernel
theorem dX3_find_42 : decode cX3_find 42 = .ok (.aload_n 0, 1) := by decide +kernel
theorem dX3_find_43 : decode cX3_find 43 = .ok (.getfield 19, 3) := by decide +kernel
theorem dX3_find_46 : decode cX3_find 46 = .ok (.bipush 32, 2) := by decide +kernel
theorem dX3_find_48 : decode cX3_find 48 = .ok (.iload_n 1, 1) := by decide +kernel
theorem dX3_find_49 : decode cX3_find 49 = .ok (.imul, 1) := by decide +kernel
theorem dX3_find_50 : decode cX3_find 50 = .ok (.iload_n 2, 1) := by decide +kernel
theorem dX3_find_51 : decode cX3_find 51 = .ok (.iadd, 1) := by decide +kernel
theorem dX3_find_52 : decode cX3_find 52 = .ok (.iaload, 1) := by decide +kernel
theorem dX3_find_53 : decode cX3_find 53 = .ok (.goto 5, 3) := by decide +kernel
theorem dX3_find_56 : decode cX3_find 56 = .ok (.bipush (-2), 2) := by decide +kernel
theorem dX3_find_58 : decode cX3_find 58 = .ok (.ireturn, 1) := by decide +kernel
theorem dX3_entry_0 : decode cX3_entry 0 = .ok (.iload_n 1, 1) := by decide +kernel
theorem dX3_entry_1 : decode cX3_entry 1 = .ok (.bipush 16, 2) := by decide +kernel
theorem dX3_entry_3 : decode cX3_entry 3 = .ok (.invokestatic 78, 3) := by decide +kernel
theorem dX3_entry_6 : decode cX3_entry 6 = .ok (.ifCond .eq 5, 3) := by decide +kernel
theorem dX3_entry_9 : decode cX3_entry 9 = .ok (.iconst (-1), 1) := by decide +kernel
theorem dX3_entry_10 : decode cX3_entry 10 = .ok (.ireturn, 1) := by decide +kernel
theorem dX3_entry_11 : decode cX3_entry 11 = .ok (.aload_n 0, 1) := by decide +kernel
theorem dX3_entry_12 : decode cX3_entry 12 = .ok (.iload_n 1, 1) := by decide +kernel
theorem dX3_entry_13 : decode cX3_entry 13 = .ok (.invokevirtual 36, 3) := by decide +kernel
theorem dX3_entry_16 : decode cX3_entry 16 = .ok (.ifCond .ne 6, 3) := by decide +kernel
theorem dX3_entry_19 : decode cX3_entry 19 = .ok (.bipush (-2), 2) := by decide +kernel
theorem dX3_entry_21 : decode cX3_entry 21 = .ok (.ireturn, 1) := by decide +kernel
theorem dX3_entry_22 : decode cX3_entry 22 = .ok (.iconst 0, 1) := by decide +kernel
theorem dX3_entry_23 : decode cX3_entry 23 = .ok (.istore_n 3, 1) := by decide +kernel
theorem dX3_entry_24 : decode cX3_entry 24 = .ok (.iconst 0, 1) := by decide +kernel
theorem dX3_entry_25 : decode cX3_entry 25 = .ok (.istore 4, 2) := by decide +kernel
theorem dX3_entry_27 : decode cX3_entry 27 = .ok (.iload 4, 2) := by decide +kernel
theorem dX3_entry_29 : decode cX3_entry 29 = .ok (.bipush 32, 2) := by decide +kernel
theorem dX3_entry_31 : decode cX3_entry 31 = .ok (.if_icmp .ge 38, 3) := by decide +kernel
theorem dX3_entry_34 : decode cX3_entry 34 = .ok (.aload_n 0, 1) := by decide +kernel
theorem dX3_entry_35 : decode cX3_entry 35 = .ok (.getfield 19, 3) := by decide +kernel
theorem dX3_entry_38 : decode cX3_entry 38 = .ok (.bipush 32, 2) := by decide +kernel
theorem dX3_entry_40 : decode cX3_entry 40 = .ok (.iload_n 1, 1) := by decide +kernel
theorem dX3_entry_41 : decode cX3_entry 41 = .ok (.imul, 1) := by decide +kernel
theorem dX3_entry_42 : decode cX3_entry 42 = .ok (.iload 4, 2) := by decide +kernel
theorem dX3_entry_44 : decode cX3_entry 44 = .ok (.iadd, 1) := by decide +kernel
theorem dX3_entry_45 : decode cX3_entry 45 = .ok (.iaload, 1) := by decide +kernel
theorem dX3_entry_46 : decode cX3_entry 46 = .ok (.ifCond .ge 6, 3) := by decide +kernel
theorem dX3_entry_49 : decode cX3_entry 49 = .ok (.goto 14, 3) := by decide +kernel
theorem dX3_entry_52 : decode cX3_entry 52 = .ok (.iload_n 3, 1) := by decide +kernel
theorem dX3_entry_53 : decode cX3_entry 53 = .ok (.iload_n 2, 1) := by decide +kernel
theorem dX3_entry_54 : decode cX3_entry 54 = .ok (.if_icmp .ne 6, 3) := by decide +kernel
theorem dX3_entry_57 : decode cX3_entry 57 = .ok (.iload 4, 2) := by decide +kernel
theorem dX3_entry_59 : decode cX3_entry 59 = .ok (.ireturn, 1) := by decide +kernel
theorem dX3_entry_60 : decode cX3_entry 60 = .ok (.iinc 3 1, 3) := by decide +kernel
theorem dX3_entry_63 : decode cX3_entry 63 = .ok (.iinc 4 1, 3) := by decide +kernel
theorem dX3_entry_66 : decode cX3_entry 66 = .ok (.goto (-39), 3) := by decide +kernel
theorem dX3_entry_69 : decode cX3_entry 69 = .ok (.iconst (-1), 1) := by decide +kernel
theorem dX3_entry_70 : decode cX3_entry 70 = .ok (.ireturn, 1) := by decide +kernel
theorem dX3_read_0 : decode cX3_read 0 = .ok (.iload_n 1, 1) := by decide +kernel
theorem dX3_read_1 : decode cX3_read 1 = .ok (.bipush 16, 2) := by decide +kernel
theorem dX3_read_3 : decode cX3_read 3 = .ok (.invokestatic 78, 3) := by decide +kernel
theorem dX3_read_6 : decode cX3_read 6 = .ok (.ifCond .ne 26, 3) := by decide +kernel
theorem dX3_read_9 : decode cX3_read 9 = .ok (.aload_n 0, 1) := by decide +kernel
theorem dX3_read_10 : decode cX3_read 10 = .ok (.getfield 7, 3) := by decide +kernel
theorem dX3_read_13 : decode cX3_read 13 = .ok (.iload_n 1, 1) := by decide +kernel
theorem dX3_read_14 : decode cX3_read 14 = .ok (.iaload, 1) := by decide +kernel
theorem dX3_read_15 : decode cX3_read 15 = .ok (.iconst 1, 1) := by decide +kernel
theorem dX3_read_16 : decode cX3_read 16 = .ok (.if_icmp .ne 16, 3) := by decide +kernel
theorem dX3_read_19 : decode cX3_read 19 = .ok (.iload_n 2, 1) := by decide +kernel
theorem dX3_read_20 : decode cX3_read 20 = .ok (.aload_n 0, 1) := by decide +kernel
theorem dX3_read_21 : decode cX3_read 21 = .ok (.getfield 13, 3) := by decide +kernel
theorem dX3_read_24 : decode cX3_read 24 = .ok (.iload_n 1, 1) := by decide +kernel
theorem dX3_read_25 : decode cX3_read 25 = .ok (.iaload, 1) := by decide +kernel
theorem dX3_read_26 : decode cX3_read 26 = .ok (.invokestatic 78, 3) := by decide +kernel
theorem dX3_read_29 : decode cX3_read 29 = .ok (.ifCond .eq 7, 3) := by decide +kernel
theorem dX3_read_32 : decode cX3_read 32 = .ok (.ldc2_w 90, 3) := by decide +kernel
theorem dX3_read_35 : decode cX3_read 35 = .ok (.lreturn, 1) := by decide +kernel
theorem dX3_read_36 : decode cX3_read 36 = .ok (.aload_n 0, 1) := by decide +kernel
theorem dX3_read_37 : decode cX3_read 37 = .ok (.getfield 16, 3) := by decide +kernel
theorem dX3_read_40 : decode cX3_read 40 = .ok (.bipush 8, 2) := by decide +kernel
theorem dX3_read_42 : decode cX3_read 42 = .ok (.iload_n 1, 1) := by decide +kernel
theorem dX3_read_43 : decode cX3_read 43 = .ok (.imul, 1) := by decide +kernel
theorem dX3_read_44 : decode cX3_read 44 = .ok (.iload_n 2, 1) := by decide +kernel
theorem dX3_read_45 : decode cX3_read 45 = .ok (.iadd, 1) := by decide +kernel
theorem dX3_read_46 : decode cX3_read 46 = .ok (.iaload, 1) := by decide +kernel
theorem dX3_read_47 : decode cX3_read 47 = .ok (.i2l, 1) := by decide +kernel
theorem dX3_read_48 : decode cX3_read 48 = .ok (.lreturn, 1) := by decide +kernel
theorem dX3_tell_0 : decode cX3_tell 0 = .ok (.iload_n 1, 1) := by decide +kernel
theorem dX3_tell_1 : decode cX3_tell 1 = .ok (.bipush 16, 2) := by decide +kernel
theorem dX3_tell_3 : decode cX3_tell 3 = .ok (.invokestatic 78, 3) := by decide +kernel
theorem dX3_tell_6 : decode cX3_tell 6 = .ok (.ifCond .ne 11, 3) := by decide +kernel
theorem dX3_tell_9 : decode cX3_tell 9 = .ok (.iload_n 2, 1) := by decide +kernel
theorem dX3_tell_10 : decode cX3_tell 10 = .ok (.iconst 3, 1) := by decide +kernel
theorem dX3_tell_11 : decode cX3_tell 11 = .ok (.invokestatic 78, 3) := by decide +kernel
theorem dX3_tell_14 : decode cX3_tell 14 = .ok (.ifCond .eq 5, 3) := by decide +kernel
theorem dX3_tell_17 : decode cX3_tell 17 = .ok (.iconst (-1), 1) := by decide +kernel
theorem dX3_tell_18 : decode cX3_tell 18 = .ok (.ireturn, 1) := by decide +kernel
theorem dX3_tell_19 : decode cX3_tell 19 = .ok (.iload_n 2, 1) := by decide +kernel
theorem dX3_tell_20 : decode cX3_tell 20 = .ok (.ifCond .ne 10, 3) := by decide +kernel
theorem dX3_tell_23 : decode cX3_tell 23 = .ok (.aload_n 0, 1) := by decide +kernel
theorem dX3_tell_24 : decode cX3_tell 24 = .ok (.getfield 7, 3) := by decide +kernel
theorem dX3_tell_27 : decode cX3_tell 27 = .ok (.iload_n 1, 1) := by decide +kernel
theorem dX3_tell_28 : decode cX3_tell 28 = .ok (.iaload, 1) := by decide +kernel
theorem dX3_tell_29 : decode cX3_tell 29 = .ok (.ireturn, 1) := by decide +kernel
theorem dX3_tell_30 : decode cX3_tell 30 = .ok (.aload_n 0, 1) := by decide +kernel
theorem dX3_tell_31 : decode cX3_tell 31 = .ok (.getfield 7, 3) := by decide +kernel
theorem dX3_tell_34 : decode cX3_tell 34 = .ok (.iload_n 1, 1) := by decide +kernel
theorem dX3_tell_35 : decode cX3_tell 35 = .ok (.iaload, 1) := by decide +kernel
theorem dX3_tell_36 : decode cX3_tell 36 = .ok (.ifCond .ne 6, 3) := by decide +kernel
theorem dX3_tell_39 : decode cX3_tell 39 = .ok (.bipush (-2), 2) := by decide +kernel
theorem dX3_tell_41 : decode cX3_tell 41 = .ok (.ireturn, 1) := by decide +kernel
theorem dX3_tell_42 : decode cX3_tell 42 = .ok (.iload_n 2, 1) := by decide +kernel
theorem dX3_tell_43 : decode cX3_tell 43 = .ok (.iconst 1, 1) := by decide +kernel
theorem dX3_tell_44 : decode cX3_tell 44 = .ok (.if_icmp .ne 26, 3) := by decide +kernel
theorem dX3_tell_47 : decode cX3_tell 47 = .ok (.aload_n 0, 1) := by decide +kernel
theorem dX3_tell_48 : decode cX3_tell 48 = .ok (.iload_n 1, 1) := by decide +kernel
theorem dX3_tell_49 : decode cX3_tell 49 = .ok (.invokevirtual 36, 3) := by decide +kernel
theorem dX3_tell_52 : decode cX3_tell 52 = .ok (.ifCond .eq 11, 3) := by decide +kernel
theorem dX3_tell_55 : decode cX3_tell 55 = .ok (.aload_n 0, 1) := by decide +kernel
theorem dX3_tell_56 : decode cX3_tell 56 = .ok (.iload_n 1, 1) := by decide +kernel
theorem dX3_tell_57 : decode cX3_tell 57 = .ok (.invokevirtual 40, 3) := by decide +kernel
theorem dX3_tell_60 : decode cX3_tell 60 = .ok (.goto 9, 3) := by decide +kernel
theorem dX3_tell_63 : decode cX3_tell 63 = .ok (.aload_n 0, 1) := by decide +kernel
theorem dX3_tell_64 : decode cX3_tell 64 = .ok (.getfield 13, 3) := by decide +kernel
theorem dX3_tell_67 : decode cX3_tell 67 = .ok (.iload_n 1, 1) := by decide +kernel
theorem dX3_tell_68 : decode cX3_tell 68 = .ok (.iaload, 1) := by decide +kernel
theorem dX3_tell_69 : decode cX3_tell 69 = .ok (.ireturn, 1) := by decide +kernel
theorem dX3_tell_70 : decode cX3_tell 70 = .ok (.aload_n 0, 1) := by decide +kernel
theorem dX3_tell_71 : decode cX3_tell 71 = .ok (.iload_n 1, 1) := by decide +kernel
theorem dX3_tell_72 : decode cX3_tell 72 = .ok (.invokevirtual 52, 3) := by decide +kernel
theorem dX3_tell_75 : decode cX3_tell 75 = .ok (.ireturn, 1) := by decide +kernel
theorem dX3_count_0 : decode cX3_count 0 = .ok (.iload_n 1, 1) := by decide +kernel
theorem dX3_count_1 : decode cX3_count 1 = .ok (.tableswitch 69 0 5 #[39, 44, 49, 54, 59, 64], 39) := by decide +kernel
theorem dX3_count_40 : decode cX3_count 40 = .ok (.aload_n 0, 1) := by decide +kernel
theorem dX3_count_41 : decode cX3_count 41 = .ok (.invokevirtual 61, 3) := by decide +kernel
theorem dX3_count_44 : decode cX3_count 44 = .ok (.ireturn, 1) := by decide +kernel
theorem dX3_count_45 : decode cX3_count 45 = .ok (.aload_n 0, 1) := by decide +kernel
theorem dX3_count_46 : decode cX3_count 46 = .ok (.getfield 22, 3) := by decide +kernel
theorem dX3_count_49 : decode cX3_count 49 = .ok (.ireturn, 1) := by decide +kernel
theorem dX3_count_50 : decode cX3_count 50 = .ok (.aload_n 0, 1) := by decide +kernel
theorem dX3_count_51 : decode cX3_count 51 = .ok (.getfield 58, 3) := by decide +kernel
theorem dX3_count_54 : decode cX3_count 54 = .ok (.ireturn, 1) := by decide +kernel
theorem dX3_count_55 : decode cX3_count 55 = .ok (.aload_n 0, 1) := by decide +kernel
theorem dX3_count_56 : decode cX3_count 56 = .ok (.getfield 87, 3) := by decide +kernel
theorem dX3_count_59 : decode cX3_count 59 = .ok (.ireturn, 1) := by decide +kernel
theorem dX3_count_60 : decode cX3_count 60 = .ok (.aload_n 0, 1) := by decide +kernel
theorem dX3_count_61 : decode cX3_count 61 = .ok (.invokevirtual 44, 3) := by decide +kernel
theorem dX3_count_64 : decode cX3_count 64 = .ok (.ireturn, 1) := by decide +kernel
theorem dX3_count_65 : decode cX3_count 65 = .ok (.aload_n 0, 1) := by decide +kernel
theorem dX3_count_66 : decode cX3_count 66 = .ok (.getfield 29, 3) := by decide +kernel
theorem dX3_count_69 : decode cX3_count 69 = .ok (.ireturn, 1) := by decide +kernel
theorem dX3_count_70 : decode cX3_count 70 = .ok (.iconst (-1), 1) := by decide +kernel
theorem dX3_count_71 : decode cX3_count 71 = .ok (.ireturn, 1) := by decide +kernel
end
section
theorem dL_cell_0 : decode cL_cell 0 = .ok (.iload_n 1, 1) := by decide +kernel
theorem dL_cell_1 : decode cL_cell 1 = .ok (.aload_n 0, 1) := by decide +kernel
theorem dL_cell_2 : decode cL_cell 2 = .ok (.arraylength, 1) := by decide +kernel
theorem dL_cell_3 : decode cL_cell 3 = .ok (.if_icmp .ge 9, 3) := by decide +kernel
theorem dL_cell_6 : decode cL_cell 6 = .ok (.aload_n 0, 1) := by decide +kernel
theorem dL_cell_7 : decode cL_cell 7 = .ok (.iload_n 1, 1) := by decide +kernel
theorem dL_cell_8 : decode cL_cell 8 = .ok (.iaload, 1) := by decide +kernel
theorem dL_cell_9 : decode cL_cell 9 = .ok (.goto 4, 3) := by decide +kernel
theorem dL_cell_12 : decode cL_cell 12 = .ok (.iconst 0, 1) := by decide +kernel
theorem dL_cell_13 : decode cL_cell 13 = .ok (.ireturn, 1) := by decide +kernel
theorem dL_law_0 : decode cL_law 0 = .ok (.new 7, 3) := by decide +kernel
theorem dL_law_3 : decode cL_law 3 = .ok (.dup, 1) := by decide +kernel
theorem dL_law_4 : decode cL_law 4 = .ok (.aload_n 0, 1) := by decide +kernel
theorem dL_law_5 : decode cL_law 5 = .ok (.iconst 0, 1) := by decide +kernel
theorem dL_law_6 : decode cL_law 6 = .ok (.invokestatic 9, 3) := by decide +kernel
theorem dL_law_9 : decode cL_law 9 = .ok (.invokespecial 15, 3) := by decide +kernel
theorem dL_law_12 : decode cL_law 12 = .ok (.astore_n 1, 1) := by decide +kernel
theorem dL_law_13 : decode cL_law 13 = .ok (.new 18, 3) := by decide +kernel
theorem dL_law_16 : decode cL_law 16 = .ok (.dup, 1) := by decide +kernel
theorem dL_law_17 : decode cL_law 17 = .ok (.aload_n 0, 1) := by decide +kernel
theorem dL_law_18 : decode cL_law 18 = .ok (.iconst 0, 1) := by decide +kernel
theorem dL_law_19 : decode cL_law 19 = .ok (.invokestatic 9, 3) := by decide +kernel
theorem dL_law_22 : decode cL_law 22 = .ok (.invokespecial 20, 3) := by decide +kernel
theorem dL_law_25 : decode cL_law 25 = .ok (.astore_n 2, 1) := by decide +kernel
theorem dL_law_26 : decode cL_law 26 = .ok (.iconst 1, 1) := by decide +kernel
theorem dL_law_27 : decode cL_law 27 = .ok (.istore_n 3, 1) := by decide +kernel
theorem dL_law_28 : decode cL_law 28 = .ok (.iload_n 3, 1) := by decide +kernel
theorem dL_law_29 : decode cL_law 29 = .ok (.aload_n 0, 1) := by decide +kernel
theorem dL_law_30 : decode cL_law 30 = .ok (.arraylength, 1) := by decide +kernel
theorem dL_law_31 : decode cL_law 31 = .ok (.iconst 5, 1) := by decide +kernel
theorem dL_law_32 : decode cL_law 32 = .ok (.isub, 1) := by decide +kernel
theorem dL_law_33 : decode cL_law 33 = .ok (.if_icmp .gt 537, 3) := by decide +kernel
theorem dL_law_36 : decode cL_law 36 = .ok (.aload_n 0, 1) := by decide +kernel
theorem dL_law_37 : decode cL_law 37 = .ok (.iload_n 3, 1) := by decide +kernel
theorem dL_law_38 : decode cL_law 38 = .ok (.iaload, 1) := by decide +kernel
theorem dL_law_39 : decode cL_law 39 = .ok (.bipush 15, 2) := by decide +kernel
theorem dL_law_41 : decode cL_law 41 = .ok (.iand, 1) := by decide +kernel
theorem dL_law_42 : decode cL_law 42 = .ok (.tableswitch 522 0 12 #[66, 125, 168, 201, 254, 297, 330, 343, 366, 399, 432, 466, 499], 66) := by decide +kernel
theorem dL_law_108 : decode cL_law 108 = .ok (.aload_n 1, 1) := by decide +kernel
theorem dL_law_109 : decode cL_law 109 = .ok (.aload_n 0, 1) := by decide +kernel
theorem dL_law_110 : decode cL_law 110 = .ok (.iload_n 3, 1) := by decide +kernel
theorem dL_law_111 : decode cL_law 111 = .ok (.iconst 1, 1) := by decide +kernel
theorem dL_law_112 : decode cL_law 112 = .ok (.iadd, 1) := by decide +kernel
theorem dL_law_113 : decode cL_law 113 = .ok (.iaload, 1) := by decide +kernel
theorem dL_law_114 : decode cL_law 114 = .ok (.aload_n 0, 1) := by decide +kernel
theorem dL_law_115 : decode cL_law 115 = .ok (.iload_n 3, 1) := by decide +kernel
theorem dL_law_116 : decode cL_law 116 = .ok (.iconst 2, 1) := by decide +kernel
theorem dL_law_117 : decode cL_law 117 = .ok (.iadd, 1) := by decide +kernel
theorem dL_law_118 : decode cL_law 118 = .ok (.iaload, 1) := by decide +kernel
theorem dL_law_119 : decode cL_law 119 = .ok (.aload_n 0, 1) := by decide +kernel
theorem dL_law_120 : decode cL_law 120 = .ok (.iload_n 3, 1) := by decide +kernel
theorem dL_law_121 : decode cL_law 121 = .ok (.iconst 3, 1) := by decide +kernel
theorem dL_law_122 : decode cL_law 122 = .ok (.iadd, 1) := by decide +kernel
theorem dL_law_123 : decode cL_law 123 = .ok (.iaload, 1) := by decide +kernel
theorem dL_law_124 : decode cL_law 124 = .ok (.ifCond .eq 7, 3) := by decide +kernel
theorem dL_law_127 : decode cL_law 127 = .ok (.iconst 1, 1) := by decide +kernel
theorem dL_law_128 : decode cL_law 128 = .ok (.goto 4, 3) := by decide +kernel
theorem dL_law_131 : decode cL_law 131 = .ok (.iconst 0, 1) := by decide +kernel
theorem dL_law_132 : decode cL_law 132 = .ok (.invokevirtual 21, 3) := by decide +kernel
theorem dL_law_135 : decode cL_law 135 = .ok (.aload_n 2, 1) := by decide +kernel
theorem dL_law_136 : decode cL_law 136 = .ok (.aload_n 0, 1) := by decide +kernel
theorem dL_law_137 : decode cL_law 137 = .ok (.iload_n 3, 1) := by decide +kernel
theorem dL_law_138 : decode cL_law 138 = .ok (.iconst 1, 1) := by decide +kernel
theorem dL_law_139 : decode cL_law 139 = .ok (.iadd, 1) := by decide +kernel
theorem dL_law_140 : decode cL_law 140 = .ok (.iaload, 1) := by decide +kernel
theorem dL_law_141 : decode cL_law 141 = .ok (.aload_n 0, 1) := by decide +kernel
theorem dL_law_142 : decode cL_law 142 = .ok (.iload_n 3, 1) := by decide +kernel
theorem dL_law_143 : decode cL_law 143 = .ok (.iconst 2, 1) := by decide +kernel
theorem dL_law_144 : decode cL_law 144 = .ok (.iadd, 1) := by decide +kernel
theorem dL_law_145 : decode cL_law 145 = .ok (.iaload, 1) := by decide +kernel
theorem dL_law_146 : decode cL_law 146 = .ok (.aload_n 0, 1) := by decide +kernel
theorem dL_law_147 : decode cL_law 147 = .ok (.iload_n 3, 1) := by decide +kernel
theorem dL_law_148 : decode cL_law 148 = .ok (.iconst 3, 1) := by decide +kernel
theorem dL_law_149 : decode cL_law 149 = .ok (.iadd, 1) := by decide +kernel
theorem dL_law_150 : decode cL_law 150 = .ok (.iaload, 1) := by decide +kernel
theorem dL_law_151 : decode cL_law 151 = .ok (.ifCond .eq 7, 3) := by decide +kernel
theorem dL_law_154 : decode cL_law 154 = .ok (.iconst 1, 1) := by decide +kernel
theorem dL_law_155 : decode cL_law 155 = .ok (.goto 4, 3) := by decide +kernel
theorem dL_law_158 : decode cL_law 158 = .ok (.iconst 0, 1) := by decide +kernel
theorem dL_law_159 : decode cL_law 159 = .ok (.invokevirtual 25, 3) := by decide +kernel
theorem dL_law_162 : decode cL_law 162 = .ok (.if_icmp .eq 402, 3) := by decide +kernel
theorem dL_law_165 : decode cL_law 165 = .ok (.iconst 0, 1) := by decide +kernel
theorem dL_law_166 : decode cL_law 166 = .ok (.ireturn, 1) := by decide +kernel
theorem dL_law_167 : decode cL_law 167 = .ok (.aload_n 1, 1) := by decide +kernel
theorem dL_law_168 : decode cL_law 168 = .ok (.aload_n 0, 1) := by decide +kernel
theorem dL_law_169 : decode cL_law 169 = .ok (.iload_n 3, 1) := by decide +kernel
theorem dL_law_170 : decode cL_law 170 = .ok (.iconst 1, 1) := by decide +kernel
theorem dL_law_171 : decode cL_law 171 = .ok (.iadd, 1) := by decide +kernel
theorem dL_law_172 : decode cL_law 172 = .ok (.iaload, 1) := by decide +kernel
theorem dL_law_173 : decode cL_law 173 = .ok (.aload_n 0, 1) := by decide +kernel
theorem dL_law_174 : decode cL_law 174 = .ok (.iload_n 3, 1) := by decide +kernel
theorem dL_law_175 : decode cL_law 175 = .ok (.iconst 2, 1) := by decide +kernel
theorem dL_law_176 : decode cL_law 176 = .ok (.iadd, 1) := by decide +kernel
theorem dL_law_177 : decode cL_law 177 = .ok (.iaload, 1) := by decide +kernel
theorem dL_law_178 : decode cL_law 178 = .ok (.aload_n 0, 1) := by decide +kernel
theorem dL_law_179 : decode cL_law 179 = .ok (.iload_n 3, 1) := by decide +kernel
theorem dL_law_180 : decode cL_law 180 = .ok (.iconst 3, 1) := by decide +kernel
theorem dL_law_181 : decode cL_law 181 = .ok (.iadd, 1) := by decide +kernel
theorem dL_law_182 : decode cL_law 182 = .ok (.iaload, 1) := by decide +kernel
theorem dL_law_183 : decode cL_law 183 = .ok (.invokevirtual 26, 3) := by decide +kernel
theorem dL_law_186 : decode cL_law 186 = .ok (.aload_n 2, 1) := by decide +kernel
theorem dL_law_187 : decode cL_law 187 = .ok (.aload_n 0, 1) := by decide +kernel
theorem dL_law_188 : decode cL_law 188 = .ok (.iload_n 3, 1) := by decide +kernel
theorem dL_law_189 : decode cL_law 189 = .ok (.iconst 1, 1) := by decide +kernel
theorem dL_law_190 : decode cL_law 190 = .ok (.iadd, 1) := by decide +kernel
theorem dL_law_191 : decode cL_law 191 = .ok (.iaload, 1) := by decide +kernel
theorem dL_law_192 : decode cL_law 192 = .ok (.aload_n 0, 1) := by decide +kernel
theorem dL_law_193 : decode cL_law 193 = .ok (.iload_n 3, 1) := by decide +kernel
theorem dL_law_194 : decode cL_law 194 = .ok (.iconst 2, 1) := by decide +kernel
theorem dL_law_195 : decode cL_law 195 = .ok (.iadd, 1) := by decide +kernel
theorem dL_law_196 : decode cL_law 196 = .ok (.iaload, 1) := by decide +kernel
theorem dL_law_197 : decode cL_law 197 = .ok (.aload_n 0, 1) := by decide +kernel
theorem dL_law_198 : decode cL_law 198 = .ok (.iload_n 3, 1) := by decide +kernel
theorem dL_law_199 : decode cL_law 199 = .ok (.iconst 3, 1) := by decide +kernel
theorem dL_law_200 : decode cL_law 200 = .ok (.iadd, 1) := by decide +kernel
theorem dL_law_201 : decode cL_law 201 = .ok (.iaload, 1) := by decide +kernel
theorem dL_law_202 : decode cL_law 202 = .ok (.invokevirtual 30, 3) := by decide +kernel
theorem dL_law_205 : decode cL_law 205 = .ok (.if_icmp .eq 359, 3) := by decide +kernel
theorem dL_law_208 : decode cL_law 208 = .ok (.iconst 0, 1) := by decide +kernel
theorem dL_law_209 : decode cL_law 209 = .ok (.ireturn, 1) := by decide +kernel
theorem dL_law_210 : decode cL_law 210 = .ok (.aload_n 1, 1) := by decide +kernel
theorem dL_law_211 : decode cL_law 211 = .ok (.aload_n 0, 1) := by decide +kernel
theorem dL_law_212 : decode cL_law 212 = .ok (.iload_n 3, 1) := by decide +kernel
theorem dL_law_213 : decode cL_law 213 = .ok (.iconst 1, 1) := by decide +kernel
theorem dL_law_214 : decode cL_law 214 = .ok (.iadd, 1) := by decide +kernel
theorem dL_law_215 : decode cL_law 215 = .ok (.iaload, 1) := by decide +kernel
theorem dL_law_216 : decode cL_law 216 = .ok (.aload_n 0, 1) := by decide +kernel
theorem dL_law_217 : decode cL_law 217 = .ok (.iload_n 3, 1) := by decide +kernel
theorem dL_law_218 : decode cL_law 218 = .ok (.iconst 2, 1) := by decide +kernel
theorem dL_law_219 : decode cL_law 219 = .ok (.iadd, 1) := by decide +kernel
theorem dL_law_220 : decode cL_law 220 = .ok (.iaload, 1) := by decide +kernel
theorem dL_law_221 : decode cL_law 221 = .ok (.invokevirtual 31, 3) := by decide +kernel
theorem dL_law_224 : decode cL_law 224 = .ok (.aload_n 2, 1) := by decide +kernel
theorem dL_law_225 : decode cL_law 225 = .ok (.aload_n 0, 1) := by decide +kernel
theorem dL_law_226 : decode cL_law 226 = .ok (.iload_n 3, 1) := by decide +kernel
theorem dL_law_227 : decode cL_law 227 = .ok (.iconst 1, 1) := by decide +kernel
theorem dL_law_228 : decode cL_law 228 = .ok (.iadd, 1) := by decide +kernel
theorem dL_law_229 : decode cL_law 229 = .ok (.iaload, 1) := by decide +kernel
theorem dL_law_230 : decode cL_law 230 = .ok (.aload_n 0, 1) := by decide +kernel
theorem dL_law_231 : decode cL_law 231 = .ok (.iload_n 3, 1) := by decide +kernel
theorem dL_law_232 : decode cL_law 232 = .ok (.iconst 2, 1) := by decide +kernel
theorem dL_law_233 : decode cL_law 233 = .ok (.iadd, 1) := by decide +kernel
theorem dL_law_234 : decode cL_law 234 = .ok (.iaload, 1) := by decide +kernel
theorem dL_law_235 : decode cL_law 235 = .ok (.invokevirtual 35, 3) := by decide +kernel
theorem dL_law_238 : decode cL_law 238 = .ok (.if_icmp .eq 326, 3) := by decide +kernel
theorem dL_law_241 : decode cL_law 241 = .ok (.iconst 0, 1) := by decide +kernel
theorem dL_law_242 : decode cL_law 242 = .ok (.ireturn, 1) := by decide +kernel
theorem dL_law_243 : decode cL_law 243 = .ok (.aload_n 1, 1) := by decide +kernel
theorem dL_law_244 : decode cL_law 244 = .ok (.aload_n 0, 1) := by decide +kernel
theorem dL_law_245 : decode cL_law 245 = .ok (.iload_n 3, 1) := by decide +kernel
theorem dL_law_246 : decode cL_law 246 = .ok (.iconst 1, 1) := by decide +kernel
theorem dL_law_247 : decode cL_law 247 = .ok (.iadd, 1) := by decide +kernel
theorem dL_law_248 : decode cL_law 248 = .ok (.iaload, 1) := by decide +kernel
theorem dL_law_249 : decode cL_law 249 = .ok (.aload_n 0, 1) := by decide +kernel
theorem dL_law_250 : decode cL_law 250 = .ok (.iload_n 3, 1) := by decide +kernel
theorem dL_law_251 : decode cL_law 251 = .ok (.iconst 2, 1) := by decide +kernel
theorem dL_law_252 : decode cL_law 252 = .ok (.iadd, 1) := by decide +kernel
theorem dL_law_253 : decode cL_law 253 = .ok (.iaload, 1) := by decide +kernel
theorem dL_law_254 : decode cL_law 254 = .ok (.aload_n 0, 1) := by decide +kernel
theorem dL_law_255 : decode cL_law 255 = .ok (.iload_n 3, 1) := by decide +kernel
theorem dL_law_256 : decode cL_law 256 = .ok (.iconst 3, 1) := by decide +kernel
theorem dL_law_257 : decode cL_law 257 = .ok (.iadd, 1) := by decide +kernel
theorem dL_law_258 : decode cL_law 258 = .ok (.iaload, 1) := by decide +kernel
theorem dL_law_259 : decode cL_law 259 = .ok (.aload_n 0, 1) := by decide +kernel
theorem dL_law_260 : decode cL_law 260 = .ok (.iload_n 3, 1) := by decide +kernel
theorem dL_law_261 : decode cL_law 261 = .ok (.iconst 4, 1) := by decide +kernel
theorem dL_law_262 : decode cL_law 262 = .ok (.iadd, 1) := by decide +kernel
theorem dL_law_263 : decode cL_law 263 = .ok (.iaload, 1) := by decide +kernel
theorem dL_law_264 : decode cL_law 264 = .ok (.invokevirtual 36, 3) := by decide +kernel
theorem dL_law_267 : decode cL_law 267 = .ok (.aload_n 2, 1) := by decide +kernel
theorem dL_law_268 : decode cL_law 268 = .ok (.aload_n 0, 1) := by decide +kernel
theorem dL_law_269 : decode cL_law 269 = .ok (.iload_n 3, 1) := by decide +kernel
theorem dL_law_270 : decode cL_law 270 = .ok (.iconst 1, 1) := by decide +kernel
theorem dL_law_271 : decode cL_law 271 = .ok (.iadd, 1) := by decide +kernel
theorem dL_law_272 : decode cL_law 272 = .ok (.iaload, 1) := by decide +kernel
theorem dL_law_273 : decode cL_law 273 = .ok (.aload_n 0, 1) := by decide +kernel
theorem dL_law_274 : decode cL_law 274 = .ok (.iload_n 3, 1) := by decide +kernel
theorem dL_law_275 : decode cL_law 275 = .ok (.iconst 2, 1) := by decide +kernel
theorem dL_law_276 : decode cL_law 276 = .ok (.iadd, 1) := by decide +kernel
theorem dL_law_277 : decode cL_law 277 = .ok (.iaload, 1) := by decide +kernel
theorem dL_law_278 : decode cL_law 278 = .ok (.aload_n 0, 1) := by decide +kernel
theorem dL_law_279 : decode cL_law 279 = .ok (.iload_n 3, 1) := by decide +kernel
theorem dL_law_280 : decode cL_law 280 = .ok (.iconst 3, 1) := by decide +kernel
theorem dL_law_281 : decode cL_law 281 = .ok (.iadd, 1) := by decide +kernel
theorem dL_law_282 : decode cL_law 282 = .ok (.iaload, 1) := by decide +kernel
theorem dL_law_283 : decode cL_law 283 = .ok (.aload_n 0, 1) := by decide +kernel
theorem dL_law_284 : decode cL_law 284 = .ok (.iload_n 3, 1) := by decide +kernel
theorem dL_law_285 : decode cL_law 285 = .ok (.iconst 4, 1) := by decide +kernel
theorem dL_law_286 : decode cL_law 286 = .ok (.iadd, 1) := by decide +kernel
theorem dL_law_287 : decode cL_law 287 = .ok (.iaload, 1) := by decide +kernel
theorem dL_law_288 : decode cL_law 288 = .ok (.invokevirtual 40, 3) := by decide +kernel
theorem dL_law_291 : decode cL_law 291 = .ok (.if_icmp .eq 273, 3) := by decide +kernel
theorem dL_law_294 : decode cL_law 294 = .ok (.iconst 0, 1) := by decide +kernel
theorem dL_law_295 : decode cL_law 295 = .ok (.ireturn, 1) := by decide +kernel
theorem dL_law_296 : decode cL_law 296 = .ok (.aload_n 1, 1) := by decide +kernel
theorem dL_law_297 : decode cL_law 297 = .ok (.aload_n 0, 1) := by decide +kernel
theorem dL_law_298 : decode cL_law 298 = .ok (.iload_n 3, 1) := by decide +kernel
theorem dL_law_299 : decode cL_law 299 = .ok (.iconst 1, 1) := by decide +kernel
theorem dL_law_300 : decode cL_law 300 = .ok (.iadd, 1) := by decide +kernel
theorem dL_law_301 : decode cL_law 301 = .ok (.iaload, 1) := by decide +kernel
theorem dL_law_302 : decode cL_law 302 = .ok (.aload_n 0, 1) := by decide +kernel
theorem dL_law_303 : decode cL_law 303 = .ok (.iload_n 3, 1) := by decide +kernel
theorem dL_law_304 : decode cL_law 304 = .ok (.iconst 2, 1) := by decide +kernel
theorem dL_law_305 : decode cL_law 305 = .ok (.iadd, 1) := by decide +kernel
theorem dL_law_306 : decode cL_law 306 = .ok (.iaload, 1) := by decide +kernel
theorem dL_law_307 : decode cL_law 307 = .ok (.aload_n 0, 1) := by decide +kernel
theorem dL_law_308 : decode cL_law 308 = .ok (.iload_n 3, 1) := by decide +kernel
theorem dL_law_309 : decode cL_law 309 = .ok (.iconst 3, 1) := by decide +kernel
theorem dL_law_310 : decode cL_law 310 = .ok (.iadd, 1) := by decide +kernel
theorem dL_law_311 : decode cL_law 311 = .ok (.iaload, 1) := by decide +kernel
theorem dL_law_312 : decode cL_law 312 = .ok (.invokevirtual 41, 3) := by decide +kernel
theorem dL_law_315 : decode cL_law 315 = .ok (.aload_n 2, 1) := by decide +kernel
theorem dL_law_316 : decode cL_law 316 = .ok (.aload_n 0, 1) := by decide +kernel
theorem dL_law_317 : decode cL_law 317 = .ok (.iload_n 3, 1) := by decide +kernel
theorem dL_law_318 : decode cL_law 318 = .ok (.iconst 1, 1) := by decide +kernel
theorem dL_law_319 : decode cL_law 319 = .ok (.iadd, 1) := by decide +kernel
theorem dL_law_320 : decode cL_law 320 = .ok (.iaload, 1) := by decide +kernel
theorem dL_law_321 : decode cL_law 321 = .ok (.aload_n 0, 1) := by decide +kernel
theorem dL_law_322 : decode cL_law 322 = .ok (.iload_n 3, 1) := by decide +kernel
theorem dL_law_323 : decode cL_law 323 = .ok (.iconst 2, 1) := by decide +kernel
theorem dL_law_324 : decode cL_law 324 = .ok (.iadd, 1) := by decide +kernel
theorem dL_law_325 : decode cL_law 325 = .ok (.iaload, 1) := by decide +kernel
theorem dL_law_326 : decode cL_law 326 = .ok (.aload_n 0, 1) := by decide +kernel
theorem dL_law_327 : decode cL_law 327 = .ok (.iload_n 3, 1) := by decide +kernel
theorem dL_law_328 : decode cL_law 328 = .ok (.iconst 3, 1) := by decide +kernel
theorem dL_law_329 : decode cL_law 329 = .ok (.iadd, 1) := by decide +kernel
theorem dL_law_330 : decode cL_law 330 = .ok (.iaload, 1) := by decide +kernel
theorem dL_law_331 : decode cL_law 331 = .ok (.invokevirtual 44, 3) := by decide +kernel
theorem dL_law_334 : decode cL_law 334 = .ok (.if_icmp .eq 230, 3) := by decide +kernel
theorem dL_law_337 : decode cL_law 337 = .ok (.iconst 0, 1) := by decide +kernel
theorem dL_law_338 : decode cL_law 338 = .ok (.ireturn, 1) := by decide +kernel
theorem dL_law_339 : decode cL_law 339 = .ok (.aload_n 1, 1) := by decide +kernel
theorem dL_law_340 : decode cL_law 340 = .ok (.aload_n 0, 1) := by decide +kernel
theorem dL_law_341 : decode cL_law 341 = .ok (.iload_n 3, 1) := by decide +kernel
theorem dL_law_342 : decode cL_law 342 = .ok (.iconst 1, 1) := by decide +kernel
theorem dL_law_343 : decode cL_law 343 = .ok (.iadd, 1) := by decide +kernel
theorem dL_law_344 : decode cL_law 344 = .ok (.iaload, 1) := by decide +kernel
theorem dL_law_345 : decode cL_law 345 = .ok (.aload_n 0, 1) := by decide +kernel
theorem dL_law_346 : decode cL_law 346 = .ok (.iload_n 3, 1) := by decide +kernel
theorem dL_law_347 : decode cL_law 347 = .ok (.iconst 2, 1) := by decide +kernel
theorem dL_law_348 : decode cL_law 348 = .ok (.iadd, 1) := by decide +kernel
theorem dL_law_349 : decode cL_law 349 = .ok (.iaload, 1) := by decide +kernel
theorem dL_law_350 : decode cL_law 350 = .ok (.invokevirtual 45, 3) := by decide +kernel
theorem dL_law_353 : decode cL_law 353 = .ok (.aload_n 2, 1) := by decide +kernel
theorem dL_law_354 : decode cL_law 354 = .ok (.aload_n 0, 1) := by decide +kernel
theorem dL_law_355 : decode cL_law 355 = .ok (.iload_n 3, 1) := by decide +kernel
theorem dL_law_356 : decode cL_law 356 = .ok (.iconst 1, 1) := by decide +kernel
theorem dL_law_357 : decode cL_law 357 = .ok (.iadd, 1) := by decide +kernel
theorem dL_law_358 : decode cL_law 358 = .ok (.iaload, 1) := by decide +kernel
theorem dL_law_359 : decode cL_law 359 = .ok (.aload_n 0, 1) := by decide +kernel
theorem dL_law_360 : decode cL_law 360 = .ok (.iload_n 3, 1) := by decide +kernel
theorem dL_law_361 : decode cL_law 361 = .ok (.iconst 2, 1) := by decide +kernel
theorem dL_law_362 : decode cL_law 362 = .ok (.iadd, 1) := by decide +kernel
theorem dL_law_363 : decode cL_law 363 = .ok (.iaload, 1) := by decide +kernel
theorem dL_law_364 : decode cL_law 364 = .ok (.invokevirtual 48, 3) := by decide +kernel
theorem dL_law_367 : decode cL_law 367 = .ok (.if_icmp .eq 197, 3) := by decide +kernel
theorem dL_law_370 : decode cL_law 370 = .ok (.iconst 0, 1) := by decide +kernel
theorem dL_law_371 : decode cL_law 371 = .ok (.ireturn, 1) := by decide +kernel
theorem dL_law_372 : decode cL_law 372 = .ok (.aload_n 1, 1) := by decide +kernel
theorem dL_law_373 : decode cL_law 373 = .ok (.invokevirtual 49, 3) := by decide +kernel
theorem dL_law_376 : decode cL_law 376 = .ok (.aload_n 2, 1) := by decide +kernel
theorem dL_law_377 : decode cL_law 377 = .ok (.invokevirtual 53, 3) := by decide +kernel
theorem dL_law_380 : decode cL_law 380 = .ok (.if_icmp .eq 184, 3) := by decide +kernel
theorem dL_law_383 : decode cL_law 383 = .ok (.iconst 0, 1) := by decide +kernel
theorem dL_law_384 : decode cL_law 384 = .ok (.ireturn, 1) := by decide +kernel
theorem dL_law_385 : decode cL_law 385 = .ok (.aload_n 1, 1) := by decide +kernel
theorem dL_law_386 : decode cL_law 386 = .ok (.aload_n 0, 1) := by decide +kernel
theorem dL_law_387 : decode cL_law 387 = .ok (.iload_n 3, 1) := by decide +kernel
theorem dL_law_388 : decode cL_law 388 = .ok (.iconst 1, 1) := by decide +kernel
theorem dL_law_389 : decode cL_law 389 = .ok (.iadd, 1) := by decide +kernel
theorem dL_law_390 : decode cL_law 390 = .ok (.iaload, 1) := by decide +kernel
theorem dL_law_391 : decode cL_law 391 = .ok (.invokevirtual 54, 3) := by decide +kernel
theorem dL_law_394 : decode cL_law 394 = .ok (.aload_n 2, 1) := by decide +kernel
theorem dL_law_395 : decode cL_law 395 = .ok (.aload_n 0, 1) := by decide +kernel
theorem dL_law_396 : decode cL_law 396 = .ok (.iload_n 3, 1) := by decide +kernel
theorem dL_law_397 : decode cL_law 397 = .ok (.iconst 1, 1) := by decide +kernel
theorem dL_law_398 : decode cL_law 398 = .ok (.iadd, 1) := by decide +kernel
theorem dL_law_399 : decode cL_law 399 = .ok (.iaload, 1) := by decide +kernel
theorem dL_law_400 : decode cL_law 400 = .ok (.invokevirtual 58, 3) := by decide +kernel
theorem dL_law_403 : decode cL_law 403 = .ok (.if_icmp .eq 161, 3) := by decide +kernel
theorem dL_law_406 : decode cL_law 406 = .ok (.iconst 0, 1) := by decide +kernel
theorem dL_law_407 : decode cL_law 407 = .ok (.ireturn, 1) := by decide +kernel
theorem dL_law_408 : decode cL_law 408 = .ok (.aload_n 1, 1) := by decide +kernel
theorem dL_law_409 : decode cL_law 409 = .ok (.aload_n 0, 1) := by decide +kernel
theorem dL_law_410 : decode cL_law 410 = .ok (.iload_n 3, 1) := by decide +kernel
theorem dL_law_411 : decode cL_law 411 = .ok (.iconst 1, 1) := by decide +kernel
theorem dL_law_412 : decode cL_law 412 = .ok (.iadd, 1) := by decide +kernel
theorem dL_law_413 : decode cL_law 413 = .ok (.iaload, 1) := by decide +kernel
theorem dL_law_414 : decode cL_law 414 = .ok (.aload_n 0, 1) := by decide +kernel
theorem dL_law_415 : decode cL_law 415 = .ok (.iload_n 3, 1) := by decide +kernel
theorem dL_law_416 : decode cL_law 416 = .ok (.iconst 2, 1) := by decide +kernel
theorem dL_law_417 : decode cL_law 417 = .ok (.iadd, 1) := by decide +kernel
theorem dL_law_418 : decode cL_law 418 = .ok (.iaload, 1) := by decide +kernel
theorem dL_law_419 : decode cL_law 419 = .ok (.invokevirtual 59, 3) := by decide +kernel
theorem dL_law_422 : decode cL_law 422 = .ok (.aload_n 2, 1) := by decide +kernel
theorem dL_law_423 : decode cL_law 423 = .ok (.aload_n 0, 1) := by decide +kernel
theorem dL_law_424 : decode cL_law 424 = .ok (.iload_n 3, 1) := by decide +kernel
theorem dL_law_425 : decode cL_law 425 = .ok (.iconst 1, 1) := by decide +kernel
theorem dL_law_426 : decode cL_law 426 = .ok (.iadd, 1) := by decide +kernel
theorem dL_law_427 : decode cL_law 427 = .ok (.iaload, 1) := by decide +kernel
theorem dL_law_428 : decode cL_law 428 = .ok (.aload_n 0, 1) := by decide +kernel
theorem dL_law_429 : decode cL_law 429 = .ok (.iload_n 3, 1) := by decide +kernel
theorem dL_law_430 : decode cL_law 430 = .ok (.iconst 2, 1) := by decide +kernel
theorem dL_law_431 : decode cL_law 431 = .ok (.iadd, 1) := by decide +kernel
theorem dL_law_432 : decode cL_law 432 = .ok (.iaload, 1) := by decide +kernel
theorem dL_law_433 : decode cL_law 433 = .ok (.invokevirtual 62, 3) := by decide +kernel
theorem dL_law_436 : decode cL_law 436 = .ok (.if_icmp .eq 128, 3) := by decide +kernel
theorem dL_law_439 : decode cL_law 439 = .ok (.iconst 0, 1) := by decide +kernel
theorem dL_law_440 : decode cL_law 440 = .ok (.ireturn, 1) := by decide +kernel
theorem dL_law_441 : decode cL_law 441 = .ok (.aload_n 1, 1) := by decide +kernel
theorem dL_law_442 : decode cL_law 442 = .ok (.aload_n 0, 1) := by decide +kernel
theorem dL_law_443 : decode cL_law 443 = .ok (.iload_n 3, 1) := by decide +kernel
theorem dL_law_444 : decode cL_law 444 = .ok (.iconst 1, 1) := by decide +kernel
theorem dL_law_445 : decode cL_law 445 = .ok (.iadd, 1) := by decide +kernel
theorem dL_law_446 : decode cL_law 446 = .ok (.iaload, 1) := by decide +kernel
theorem dL_law_447 : decode cL_law 447 = .ok (.aload_n 0, 1) := by decide +kernel
theorem dL_law_448 : decode cL_law 448 = .ok (.iload_n 3, 1) := by decide +kernel
theorem dL_law_449 : decode cL_law 449 = .ok (.iconst 2, 1) := by decide +kernel
theorem dL_law_450 : decode cL_law 450 = .ok (.iadd, 1) := by decide +kernel
theorem dL_law_451 : decode cL_law 451 = .ok (.iaload, 1) := by decide +kernel
theorem dL_law_452 : decode cL_law 452 = .ok (.invokevirtual 63, 3) := by decide +kernel
theorem dL_law_455 : decode cL_law 455 = .ok (.aload_n 2, 1) := by decide +kernel
theorem dL_law_456 : decode cL_law 456 = .ok (.aload_n 0, 1) := by decide +kernel
theorem dL_law_457 : decode cL_law 457 = .ok (.iload_n 3, 1) := by decide +kernel
theorem dL_law_458 : decode cL_law 458 = .ok (.iconst 1, 1) := by decide +kernel
theorem dL_law_459 : decode cL_law 459 = .ok (.iadd, 1) := by decide +kernel
theorem dL_law_460 : decode cL_law 460 = .ok (.iaload, 1) := by decide +kernel
theorem dL_law_461 : decode cL_law 461 = .ok (.aload_n 0, 1) := by decide +kernel
theorem dL_law_462 : decode cL_law 462 = .ok (.iload_n 3, 1) := by decide +kernel
theorem dL_law_463 : decode cL_law 463 = .ok (.iconst 2, 1) := by decide +kernel
theorem dL_law_464 : decode cL_law 464 = .ok (.iadd, 1) := by decide +kernel
theorem dL_law_465 : decode cL_law 465 = .ok (.iaload, 1) := by decide +kernel
theorem dL_law_466 : decode cL_law 466 = .ok (.invokevirtual 66, 3) := by decide +kernel
theorem dL_law_469 : decode cL_law 469 = .ok (.if_icmp .eq 95, 3) := by decide +kernel
theorem dL_law_472 : decode cL_law 472 = .ok (.iconst 0, 1) := by decide +kernel
theorem dL_law_473 : decode cL_law 473 = .ok (.ireturn, 1) := by decide +kernel
theorem dL_law_474 : decode cL_law 474 = .ok (.aload_n 1, 1) := by decide +kernel
theorem dL_law_475 : decode cL_law 475 = .ok (.aload_n 0, 1) := by decide +kernel
theorem dL_law_476 : decode cL_law 476 = .ok (.iload_n 3, 1) := by decide +kernel
theorem dL_law_477 : decode cL_law 477 = .ok (.iconst 1, 1) := by decide +kernel
theorem dL_law_478 : decode cL_law 478 = .ok (.iadd, 1) := by decide +kernel
theorem dL_law_479 : decode cL_law 479 = .ok (.iaload, 1) := by decide +kernel
theorem dL_law_480 : decode cL_law 480 = .ok (.aload_n 0, 1) := by decide +kernel
theorem dL_law_481 : decode cL_law 481 = .ok (.iload_n 3, 1) := by decide +kernel
theorem dL_law_482 : decode cL_law 482 = .ok (.iconst 2, 1) := by decide +kernel
theorem dL_law_483 : decode cL_law 483 = .ok (.iadd, 1) := by decide +kernel
theorem dL_law_484 : decode cL_law 484 = .ok (.iaload, 1) := by decide +kernel
theorem dL_law_485 : decode cL_law 485 = .ok (.invokevirtual 67, 3) := by decide +kernel
theorem dL_law_488 : decode cL_law 488 = .ok (.aload_n 2, 1) := by decide +kernel
theorem dL_law_489 : decode cL_law 489 = .ok (.aload_n 0, 1) := by decide +kernel
theorem dL_law_490 : decode cL_law 490 = .ok (.iload_n 3, 1) := by decide +kernel
theorem dL_law_491 : decode cL_law 491 = .ok (.iconst 1, 1) := by decide +kernel
theorem dL_law_492 : decode cL_law 492 = .ok (.iadd, 1) := by decide +kernel
theorem dL_law_493 : decode cL_law 493 = .ok (.iaload, 1) := by decide +kernel
theorem dL_law_494 : decode cL_law 494 = .ok (.aload_n 0, 1) := by decide +kernel
theorem dL_law_495 : decode cL_law 495 = .ok (.iload_n 3, 1) := by decide +kernel
theorem dL_law_496 : decode cL_law 496 = .ok (.iconst 2, 1) := by decide +kernel
theorem dL_law_497 : decode cL_law 497 = .ok (.iadd, 1) := by decide +kernel
theorem dL_law_498 : decode cL_law 498 = .ok (.iaload, 1) := by decide +kernel
theorem dL_law_499 : decode cL_law 499 = .ok (.invokevirtual 71, 3) := by decide +kernel
theorem dL_law_502 : decode cL_law 502 = .ok (.lcmp, 1) := by decide +kernel
theorem dL_law_503 : decode cL_law 503 = .ok (.ifCond .eq 61, 3) := by decide +kernel
theorem dL_law_506 : decode cL_law 506 = .ok (.iconst 0, 1) := by decide +kernel
theorem dL_law_507 : decode cL_law 507 = .ok (.ireturn, 1) := by decide +kernel
theorem dL_law_508 : decode cL_law 508 = .ok (.aload_n 1, 1) := by decide +kernel
theorem dL_law_509 : decode cL_law 509 = .ok (.aload_n 0, 1) := by decide +kernel
theorem dL_law_510 : decode cL_law 510 = .ok (.iload_n 3, 1) := by decide +kernel
theorem dL_law_511 : decode cL_law 511 = .ok (.iconst 1, 1) := by decide +kernel
theorem dL_law_512 : decode cL_law 512 = .ok (.iadd, 1) := by decide +kernel
theorem dL_law_513 : decode cL_law 513 = .ok (.iaload, 1) := by decide +kernel
theorem dL_law_514 : decode cL_law 514 = .ok (.aload_n 0, 1) := by decide +kernel
theorem dL_law_515 : decode cL_law 515 = .ok (.iload_n 3, 1) := by decide +kernel
theorem dL_law_516 : decode cL_law 516 = .ok (.iconst 2, 1) := by decide +kernel
theorem dL_law_517 : decode cL_law 517 = .ok (.iadd, 1) := by decide +kernel
theorem dL_law_518 : decode cL_law 518 = .ok (.iaload, 1) := by decide +kernel
theorem dL_law_519 : decode cL_law 519 = .ok (.invokevirtual 72, 3) := by decide +kernel
theorem dL_law_522 : decode cL_law 522 = .ok (.aload_n 2, 1) := by decide +kernel
theorem dL_law_523 : decode cL_law 523 = .ok (.aload_n 0, 1) := by decide +kernel
theorem dL_law_524 : decode cL_law 524 = .ok (.iload_n 3, 1) := by decide +kernel
theorem dL_law_525 : decode cL_law 525 = .ok (.iconst 1, 1) := by decide +kernel
theorem dL_law_526 : decode cL_law 526 = .ok (.iadd, 1) := by decide +kernel
theorem dL_law_527 : decode cL_law 527 = .ok (.iaload, 1) := by decide +kernel
theorem dL_law_528 : decode cL_law 528 = .ok (.aload_n 0, 1) := by decide +kernel
theorem dL_law_529 : decode cL_law 529 = .ok (.iload_n 3, 1) := by decide +kernel
theorem dL_law_530 : decode cL_law 530 = .ok (.iconst 2, 1) := by decide +kernel
theorem dL_law_531 : decode cL_law 531 = .ok (.iadd, 1) := by decide +kernel
theorem dL_law_532 : decode cL_law 532 = .ok (.iaload, 1) := by decide +kernel
theorem dL_law_533 : decode cL_law 533 = .ok (.invokevirtual 75, 3) := by decide +kernel
theorem dL_law_536 : decode cL_law 536 = .ok (.if_icmp .eq 28, 3) := by decide +kernel
theorem dL_law_539 : decode cL_law 539 = .ok (.iconst 0, 1) := by decide +kernel
theorem dL_law_540 : decode cL_law 540 = .ok (.ireturn, 1) := by decide +kernel
theorem dL_law_541 : decode cL_law 541 = .ok (.aload_n 1, 1) := by decide +kernel
theorem dL_law_542 : decode cL_law 542 = .ok (.aload_n 0, 1) := by decide +kernel
theorem dL_law_543 : decode cL_law 543 = .ok (.iload_n 3, 1) := by decide +kernel
theorem dL_law_544 : decode cL_law 544 = .ok (.iconst 1, 1) := by decide +kernel
theorem dL_law_545 : decode cL_law 545 = .ok (.iadd, 1) := by decide +kernel
theorem dL_law_546 : decode cL_law 546 = .ok (.iaload, 1) := by decide +kernel
theorem dL_law_547 : decode cL_law 547 = .ok (.invokevirtual 76, 3) := by decide +kernel
theorem dL_law_550 : decode cL_law 550 = .ok (.aload_n 2, 1) := by decide +kernel
theorem dL_law_551 : decode cL_law 551 = .ok (.aload_n 0, 1) := by decide +kernel
theorem dL_law_552 : decode cL_law 552 = .ok (.iload_n 3, 1) := by decide +kernel
theorem dL_law_553 : decode cL_law 553 = .ok (.iconst 1, 1) := by decide +kernel
theorem dL_law_554 : decode cL_law 554 = .ok (.iadd, 1) := by decide +kernel
theorem dL_law_555 : decode cL_law 555 = .ok (.iaload, 1) := by decide +kernel
theorem dL_law_556 : decode cL_law 556 = .ok (.invokevirtual 79, 3) := by decide +kernel
theorem dL_law_559 : decode cL_law 559 = .ok (.if_icmp .eq 5, 3) := by decide +kernel
theorem dL_law_562 : decode cL_law 562 = .ok (.iconst 0, 1) := by decide +kernel
theorem dL_law_563 : decode cL_law 563 = .ok (.ireturn, 1) := by decide +kernel
theorem dL_law_564 : decode cL_law 564 = .ok (.iinc 3 5, 3) := by decide +kernel
theorem dL_law_567 : decode cL_law 567 = .ok (.goto (-539), 3) := by decide +kernel
theorem dL_law_570 : decode cL_law 570 = .ok (.iconst 1, 1) := by decide +kernel
theorem dL_law_571 : decode cL_law 571 = .ok (.ireturn, 1) := by decide +kernel
end
section
abbrev wX1 (cI : ClassId) (a0 a1 a2 a3 a4 a5 a6 : Nat) (akd : Nat → Int32) (asz : Nat → Int32) (alk : Nat → Int32) (ahm : Nat → Int32) (atg : Nat → Int32) (avl : Nat → Int32) : va_W := [(a0, .inr (1, [.ref a1, .ref a2, .ref a3, .ref a4, .ref a5, .ref a6])), (a1, .inl (cI, 16, .inl akd)), (a2, .inl (cI, 16, .inl asz)), (a3, .inl (cI, 16, .inl alk)), (a4, .inl (cI, 16, .inl ahm)), (a5, .inl (cI, 512, .inl atg)), (a6, .inl (cI, 128, .inl avl))]
abbrev wX1X1b (cI : ClassId) (a0 a1 a2 a3 a4 a5 a6 b0 b1 b2 b3 b4 b5 b6 : Nat) (akd : Nat → Int32) (asz : Nat → Int32) (alk : Nat → Int32) (ahm : Nat → Int32) (atg : Nat → Int32) (avl : Nat → Int32) (bkd : Nat → Int32) (bsz : Nat → Int32) (blk : Nat → Int32) (bhm : Nat → Int32) (btg : Nat → Int32) (bvl : Nat → Int32) : va_W := [(a0, .inr (1, [.ref a1, .ref a2, .ref a3, .ref a4, .ref a5, .ref a6])), (a1, .inl (cI, 16, .inl akd)), (a2, .inl (cI, 16, .inl asz)), (a3, .inl (cI, 16, .inl alk)), (a4, .inl (cI, 16, .inl ahm)), (a5, .inl (cI, 512, .inl atg)), (a6, .inl (cI, 128, .inl avl)), (b0, .inr (1, [.ref b1, .ref b2, .ref b3, .ref b4, .ref b5, .ref b6])), (b1, .inl (cI, 16, .inl bkd)), (b2, .inl (cI, 16, .inl bsz)), (b3, .inl (cI, 16, .inl blk)), (b4, .inl (cI, 16, .inl bhm)), (b5, .inl (cI, 512, .inl btg)), (b6, .inl (cI, 128, .inl bvl))]
abbrev wX0 (cI : ClassId) (g0 g1 : Nat) (gln : Int32) (grw : Nat → Int32) : va_W := [(g0, .inr (0, [.ref g1, .int gln])), (g1, .inl (cI, 240, .inl grw))]
abbrev wX2 (cI : ClassId) (h0 ht0 ht1 ht2 ht3 ht4 ht5 ht6 hu0 hu1 hu2 hu3 hu4 hu5 hu6 hg0 hg1 : Nat) (hlim : Int32) (hkpt : Int32) (hsyn : Int32) (htkd : Nat → Int32) (htsz : Nat → Int32) (htlk : Nat → Int32) (hthm : Nat → Int32) (httg : Nat → Int32) (htvl : Nat → Int32) (hukd : Nat → Int32) (husz : Nat → Int32) (hulk : Nat → Int32) (huhm : Nat → Int32) (hutg : Nat → Int32) (huvl : Nat → Int32) (hgln : Int32) (hgrw : Nat → Int32) : va_W := [(h0, .inr (2, [.int hlim, .ref ht0, .ref hu0, .ref hg0, .int hkpt, .int hsyn])), (ht0, .inr (1, [.ref ht1, .ref ht2, .ref ht3, .ref ht4, .ref ht5, .ref ht6])), (ht1, .inl (cI, 16, .inl htkd)), (ht2, .inl (cI, 16, .inl htsz)), (ht3, .inl (cI, 16, .inl htlk)), (ht4, .inl (cI, 16, .inl hthm)), (ht5, .inl (cI, 512, .inl httg)), (ht6, .inl (cI, 128, .inl htvl)), (hu0, .inr (1, [.ref hu1, .ref hu2, .ref hu3, .ref hu4, .ref hu5, .ref hu6])), (hu1, .inl (cI, 16, .inl hukd)), (hu2, .inl (cI, 16, .inl husz)), (hu3, .inl (cI, 16, .inl hulk)), (hu4, .inl (cI, 16, .inl huhm)), (hu5, .inl (cI, 512, .inl hutg)), (hu6, .inl (cI, 128, .inl huvl)), (hg0, .inr (0, [.ref hg1, .int hgln])), (hg1, .inl (cI, 240, .inl hgrw))]
abbrev wX0X1a (cI : ClassId) (g0 g1 a0 a1 a2 a3 a4 a5 a6 : Nat) (gln : Int32) (grw : Nat → Int32) (akd : Nat → Int32) (asz : Nat → Int32) (alk : Nat → Int32) (ahm : Nat → Int32) (atg : Nat → Int32) (avl : Nat → Int32) : va_W := [(g0, .inr (0, [.ref g1, .int gln])), (g1, .inl (cI, 240, .inl grw)), (a0, .inr (1, [.ref a1, .ref a2, .ref a3, .ref a4, .ref a5, .ref a6])), (a1, .inl (cI, 16, .inl akd)), (a2, .inl (cI, 16, .inl asz)), (a3, .inl (cI, 16, .inl alk)), (a4, .inl (cI, 16, .inl ahm)), (a5, .inl (cI, 512, .inl atg)), (a6, .inl (cI, 128, .inl avl))]
abbrev wX3 (cI : ClassId) (m0 m1 m2 m3 m4 m5 : Nat) (mlim : Int32) (mkpt : Int32) (msyn : Int32) (mcn : Int32) (mkd : Nat → Int32) (msz : Nat → Int32) (mct : Nat → Int32) (men : Nat → Int32) (mch : Nat → Int32) : va_W := [(m0, .inr (3, [.int mlim, .ref m1, .ref m2, .ref m3, .ref m4, .int mkpt, .int msyn, .int mcn, .ref m5])), (m1, .inl (cI, 48, .inl mkd)), (m2, .inl (cI, 48, .inl msz)), (m3, .inl (cI, 384, .inl mct)), (m4, .inl (cI, 1536, .inl men)), (m5, .inl (cI, 200, .inl mch))]
end
section
def fX2_isNode (x0 : Int32) : Option (Int32) := if x0 < 0 then (some 0) else (if 16 ≤ x0 then (some 0) else (some 1))
def fX2_isName (x0 : Int32) : Option (Int32) := if x0 < 0 then (some 0) else (if 32 ≤ x0 then (some 0) else (some 1))
def fX1_isDirectory (x1 : Int32) (akd : Nat → Int32) : Option (Int32) := ard akd 16 x1 fun v5 => if v5 = 2 then (some 1) else (some 0)
def fX1_target (x1 : Int32) (x2 : Int32) (atg : Nat → Int32) : Option (Int32) := slet (x1 * 32) fun v7 => slet (v7 + x2) fun v9 => ard atg 512 v9 fun v10 => some v10
def fX1_leastFreeNode_b2 (akd : Nat → Int32) : Nat → Int32 → Option (Int32)
  | 0, _ => none
  | n + 1, x1 => if 16 ≤ x1 then (some 0) else (ard akd 16 x1 fun v13 => if v13 = 0 then (some x1) else (slet (x1 + 1) fun v19 => fX1_leastFreeNode_b2 akd n v19))
def fX1_leastFreeNode (akd : Nat → Int32) : Option (Int32) := fX1_leastFreeNode_b2 akd 2000 0
def fX1_size (x1 : Int32) (asz : Nat → Int32) : Option (Int32) := ard asz 16 x1 fun v5 => some v5
def fX2_costOf (x0 : Int32) (x1 : Int32) : Option (Int32) := slet (1 + x0) fun v2 => slet (v2 + x1) fun v4 => some v4
def fX1_copyFrom (bkd : Nat → Int32) (bsz : Nat → Int32) (blk : Nat → Int32) (bhm : Nat → Int32) (btg : Nat → Int32) (bvl : Nat → Int32) (akd : Nat → Int32) (asz : Nat → Int32) (alk : Nat → Int32) (ahm : Nat → Int32) (atg : Nat → Int32) (avl : Nat → Int32) : Option ((Nat → Int32) × (Nat → Int32) × (Nat → Int32) × (Nat → Int32) × (Nat → Int32) × (Nat → Int32)) := acp bkd akd 16 16 0 0 16 fun akd_15 => acp bsz asz 16 16 0 0 16 fun asz_33 => acp blk alk 16 16 0 0 16 fun alk_51 => acp bhm ahm 16 16 0 0 16 fun ahm_69 => acp btg atg 512 512 0 0 512 fun atg_87 => acp bvl avl 128 128 0 0 128 fun avl_105 => some (akd_15, asz_33, alk_51, ahm_69, atg_87, avl_105)
def fX0_clear (gln : Int32) : Option (Int32) := some 0
def fX1_isFile (x1 : Int32) (akd : Nat → Int32) : Option (Int32) := ard akd 16 x1 fun v5 => if v5 = 1 then (some 1) else (some 0)
def fX1_blocks (x1 : Int32) (akd : Nat → Int32) (asz : Nat → Int32) : Option (Int32) := ard akd 16 x1 fun v5 => if v5 = 0 then (some 0) else (bn1 (fX1_isFile x1 akd) fun r13 => if r13 = 0 then (some 1) else (ard asz 16 x1 fun v25 => slet (1 + v25) fun v26 => some v26))
def fX1_live_b4 (akd : Nat → Int32) (asz : Nat → Int32) : Nat → Int32 → Int32 → Option (Int32)
  | 0, _, _ => none
  | n + 1, x1, x2 => if 16 ≤ x2 then (some x1) else (bn1 (fX1_blocks x2 akd asz) fun r13 => slet (x1 + r13) fun v16 => slet (x2 + 1) fun v18 => fX1_live_b4 akd asz n v16 v18)
def fX1_live (akd : Nat → Int32) (asz : Nat → Int32) : Option (Int32) := fX1_live_b4 akd asz 2000 0 0
def fX2_startAfresh (htkd : Nat → Int32) (htsz : Nat → Int32) (hkpt : Int32) (hgln : Int32) : Option (Int32 × Int32) := bn1 (fX0_clear hgln) fun hgln_4 => bn1 (fX1_live htkd htsz) fun r12 => some (r12, hgln_4)
def fX2_countedSync (htkd : Nat → Int32) (htsz : Nat → Int32) (htlk : Nat → Int32) (hthm : Nat → Int32) (httg : Nat → Int32) (htvl : Nat → Int32) (hkpt : Int32) (hsyn : Int32) (hukd : Nat → Int32) (husz : Nat → Int32) (hulk : Nat → Int32) (huhm : Nat → Int32) (hutg : Nat → Int32) (huvl : Nat → Int32) (hgln : Int32) : Option (Int32 × Int32 × (Nat → Int32) × (Nat → Int32) × (Nat → Int32) × (Nat → Int32) × (Nat → Int32) × (Nat → Int32) × Int32) := bn6 (fX1_copyFrom htkd htsz htlk hthm httg htvl hukd husz hulk huhm hutg huvl) fun hukd_8 husz_8 hulk_8 huhm_8 hutg_8 huvl_8 => bn2 (fX2_startAfresh htkd htsz hkpt hgln) fun hkpt_12 hgln_12 => slet (hsyn + 1) fun v21 => some (hkpt_12, v21, hukd_8, husz_8, hulk_8, huhm_8, hutg_8, huvl_8, hgln_12)
def fX2_makesRoom_b17 (hlim : Int32) (htkd : Nat → Int32) (htsz : Nat → Int32) (htlk : Nat → Int32) (hthm : Nat → Int32) (httg : Nat → Int32) (htvl : Nat → Int32) (x2 : Int32) (hkpt : Int32) (hsyn : Int32) (hukd : Nat → Int32) (husz : Nat → Int32) (hulk : Nat → Int32) (huhm : Nat → Int32) (hutg : Nat → Int32) (huvl : Nat → Int32) (hgln : Int32) : Option (Int32 × Int32 × Int32 × (Nat → Int32) × (Nat → Int32) × (Nat → Int32) × (Nat → Int32) × (Nat → Int32) × (Nat → Int32) × Int32) := bn1 (fX1_live htkd htsz) fun r21 => slet (r21 + x2) fun v25 => slet (hlim - 8) fun v32 => if v32 < v25 then (some (0, hkpt, hsyn, hukd, husz, hulk, huhm, hutg, huvl, hgln)) else (some (1, hkpt, hsyn, hukd, husz, hulk, huhm, hutg, huvl, hgln))
def fX2_makesRoom (x1 : Int32) (x2 : Int32) (hlim : Int32) (htkd : Nat → Int32) (htsz : Nat → Int32) (htlk : Nat → Int32) (hthm : Nat → Int32) (httg : Nat → Int32) (htvl : Nat → Int32) (hkpt : Int32) (hsyn : Int32) (hukd : Nat → Int32) (husz : Nat → Int32) (hulk : Nat → Int32) (huhm : Nat → Int32) (hutg : Nat → Int32) (huvl : Nat → Int32) (hgln : Int32) : Option (Int32 × Int32 × Int32 × (Nat → Int32) × (Nat → Int32) × (Nat → Int32) × (Nat → Int32) × (Nat → Int32) × (Nat → Int32) × Int32) := slet (hkpt + x1) fun v5 => if v5 ≤ hlim then (fX2_makesRoom_b17 hlim htkd htsz htlk hthm httg htvl x2 hkpt hsyn hukd husz hulk huhm hutg huvl hgln) else (bn9 (fX2_countedSync htkd htsz htlk hthm httg htvl hkpt hsyn hukd husz hulk huhm hutg huvl hgln) fun hkpt_14 hsyn_14 hukd_14 husz_14 hulk_14 huhm_14 hutg_14 huvl_14 hgln_14 => fX2_makesRoom_b17 hlim htkd htsz htlk hthm httg htvl x2 hkpt_14 hsyn_14 hukd_14 husz_14 hulk_14 huhm_14 hutg_14 huvl_14 hgln_14)
def fX0_append (x1 : Int32) (x2 : Int32) (x3 : Int32) (x4 : Int32) (x5 : Int32) (gln : Int32) (grw : Nat → Int32) : Option (Int32 × (Nat → Int32)) := if gln < 48 then (slet (gln * 5) fun v15 => awr grw 240 v15 x1 fun grw_25 => slet (v15 + 1) fun v33 => awr grw_25 240 v33 x2 fun grw_35 => slet (v15 + 2) fun v43 => awr grw_35 240 v43 x3 fun grw_45 => slet (v15 + 3) fun v53 => awr grw_45 240 v53 x4 fun grw_56 => slet (v15 + 4) fun v64 => awr grw_56 240 v64 x5 fun grw_67 => slet (gln + 1) fun v74 => some (v74, grw_67)) else (some (gln, grw))
def fX0_length (gln : Int32) : Option (Int32) := some gln
def fX1_addEntry (x1 : Int32) (x2 : Int32) (x3 : Int32) (asz : Nat → Int32) (alk : Nat → Int32) (ahm : Nat → Int32) (atg : Nat → Int32) : Option ((Nat → Int32) × (Nat → Int32) × (Nat → Int32) × (Nat → Int32)) := slet (x1 * 32) fun v7 => slet (v7 + x2) fun v9 => awr atg 512 v9 x3 fun atg_11 => ard asz 16 x1 fun v18 => slet (v18 + 1) fun v20 => awr asz 16 x1 v20 fun asz_21 => ard alk 16 x3 fun v28 => slet (v28 + 1) fun v30 => awr alk 16 x3 v30 fun alk_31 => awr ahm 16 x3 x1 fun ahm_38 => some (asz_21, alk_31, ahm_38, atg_11)
def fX1_addNode (x1 : Int32) (x2 : Int32) (x3 : Int32) (akd : Nat → Int32) (asz : Nat → Int32) (alk : Nat → Int32) (ahm : Nat → Int32) (atg : Nat → Int32) : Option ((Nat → Int32) × (Nat → Int32) × (Nat → Int32) × (Nat → Int32) × (Nat → Int32)) := bn1 (fX1_leastFreeNode akd) fun r1 => awr akd 16 r1 x3 fun akd_13 => bn4 (fX1_addEntry x1 x2 r1 asz alk ahm atg) fun asz_19 alk_19 ahm_19 atg_19 => some (akd_13, asz_19, alk_19, ahm_19, atg_19)
def fX1_takeEntry (x1 : Int32) (x2 : Int32) (asz : Nat → Int32) (alk : Nat → Int32) (atg : Nat → Int32) : Option (Int32 × (Nat → Int32) × (Nat → Int32) × (Nat → Int32)) := bn1 (fX1_target x1 x2 atg) fun r3 => slet (x1 * 32) fun v14 => slet (v14 + x2) fun v16 => awr atg 512 v16 0 fun atg_18 => ard asz 16 x1 fun v25 => slet (v25 - 1) fun v27 => awr asz 16 x1 v27 fun asz_28 => ard alk 16 r3 fun v35 => slet (v35 - 1) fun v37 => awr alk 16 r3 v37 fun alk_38 => some (r3, asz_28, alk_38, atg_18)
def fX1_dropEntry (x1 : Int32) (x2 : Int32) (akd : Nat → Int32) (asz : Nat → Int32) (alk : Nat → Int32) (atg : Nat → Int32) : Option ((Nat → Int32) × (Nat → Int32) × (Nat → Int32) × (Nat → Int32)) := bn4 (fX1_takeEntry x1 x2 asz alk atg) fun r3 asz_3 alk_3 atg_3 => ard alk_3 16 r3 fun v12 => if v12 = 0 then (awr akd 16 r3 0 fun akd_22 => awr asz_3 16 r3 0 fun asz_29 => some (akd_22, asz_29, alk_3, atg_3)) else (some (akd, asz_3, alk_3, atg_3))
def fX1_moveEntry (x1 : Int32) (x2 : Int32) (x3 : Int32) (x4 : Int32) (asz : Nat → Int32) (alk : Nat → Int32) (ahm : Nat → Int32) (atg : Nat → Int32) : Option ((Nat → Int32) × (Nat → Int32) × (Nat → Int32) × (Nat → Int32)) := bn4 (fX1_takeEntry x1 x2 asz alk atg) fun r3 asz_3 alk_3 atg_3 => bn4 (fX1_addEntry x3 x4 r3 asz_3 alk_3 ahm atg_3) fun asz_14 alk_14 ahm_14 atg_14 => some (asz_14, alk_14, ahm_14, atg_14)
def fX1_setInt (x1 : Int32) (x2 : Int32) (x3 : Int32) (asz : Nat → Int32) (avl : Nat → Int32) : Option ((Nat → Int32) × (Nat → Int32)) := slet (x1 * 8) fun v7 => slet (v7 + x2) fun v9 => awr avl 128 v9 x3 fun avl_11 => ard asz 16 x1 fun v22 => slet (x2 + 1) fun v25 => slet (if v22 < v25 then v25 else v22) fun v26 => awr asz 16 x1 v26 fun asz_29 => some (asz_29, avl_11)
def fX1_setSize (x1 : Int32) (x2 : Int32) (asz : Nat → Int32) : Option ((Nat → Int32)) := awr asz 16 x1 x2 fun asz_6 => some asz_6
def fX0_redo (x1 : Int32) (gln : Int32) (grw : Nat → Int32) (akd : Nat → Int32) (asz : Nat → Int32) (alk : Nat → Int32) (ahm : Nat → Int32) (atg : Nat → Int32) (avl : Nat → Int32) : Option ((Nat → Int32) × (Nat → Int32) × (Nat → Int32) × (Nat → Int32) × (Nat → Int32) × (Nat → Int32)) := if x1 < 0 then (some (akd, asz, alk, ahm, atg, avl)) else (if x1 < gln then (slet (x1 * 5) fun v15 => slet (v15 + 1) fun v23 => ard grw 240 v23 fun v24 => slet (v15 + 2) fun v33 => ard grw 240 v33 fun v34 => slet (v15 + 3) fun v43 => ard grw 240 v43 fun v44 => slet (v15 + 4) fun v53 => ard grw 240 v53 fun v54 => ard grw 240 v15 fun v62 => if v62 = 0 then (bn5 (fX1_addNode v24 v34 v44 akd asz alk ahm atg) fun akd_103 asz_103 alk_103 ahm_103 atg_103 => some (akd_103, asz_103, alk_103, ahm_103, atg_103, avl)) else (if v62 = 1 then (bn4 (fX1_addEntry v24 v34 v44 asz alk ahm atg) fun asz_116 alk_116 ahm_116 atg_116 => some (akd, asz_116, alk_116, ahm_116, atg_116, avl)) else (if v62 = 2 then (bn4 (fX1_dropEntry v24 v34 akd asz alk atg) fun akd_127 asz_127 alk_127 atg_127 => some (akd_127, asz_127, alk_127, ahm, atg_127, avl)) else (if v62 = 3 then (bn4 (fX1_moveEntry v24 v34 v44 v54 asz alk ahm atg) fun asz_142 alk_142 ahm_142 atg_142 => some (akd, asz_142, alk_142, ahm_142, atg_142, avl)) else (if v62 = 4 then (bn2 (fX1_setInt v24 v34 v44 asz avl) fun asz_155 avl_155 => some (akd, asz_155, alk, ahm, atg, avl_155)) else (bn1 (fX1_setSize v24 v34 asz) fun asz_166 => some (akd, asz_166, alk, ahm, atg, avl))))))) else (some (akd, asz, alk, ahm, atg, avl)))
def fX2_perform (x1 : Int32) (x2 : Int32) (x3 : Int32) (x4 : Int32) (x5 : Int32) (x6 : Int32) (hkpt : Int32) (htkd : Nat → Int32) (htsz : Nat → Int32) (htlk : Nat → Int32) (hthm : Nat → Int32) (httg : Nat → Int32) (htvl : Nat → Int32) (hgln : Int32) (hgrw : Nat → Int32) : Option (Int32 × (Nat → Int32) × (Nat → Int32) × (Nat → Int32) × (Nat → Int32) × (Nat → Int32) × (Nat → Int32) × Int32 × (Nat → Int32)) := bn2 (fX0_append x2 x3 x4 x5 x6 hgln hgrw) fun hgln_12 hgrw_12 => bn1 (fX0_length hgln_12) fun r23 => slet (r23 - 1) fun v27 => bn6 (fX0_redo v27 hgln_12 hgrw_12 htkd htsz htlk hthm httg htvl) fun htkd_32 htsz_32 htlk_32 hthm_32 httg_32 htvl_32 => slet (hkpt + x1) fun v41 => some (v41, htkd_32, htsz_32, htlk_32, hthm_32, httg_32, htvl_32, hgln_12, hgrw_12)
def fX2_create (x1 : Int32) (x2 : Int32) (x3 : Int32) (hlim : Int32) (hkpt : Int32) (hsyn : Int32) (htkd : Nat → Int32) (htsz : Nat → Int32) (htlk : Nat → Int32) (hthm : Nat → Int32) (httg : Nat → Int32) (htvl : Nat → Int32) (hukd : Nat → Int32) (husz : Nat → Int32) (hulk : Nat → Int32) (huhm : Nat → Int32) (hutg : Nat → Int32) (huvl : Nat → Int32) (hgln : Int32) (hgrw : Nat → Int32) : Option (Int32 × Int32 × Int32 × (Nat → Int32) × (Nat → Int32) × (Nat → Int32) × (Nat → Int32) × (Nat → Int32) × (Nat → Int32) × (Nat → Int32) × (Nat → Int32) × (Nat → Int32) × (Nat → Int32) × (Nat → Int32) × (Nat → Int32) × Int32 × (Nat → Int32)) := bn1 (fX2_isNode x1) fun r1 => if r1 = 0 then (some (-1, hkpt, hsyn, htkd, htsz, htlk, hthm, httg, htvl, hukd, husz, hulk, huhm, hutg, huvl, hgln, hgrw)) else (bn1 (fX2_isName x2) fun r8 => if r8 = 0 then (some (-1, hkpt, hsyn, htkd, htsz, htlk, hthm, httg, htvl, hukd, husz, hulk, huhm, hutg, huvl, hgln, hgrw)) else (bn1 (fX1_isDirectory x1 htkd) fun r21 => if r21 = 0 then (some (-2, hkpt, hsyn, htkd, htsz, htlk, hthm, httg, htvl, hukd, husz, hulk, huhm, hutg, huvl, hgln, hgrw)) else (bn1 (fX1_target x1 x2 httg) fun r36 => if r36 = 0 then (bn1 (fX1_leastFreeNode htkd) fun r49 => bn1 (fX1_size x1 htsz) fun r59 => if 8 ≤ r59 then (some (-5, hkpt, hsyn, htkd, htsz, htlk, hthm, httg, htvl, hukd, husz, hulk, huhm, hutg, huvl, hgln, hgrw)) else (if r49 = 0 then (some (-5, hkpt, hsyn, htkd, htsz, htlk, hthm, httg, htvl, hukd, husz, hulk, huhm, hutg, huvl, hgln, hgrw)) else (bn1 (fX2_costOf 2 0) fun r77 => bn10 (fX2_makesRoom r77 1 hlim htkd htsz htlk hthm httg htvl hkpt hsyn hukd husz hulk huhm hutg huvl hgln) fun r86 hkpt_86 hsyn_86 hukd_86 husz_86 hulk_86 huhm_86 hutg_86 huvl_86 hgln_86 => if r86 = 0 then (some (-6, hkpt_86, hsyn_86, htkd, htsz, htlk, hthm, httg, htvl, hukd_86, husz_86, hulk_86, huhm_86, hutg_86, huvl_86, hgln_86, hgrw)) else (if x3 = 0 then (bn9 (fX2_perform r77 0 x1 x2 1 0 hkpt_86 htkd htsz htlk hthm httg htvl hgln_86 hgrw) fun hkpt_111 htkd_111 htsz_111 htlk_111 hthm_111 httg_111 htvl_111 hgln_111 hgrw_111 => some (r49, hkpt_111, hsyn_86, htkd_111, htsz_111, htlk_111, hthm_111, httg_111, htvl_111, hukd_86, husz_86, hulk_86, huhm_86, hutg_86, huvl_86, hgln_111, hgrw_111)) else (bn9 (fX2_perform r77 0 x1 x2 2 0 hkpt_86 htkd htsz htlk hthm httg htvl hgln_86 hgrw) fun hkpt_111 htkd_111 htsz_111 htlk_111 hthm_111 httg_111 htvl_111 hgln_111 hgrw_111 => some (r49, hkpt_111, hsyn_86, htkd_111, htsz_111, htlk_111, hthm_111, httg_111, htvl_111, hukd_86, husz_86, hulk_86, huhm_86, hutg_86, huvl_86, hgln_111, hgrw_111)))))) else (some (-3, hkpt, hsyn, htkd, htsz, htlk, hthm, httg, htvl, hukd, husz, hulk, huhm, hutg, huvl, hgln, hgrw)))))
def fX2_link (x1 : Int32) (x2 : Int32) (x3 : Int32) (hlim : Int32) (hkpt : Int32) (hsyn : Int32) (htkd : Nat → Int32) (htsz : Nat → Int32) (htlk : Nat → Int32) (hthm : Nat → Int32) (httg : Nat → Int32) (htvl : Nat → Int32) (hukd : Nat → Int32) (husz : Nat → Int32) (hulk : Nat → Int32) (huhm : Nat → Int32) (hutg : Nat → Int32) (huvl : Nat → Int32) (hgln : Int32) (hgrw : Nat → Int32) : Option (Int32 × Int32 × Int32 × (Nat → Int32) × (Nat → Int32) × (Nat → Int32) × (Nat → Int32) × (Nat → Int32) × (Nat → Int32) × (Nat → Int32) × (Nat → Int32) × (Nat → Int32) × (Nat → Int32) × (Nat → Int32) × (Nat → Int32) × Int32 × (Nat → Int32)) := bn1 (fX2_isNode x1) fun r1 => if r1 = 0 then (some (-1, hkpt, hsyn, htkd, htsz, htlk, hthm, httg, htvl, hukd, husz, hulk, huhm, hutg, huvl, hgln, hgrw)) else (bn1 (fX2_isName x2) fun r8 => if r8 = 0 then (some (-1, hkpt, hsyn, htkd, htsz, htlk, hthm, httg, htvl, hukd, husz, hulk, huhm, hutg, huvl, hgln, hgrw)) else (bn1 (fX2_isNode x3) fun r15 => if r15 = 0 then (some (-1, hkpt, hsyn, htkd, htsz, htlk, hthm, httg, htvl, hukd, husz, hulk, huhm, hutg, huvl, hgln, hgrw)) else (bn1 (fX1_isDirectory x1 htkd) fun r28 => if r28 = 0 then (some (-2, hkpt, hsyn, htkd, htsz, htlk, hthm, httg, htvl, hukd, husz, hulk, huhm, hutg, huvl, hgln, hgrw)) else (bn1 (fX1_isFile x3 htkd) fun r39 => if r39 = 0 then (some (-2, hkpt, hsyn, htkd, htsz, htlk, hthm, httg, htvl, hukd, husz, hulk, huhm, hutg, huvl, hgln, hgrw)) else (bn1 (fX1_target x1 x2 httg) fun r54 => if r54 = 0 then (bn1 (fX1_size x1 htsz) fun r68 => if r68 < 8 then (bn1 (fX2_costOf 2 0) fun r81 => bn10 (fX2_makesRoom r81 0 hlim htkd htsz htlk hthm httg htvl hkpt hsyn hukd husz hulk huhm hutg huvl hgln) fun r90 hkpt_90 hsyn_90 hukd_90 husz_90 hulk_90 huhm_90 hutg_90 huvl_90 hgln_90 => if r90 = 0 then (some (-6, hkpt_90, hsyn_90, htkd, htsz, htlk, hthm, httg, htvl, hukd_90, husz_90, hulk_90, huhm_90, hutg_90, huvl_90, hgln_90, hgrw)) else (bn9 (fX2_perform r81 1 x1 x2 x3 0 hkpt_90 htkd htsz htlk hthm httg htvl hgln_90 hgrw) fun hkpt_107 htkd_107 htsz_107 htlk_107 hthm_107 httg_107 htvl_107 hgln_107 hgrw_107 => some (0, hkpt_107, hsyn_90, htkd_107, htsz_107, htlk_107, hthm_107, httg_107, htvl_107, hukd_90, husz_90, hulk_90, huhm_90, hutg_90, huvl_90, hgln_107, hgrw_107))) else (some (-5, hkpt, hsyn, htkd, htsz, htlk, hthm, httg, htvl, hukd, husz, hulk, huhm, hutg, huvl, hgln, hgrw))) else (some (-3, hkpt, hsyn, htkd, htsz, htlk, hthm, httg, htvl, hukd, husz, hulk, huhm, hutg, huvl, hgln, hgrw)))))))
def fX1_links (x1 : Int32) (alk : Nat → Int32) : Option (Int32) := ard alk 16 x1 fun v5 => some v5
def fX2_remove_b133 (hlim : Int32) (x1 : Int32) (x2 : Int32) (x5 : Int32) (z0 : Int32) (z1 : Int32) (hkpt : Int32) (hsyn : Int32) (htkd : Nat → Int32) (htsz : Nat → Int32) (htlk : Nat → Int32) (hthm : Nat → Int32) (httg : Nat → Int32) (htvl : Nat → Int32) (hukd : Nat → Int32) (husz : Nat → Int32) (hulk : Nat → Int32) (huhm : Nat → Int32) (hutg : Nat → Int32) (huvl : Nat → Int32) (hgln : Int32) (hgrw : Nat → Int32) : Option (Int32 × Int32 × Int32 × (Nat → Int32) × (Nat → Int32) × (Nat → Int32) × (Nat → Int32) × (Nat → Int32) × (Nat → Int32) × (Nat → Int32) × (Nat → Int32) × (Nat → Int32) × (Nat → Int32) × (Nat → Int32) × (Nat → Int32) × Int32 × (Nat → Int32)) := bn10 (fX2_makesRoom z1 z0 hlim htkd htsz htlk hthm httg htvl hkpt hsyn hukd husz hulk huhm hutg huvl hgln) fun r133 hkpt_133 hsyn_133 hukd_133 husz_133 hulk_133 huhm_133 hutg_133 huvl_133 hgln_133 => if r133 = 0 then (some (-6, hkpt_133, hsyn_133, htkd, htsz, htlk, hthm, httg, htvl, hukd_133, husz_133, hulk_133, huhm_133, hutg_133, huvl_133, hgln_133, hgrw)) else (bn9 (fX2_perform x5 2 x1 x2 0 0 hkpt_133 htkd htsz htlk hthm httg htvl hgln_133 hgrw) fun hkpt_150 htkd_150 htsz_150 htlk_150 hthm_150 httg_150 htvl_150 hgln_150 hgrw_150 => some (0, hkpt_150, hsyn_133, htkd_150, htsz_150, htlk_150, hthm_150, httg_150, htvl_150, hukd_133, husz_133, hulk_133, huhm_133, hutg_133, huvl_133, hgln_150, hgrw_150))
def fX2_remove_b106 (hlim : Int32) (x1 : Int32) (x2 : Int32) (x3 : Int32) (x4 : Int32) (z0 : Int32) (hkpt : Int32) (hsyn : Int32) (htkd : Nat → Int32) (htsz : Nat → Int32) (htlk : Nat → Int32) (hthm : Nat → Int32) (httg : Nat → Int32) (htvl : Nat → Int32) (hukd : Nat → Int32) (husz : Nat → Int32) (hulk : Nat → Int32) (huhm : Nat → Int32) (hutg : Nat → Int32) (huvl : Nat → Int32) (hgln : Int32) (hgrw : Nat → Int32) : Option (Int32 × Int32 × Int32 × (Nat → Int32) × (Nat → Int32) × (Nat → Int32) × (Nat → Int32) × (Nat → Int32) × (Nat → Int32) × (Nat → Int32) × (Nat → Int32) × (Nat → Int32) × (Nat → Int32) × (Nat → Int32) × (Nat → Int32) × Int32 × (Nat → Int32)) := bn1 (fX2_costOf z0 0) fun r107 => if x4 = 0 then (bn1 (fX1_blocks x3 htkd htsz) fun r129 => slet (-r129) fun v132 => fX2_remove_b133 hlim x1 x2 r107 v132 r107 hkpt hsyn htkd htsz htlk hthm httg htvl hukd husz hulk huhm hutg huvl hgln hgrw) else (fX2_remove_b133 hlim x1 x2 r107 0 r107 hkpt hsyn htkd htsz htlk hthm httg htvl hukd husz hulk huhm hutg huvl hgln hgrw)
def fX2_remove_b94 (hlim : Int32) (x1 : Int32) (x2 : Int32) (x3 : Int32) (z0 : Int32) (hkpt : Int32) (hsyn : Int32) (htkd : Nat → Int32) (htsz : Nat → Int32) (htlk : Nat → Int32) (hthm : Nat → Int32) (httg : Nat → Int32) (htvl : Nat → Int32) (hukd : Nat → Int32) (husz : Nat → Int32) (hulk : Nat → Int32) (huhm : Nat → Int32) (hutg : Nat → Int32) (huvl : Nat → Int32) (hgln : Int32) (hgrw : Nat → Int32) : Option (Int32 × Int32 × Int32 × (Nat → Int32) × (Nat → Int32) × (Nat → Int32) × (Nat → Int32) × (Nat → Int32) × (Nat → Int32) × (Nat → Int32) × (Nat → Int32) × (Nat → Int32) × (Nat → Int32) × (Nat → Int32) × (Nat → Int32) × Int32 × (Nat → Int32)) := if z0 = 0 then (fX2_remove_b106 hlim x1 x2 x3 z0 1 hkpt hsyn htkd htsz htlk hthm httg htvl hukd husz hulk huhm hutg huvl hgln hgrw) else (fX2_remove_b106 hlim x1 x2 x3 z0 2 hkpt hsyn htkd htsz htlk hthm httg htvl hukd husz hulk huhm hutg huvl hgln hgrw)
def fX2_remove_b77 (hlim : Int32) (x1 : Int32) (x2 : Int32) (x3 : Int32) (hkpt : Int32) (hsyn : Int32) (htkd : Nat → Int32) (htsz : Nat → Int32) (htlk : Nat → Int32) (hthm : Nat → Int32) (httg : Nat → Int32) (htvl : Nat → Int32) (hukd : Nat → Int32) (husz : Nat → Int32) (hulk : Nat → Int32) (huhm : Nat → Int32) (hutg : Nat → Int32) (huvl : Nat → Int32) (hgln : Int32) (hgrw : Nat → Int32) : Option (Int32 × Int32 × Int32 × (Nat → Int32) × (Nat → Int32) × (Nat → Int32) × (Nat → Int32) × (Nat → Int32) × (Nat → Int32) × (Nat → Int32) × (Nat → Int32) × (Nat → Int32) × (Nat → Int32) × (Nat → Int32) × (Nat → Int32) × Int32 × (Nat → Int32)) := bn1 (fX1_links x3 htlk) fun r82 => if r82 ≤ 1 then (fX2_remove_b94 hlim x1 x2 x3 0 hkpt hsyn htkd htsz htlk hthm httg htvl hukd husz hulk huhm hutg huvl hgln hgrw) else (fX2_remove_b94 hlim x1 x2 x3 1 hkpt hsyn htkd htsz htlk hthm httg htvl hukd husz hulk huhm hutg huvl hgln hgrw)
def fX2_remove (x1 : Int32) (x2 : Int32) (hlim : Int32) (hkpt : Int32) (hsyn : Int32) (htkd : Nat → Int32) (htsz : Nat → Int32) (htlk : Nat → Int32) (hthm : Nat → Int32) (httg : Nat → Int32) (htvl : Nat → Int32) (hukd : Nat → Int32) (husz : Nat → Int32) (hulk : Nat → Int32) (huhm : Nat → Int32) (hutg : Nat → Int32) (huvl : Nat → Int32) (hgln : Int32) (hgrw : Nat → Int32) : Option (Int32 × Int32 × Int32 × (Nat → Int32) × (Nat → Int32) × (Nat → Int32) × (Nat → Int32) × (Nat → Int32) × (Nat → Int32) × (Nat → Int32) × (Nat → Int32) × (Nat → Int32) × (Nat → Int32) × (Nat → Int32) × (Nat → Int32) × Int32 × (Nat → Int32)) := bn1 (fX2_isNode x1) fun r1 => if r1 = 0 then (some (-1, hkpt, hsyn, htkd, htsz, htlk, hthm, httg, htvl, hukd, husz, hulk, huhm, hutg, huvl, hgln, hgrw)) else (bn1 (fX2_isName x2) fun r8 => if r8 = 0 then (some (-1, hkpt, hsyn, htkd, htsz, htlk, hthm, httg, htvl, hukd, husz, hulk, huhm, hutg, huvl, hgln, hgrw)) else (bn1 (fX1_isDirectory x1 htkd) fun r21 => if r21 = 0 then (some (-2, hkpt, hsyn, htkd, htsz, htlk, hthm, httg, htvl, hukd, husz, hulk, huhm, hutg, huvl, hgln, hgrw)) else (bn1 (fX1_target x1 x2 httg) fun r33 => if r33 = 0 then (some (-2, hkpt, hsyn, htkd, htsz, htlk, hthm, httg, htvl, hukd, husz, hulk, huhm, hutg, huvl, hgln, hgrw)) else (bn1 (fX1_target x1 x2 httg) fun r48 => bn1 (fX1_isDirectory r48 htkd) fun r57 => if r57 = 0 then (fX2_remove_b77 hlim x1 x2 r48 hkpt hsyn htkd htsz htlk hthm httg htvl hukd husz hulk huhm hutg huvl hgln hgrw) else (bn1 (fX1_size r48 htsz) fun r68 => if r68 ≤ 0 then (fX2_remove_b77 hlim x1 x2 r48 hkpt hsyn htkd htsz htlk hthm httg htvl hukd husz hulk huhm hutg huvl hgln hgrw) else (some (-4, hkpt, hsyn, htkd, htsz, htlk, hthm, httg, htvl, hukd, husz, hulk, huhm, hutg, huvl, hgln, hgrw)))))))
def fX1_liesIn_b5 (ahm : Nat → Int32) : Nat → Int32 → Int32 → Int32 → Option (Int32)
  | 0, _, _, _ => none
  | n + 1, x2, x3, x4 => if 16 ≤ x4 then (some 0) else (if x3 = x2 then (some 1) else (ard ahm 16 x3 fun v24 => slet (x4 + 1) fun v26 => fX1_liesIn_b5 ahm n x2 v24 v26))
def fX1_liesIn (x1 : Int32) (x2 : Int32) (ahm : Nat → Int32) : Option (Int32) := fX1_liesIn_b5 ahm 2000 x2 x1 0
def fX2_rename_b137 (hlim : Int32) (x1 : Int32) (x2 : Int32) (x3 : Int32) (x4 : Int32) (z0 : Int32) (hkpt : Int32) (hsyn : Int32) (htkd : Nat → Int32) (htsz : Nat → Int32) (htlk : Nat → Int32) (hthm : Nat → Int32) (httg : Nat → Int32) (htvl : Nat → Int32) (hukd : Nat → Int32) (husz : Nat → Int32) (hulk : Nat → Int32) (huhm : Nat → Int32) (hutg : Nat → Int32) (huvl : Nat → Int32) (hgln : Int32) (hgrw : Nat → Int32) : Option (Int32 × Int32 × Int32 × (Nat → Int32) × (Nat → Int32) × (Nat → Int32) × (Nat → Int32) × (Nat → Int32) × (Nat → Int32) × (Nat → Int32) × (Nat → Int32) × (Nat → Int32) × (Nat → Int32) × (Nat → Int32) × (Nat → Int32) × Int32 × (Nat → Int32)) := bn1 (fX2_costOf z0 0) fun r138 => bn10 (fX2_makesRoom r138 0 hlim htkd htsz htlk hthm httg htvl hkpt hsyn hukd husz hulk huhm hutg huvl hgln) fun r147 hkpt_147 hsyn_147 hukd_147 husz_147 hulk_147 huhm_147 hutg_147 huvl_147 hgln_147 => if r147 = 0 then (some (-6, hkpt_147, hsyn_147, htkd, htsz, htlk, hthm, httg, htvl, hukd_147, husz_147, hulk_147, huhm_147, hutg_147, huvl_147, hgln_147, hgrw)) else (bn9 (fX2_perform r138 3 x1 x2 x3 x4 hkpt_147 htkd htsz htlk hthm httg htvl hgln_147 hgrw) fun hkpt_165 htkd_165 htsz_165 htlk_165 hthm_165 httg_165 htvl_165 hgln_165 hgrw_165 => some (0, hkpt_165, hsyn_147, htkd_165, htsz_165, htlk_165, hthm_165, httg_165, htvl_165, hukd_147, husz_147, hulk_147, huhm_147, hutg_147, huvl_147, hgln_165, hgrw_165))
def fX2_rename_b127 (hlim : Int32) (x1 : Int32) (x2 : Int32) (x3 : Int32) (x4 : Int32) (hkpt : Int32) (hsyn : Int32) (htkd : Nat → Int32) (htsz : Nat → Int32) (htlk : Nat → Int32) (hthm : Nat → Int32) (httg : Nat → Int32) (htvl : Nat → Int32) (hukd : Nat → Int32) (husz : Nat → Int32) (hulk : Nat → Int32) (huhm : Nat → Int32) (hutg : Nat → Int32) (huvl : Nat → Int32) (hgln : Int32) (hgrw : Nat → Int32) : Option (Int32 × Int32 × Int32 × (Nat → Int32) × (Nat → Int32) × (Nat → Int32) × (Nat → Int32) × (Nat → Int32) × (Nat → Int32) × (Nat → Int32) × (Nat → Int32) × (Nat → Int32) × (Nat → Int32) × (Nat → Int32) × (Nat → Int32) × Int32 × (Nat → Int32)) := if x3 = x1 then (fX2_rename_b137 hlim x1 x2 x3 x4 1 hkpt hsyn htkd htsz htlk hthm httg htvl hukd husz hulk huhm hutg huvl hgln hgrw) else (fX2_rename_b137 hlim x1 x2 x3 x4 2 hkpt hsyn htkd htsz htlk hthm httg htvl hukd husz hulk huhm hutg huvl hgln hgrw)
def fX2_rename (x1 : Int32) (x2 : Int32) (x3 : Int32) (x4 : Int32) (hlim : Int32) (hkpt : Int32) (hsyn : Int32) (htkd : Nat → Int32) (htsz : Nat → Int32) (htlk : Nat → Int32) (hthm : Nat → Int32) (httg : Nat → Int32) (htvl : Nat → Int32) (hukd : Nat → Int32) (husz : Nat → Int32) (hulk : Nat → Int32) (huhm : Nat → Int32) (hutg : Nat → Int32) (huvl : Nat → Int32) (hgln : Int32) (hgrw : Nat → Int32) : Option (Int32 × Int32 × Int32 × (Nat → Int32) × (Nat → Int32) × (Nat → Int32) × (Nat → Int32) × (Nat → Int32) × (Nat → Int32) × (Nat → Int32) × (Nat → Int32) × (Nat → Int32) × (Nat → Int32) × (Nat → Int32) × (Nat → Int32) × Int32 × (Nat → Int32)) := bn1 (fX2_isNode x1) fun r1 => if r1 = 0 then (some (-1, hkpt, hsyn, htkd, htsz, htlk, hthm, httg, htvl, hukd, husz, hulk, huhm, hutg, huvl, hgln, hgrw)) else (bn1 (fX2_isName x2) fun r8 => if r8 = 0 then (some (-1, hkpt, hsyn, htkd, htsz, htlk, hthm, httg, htvl, hukd, husz, hulk, huhm, hutg, huvl, hgln, hgrw)) else (bn1 (fX2_isNode x3) fun r15 => if r15 = 0 then (some (-1, hkpt, hsyn, htkd, htsz, htlk, hthm, httg, htvl, hukd, husz, hulk, huhm, hutg, huvl, hgln, hgrw)) else (bn1 (fX2_isName x4) fun r23 => if r23 = 0 then (some (-1, hkpt, hsyn, htkd, htsz, htlk, hthm, httg, htvl, hukd, husz, hulk, huhm, hutg, huvl, hgln, hgrw)) else (bn1 (fX1_isDirectory x1 htkd) fun r36 => if r36 = 0 then (some (-2, hkpt, hsyn, htkd, htsz, htlk, hthm, httg, htvl, hukd, husz, hulk, huhm, hutg, huvl, hgln, hgrw)) else (bn1 (fX1_isDirectory x3 htkd) fun r47 => if r47 = 0 then (some (-2, hkpt, hsyn, htkd, htsz, htlk, hthm, httg, htvl, hukd, husz, hulk, huhm, hutg, huvl, hgln, hgrw)) else (bn1 (fX1_target x1 x2 httg) fun r59 => if r59 = 0 then (some (-2, hkpt, hsyn, htkd, htsz, htlk, hthm, httg, htvl, hukd, husz, hulk, huhm, hutg, huvl, hgln, hgrw)) else (bn1 (fX1_target x3 x4 httg) fun r75 => if r75 = 0 then (bn1 (fX1_target x1 x2 httg) fun r95 => bn1 (fX1_liesIn x3 r95 hthm) fun r98 => if r98 = 0 then (if x3 = x1 then (fX2_rename_b127 hlim x1 x2 x3 x4 hkpt hsyn htkd htsz htlk hthm httg htvl hukd husz hulk huhm hutg huvl hgln hgrw) else (bn1 (fX1_size x3 htsz) fun r116 => if r116 < 8 then (fX2_rename_b127 hlim x1 x2 x3 x4 hkpt hsyn htkd htsz htlk hthm httg htvl hukd husz hulk huhm hutg huvl hgln hgrw) else (some (-5, hkpt, hsyn, htkd, htsz, htlk, hthm, httg, htvl, hukd, husz, hulk, huhm, hutg, huvl, hgln, hgrw)))) else (some (-1, hkpt, hsyn, htkd, htsz, htlk, hthm, httg, htvl, hukd, husz, hulk, huhm, hutg, huvl, hgln, hgrw))) else (some (-3, hkpt, hsyn, htkd, htsz, htlk, hthm, httg, htvl, hukd, husz, hulk, huhm, hutg, huvl, hgln, hgrw)))))))))
def fX2_write_b74 (hlim : Int32) (x1 : Int32) (x2 : Int32) (x3 : Int32) (x4 : Int32) (z0 : Int32) (z1 : Int32) (hkpt : Int32) (hsyn : Int32) (htkd : Nat → Int32) (htsz : Nat → Int32) (htlk : Nat → Int32) (hthm : Nat → Int32) (httg : Nat → Int32) (htvl : Nat → Int32) (hukd : Nat → Int32) (husz : Nat → Int32) (hulk : Nat → Int32) (huhm : Nat → Int32) (hutg : Nat → Int32) (huvl : Nat → Int32) (hgln : Int32) (hgrw : Nat → Int32) : Option (Int32 × Int32 × Int32 × (Nat → Int32) × (Nat → Int32) × (Nat → Int32) × (Nat → Int32) × (Nat → Int32) × (Nat → Int32) × (Nat → Int32) × (Nat → Int32) × (Nat → Int32) × (Nat → Int32) × (Nat → Int32) × (Nat → Int32) × Int32 × (Nat → Int32)) := bn10 (fX2_makesRoom z1 z0 hlim htkd htsz htlk hthm httg htvl hkpt hsyn hukd husz hulk huhm hutg huvl hgln) fun r74 hkpt_74 hsyn_74 hukd_74 husz_74 hulk_74 huhm_74 hutg_74 huvl_74 hgln_74 => if r74 = 0 then (some (-6, hkpt_74, hsyn_74, htkd, htsz, htlk, hthm, httg, htvl, hukd_74, husz_74, hulk_74, huhm_74, hutg_74, huvl_74, hgln_74, hgrw)) else (bn9 (fX2_perform x4 4 x1 x2 x3 0 hkpt_74 htkd htsz htlk hthm httg htvl hgln_74 hgrw) fun hkpt_91 htkd_91 htsz_91 htlk_91 hthm_91 httg_91 htvl_91 hgln_91 hgrw_91 => some (0, hkpt_91, hsyn_74, htkd_91, htsz_91, htlk_91, hthm_91, httg_91, htvl_91, hukd_74, husz_74, hulk_74, huhm_74, hutg_74, huvl_74, hgln_91, hgrw_91))
def fX2_write (x1 : Int32) (x2 : Int32) (x3 : Int32) (hlim : Int32) (hkpt : Int32) (hsyn : Int32) (htkd : Nat → Int32) (htsz : Nat → Int32) (htlk : Nat → Int32) (hthm : Nat → Int32) (httg : Nat → Int32) (htvl : Nat → Int32) (hukd : Nat → Int32) (husz : Nat → Int32) (hulk : Nat → Int32) (huhm : Nat → Int32) (hutg : Nat → Int32) (huvl : Nat → Int32) (hgln : Int32) (hgrw : Nat → Int32) : Option (Int32 × Int32 × Int32 × (Nat → Int32) × (Nat → Int32) × (Nat → Int32) × (Nat → Int32) × (Nat → Int32) × (Nat → Int32) × (Nat → Int32) × (Nat → Int32) × (Nat → Int32) × (Nat → Int32) × (Nat → Int32) × (Nat → Int32) × Int32 × (Nat → Int32)) := bn1 (fX2_isNode x1) fun r1 => if r1 = 0 then (some (-1, hkpt, hsyn, htkd, htsz, htlk, hthm, httg, htvl, hukd, husz, hulk, huhm, hutg, huvl, hgln, hgrw)) else (if x2 < 0 then (some (-1, hkpt, hsyn, htkd, htsz, htlk, hthm, httg, htvl, hukd, husz, hulk, huhm, hutg, huvl, hgln, hgrw)) else (if x2 < 8 then (bn1 (fX1_isFile x1 htkd) fun r24 => if r24 = 0 then (some (-2, hkpt, hsyn, htkd, htsz, htlk, hthm, httg, htvl, hukd, husz, hulk, huhm, hutg, huvl, hgln, hgrw)) else (bn1 (fX1_size x1 htsz) fun r39 => if x2 ≤ r39 then (bn1 (fX2_costOf 1 1) fun r49 => bn1 (fX1_size x1 htsz) fun r63 => if x2 = r63 then (fX2_write_b74 hlim x1 x2 x3 r49 1 r49 hkpt hsyn htkd htsz htlk hthm httg htvl hukd husz hulk huhm hutg huvl hgln hgrw) else (fX2_write_b74 hlim x1 x2 x3 r49 0 r49 hkpt hsyn htkd htsz htlk hthm httg htvl hukd husz hulk huhm hutg huvl hgln hgrw)) else (some (-1, hkpt, hsyn, htkd, htsz, htlk, hthm, httg, htvl, hukd, husz, hulk, huhm, hutg, huvl, hgln, hgrw)))) else (some (-1, hkpt, hsyn, htkd, htsz, htlk, hthm, httg, htvl, hukd, husz, hulk, huhm, hutg, huvl, hgln, hgrw))))
def fX2_cut (x1 : Int32) (x2 : Int32) (hlim : Int32) (hkpt : Int32) (hsyn : Int32) (htkd : Nat → Int32) (htsz : Nat → Int32) (htlk : Nat → Int32) (hthm : Nat → Int32) (httg : Nat → Int32) (htvl : Nat → Int32) (hukd : Nat → Int32) (husz : Nat → Int32) (hulk : Nat → Int32) (huhm : Nat → Int32) (hutg : Nat → Int32) (huvl : Nat → Int32) (hgln : Int32) (hgrw : Nat → Int32) : Option (Int32 × Int32 × Int32 × (Nat → Int32) × (Nat → Int32) × (Nat → Int32) × (Nat → Int32) × (Nat → Int32) × (Nat → Int32) × (Nat → Int32) × (Nat → Int32) × (Nat → Int32) × (Nat → Int32) × (Nat → Int32) × (Nat → Int32) × Int32 × (Nat → Int32)) := bn1 (fX2_isNode x1) fun r1 => if r1 = 0 then (some (-1, hkpt, hsyn, htkd, htsz, htlk, hthm, httg, htvl, hukd, husz, hulk, huhm, hutg, huvl, hgln, hgrw)) else (if x2 < 0 then (some (-1, hkpt, hsyn, htkd, htsz, htlk, hthm, httg, htvl, hukd, husz, hulk, huhm, hutg, huvl, hgln, hgrw)) else (if x2 ≤ 8 then (bn1 (fX1_isFile x1 htkd) fun r24 => if r24 = 0 then (some (-2, hkpt, hsyn, htkd, htsz, htlk, hthm, httg, htvl, hukd, husz, hulk, huhm, hutg, huvl, hgln, hgrw)) else (bn1 (fX1_size x1 htsz) fun r39 => if x2 ≤ r39 then (bn1 (fX2_costOf 1 0) fun r49 => bn1 (fX1_size x1 htsz) fun r61 => slet (x2 - r61) fun v64 => bn10 (fX2_makesRoom r49 v64 hlim htkd htsz htlk hthm httg htvl hkpt hsyn hukd husz hulk huhm hutg huvl hgln) fun r65 hkpt_65 hsyn_65 hukd_65 husz_65 hulk_65 huhm_65 hutg_65 huvl_65 hgln_65 => if r65 = 0 then (some (-6, hkpt_65, hsyn_65, htkd, htsz, htlk, hthm, httg, htvl, hukd_65, husz_65, hulk_65, huhm_65, hutg_65, huvl_65, hgln_65, hgrw)) else (bn9 (fX2_perform r49 5 x1 x2 0 0 hkpt_65 htkd htsz htlk hthm httg htvl hgln_65 hgrw) fun hkpt_81 htkd_81 htsz_81 htlk_81 hthm_81 httg_81 htvl_81 hgln_81 hgrw_81 => some (0, hkpt_81, hsyn_65, htkd_81, htsz_81, htlk_81, hthm_81, httg_81, htvl_81, hukd_65, husz_65, hulk_65, huhm_65, hutg_65, huvl_65, hgln_81, hgrw_81))) else (some (-1, hkpt, hsyn, htkd, htsz, htlk, hthm, httg, htvl, hukd, husz, hulk, huhm, hutg, huvl, hgln, hgrw)))) else (some (-1, hkpt, hsyn, htkd, htsz, htlk, hthm, httg, htvl, hukd, husz, hulk, huhm, hutg, huvl, hgln, hgrw))))
def fX2_sync (htkd : Nat → Int32) (htsz : Nat → Int32) (htlk : Nat → Int32) (hthm : Nat → Int32) (httg : Nat → Int32) (htvl : Nat → Int32) (hkpt : Int32) (hsyn : Int32) (hukd : Nat → Int32) (husz : Nat → Int32) (hulk : Nat → Int32) (huhm : Nat → Int32) (hutg : Nat → Int32) (huvl : Nat → Int32) (hgln : Int32) : Option (Int32 × Int32 × Int32 × (Nat → Int32) × (Nat → Int32) × (Nat → Int32) × (Nat → Int32) × (Nat → Int32) × (Nat → Int32) × Int32) := bn9 (fX2_countedSync htkd htsz htlk hthm httg htvl hkpt hsyn hukd husz hulk huhm hutg huvl hgln) fun hkpt_1 hsyn_1 hukd_1 husz_1 hulk_1 huhm_1 hutg_1 huvl_1 hgln_1 => some (hkpt_1, hkpt_1, hsyn_1, hukd_1, husz_1, hulk_1, huhm_1, hutg_1, huvl_1, hgln_1)
def fX2_crash_b18 (hgrw : Nat → Int32) : Nat → Int32 → Int32 → Int32 → (Nat → Int32) → (Nat → Int32) → (Nat → Int32) → (Nat → Int32) → (Nat → Int32) → (Nat → Int32) → (Nat → Int32) → (Nat → Int32) → (Nat → Int32) → (Nat → Int32) → (Nat → Int32) → (Nat → Int32) → Int32 → Option (Int32 × Int32 × (Nat → Int32) × (Nat → Int32) × (Nat → Int32) × (Nat → Int32) × (Nat → Int32) × (Nat → Int32) × (Nat → Int32) × (Nat → Int32) × (Nat → Int32) × (Nat → Int32) × (Nat → Int32) × (Nat → Int32) × Int32)
  | 0, _, _, _, _, _, _, _, _, _, _, _, _, _, _, _, _ => none
  | n + 1, x2, x3, hkpt, htkd, htsz, htlk, hthm, httg, htvl, hukd, husz, hulk, huhm, hutg, huvl, hgln => if x2 ≤ x3 then (bn6 (fX1_copyFrom hukd husz hulk huhm hutg huvl htkd htsz htlk hthm httg htvl) fun htkd_49 htsz_49 htlk_49 hthm_49 httg_49 htvl_49 => bn2 (fX2_startAfresh htkd_49 htsz_49 hkpt hgln) fun hkpt_53 hgln_53 => some (x2, hkpt_53, htkd_49, htsz_49, htlk_49, hthm_49, httg_49, htvl_49, hukd, husz, hulk, huhm, hutg, huvl, hgln_53)) else (bn6 (fX0_redo x3 hgln hgrw hukd husz hulk huhm hutg huvl) fun hukd_32 husz_32 hulk_32 huhm_32 hutg_32 huvl_32 => slet (x3 + 1) fun v35 => fX2_crash_b18 hgrw n x2 v35 hkpt htkd htsz htlk hthm httg htvl hukd_32 husz_32 hulk_32 huhm_32 hutg_32 huvl_32 hgln)
def fX2_crash (x1 : Int32) (hgrw : Nat → Int32) (hkpt : Int32) (htkd : Nat → Int32) (htsz : Nat → Int32) (htlk : Nat → Int32) (hthm : Nat → Int32) (httg : Nat → Int32) (htvl : Nat → Int32) (hukd : Nat → Int32) (husz : Nat → Int32) (hulk : Nat → Int32) (huhm : Nat → Int32) (hutg : Nat → Int32) (huvl : Nat → Int32) (hgln : Int32) : Option (Int32 × Int32 × (Nat → Int32) × (Nat → Int32) × (Nat → Int32) × (Nat → Int32) × (Nat → Int32) × (Nat → Int32) × (Nat → Int32) × (Nat → Int32) × (Nat → Int32) × (Nat → Int32) × (Nat → Int32) × (Nat → Int32) × Int32) := bn1 (fX0_length hgln) fun r6 => slet (if r6 < x1 then r6 else x1) fun v9 => slet (if (0 : Int32) < v9 then v9 else 0) fun v12 => fX2_crash_b18 hgrw 2000 v12 0 hkpt htkd htsz htlk hthm httg htvl hukd husz hulk huhm hutg huvl hgln
def fX2_find (x1 : Int32) (x2 : Int32) (htkd : Nat → Int32) (httg : Nat → Int32) : Option (Int32) := bn1 (fX2_isNode x1) fun r1 => if r1 = 0 then (some (-1)) else (bn1 (fX2_isName x2) fun r8 => if r8 = 0 then (some (-1)) else (bn1 (fX1_isDirectory x1 htkd) fun r21 => if r21 = 0 then (some (-2)) else (bn1 (fX1_target x1 x2 httg) fun r33 => if r33 = 0 then (some (-2)) else (bn1 (fX1_target x1 x2 httg) fun r48 => some r48))))
def fX1_nthName_b5 (atg : Nat → Int32) : Nat → Int32 → Int32 → Int32 → Int32 → Option (Int32)
  | 0, _, _, _, _ => none
  | n + 1, x1, x2, x3, x4 => if 32 ≤ x4 then (some (-1)) else (bn1 (fX1_target x1 x4 atg) fun r16 => if r16 = 0 then (slet (x4 + 1) fun v33 => fX1_nthName_b5 atg n x1 x2 x3 v33) else (if x3 = x2 then (some x4) else (slet (x3 + 1) fun v30 => slet (x4 + 1) fun v33 => fX1_nthName_b5 atg n x1 x2 v30 v33)))
def fX1_nthName (x1 : Int32) (x2 : Int32) (atg : Nat → Int32) : Option (Int32) := fX1_nthName_b5 atg 2000 x1 x2 0 0
def fX2_entry (x1 : Int32) (x2 : Int32) (htkd : Nat → Int32) (httg : Nat → Int32) : Option (Int32) := bn1 (fX2_isNode x1) fun r1 => if r1 = 0 then (some (-1)) else (bn1 (fX1_isDirectory x1 htkd) fun r14 => if r14 = 0 then (some (-2)) else (bn1 (fX1_nthName x1 x2 httg) fun r29 => some r29))
def fX1_value (x1 : Int32) (x2 : Int32) (avl : Nat → Int32) : Option (Int32) := slet (x1 * 8) fun v7 => slet (v7 + x2) fun v9 => ard avl 128 v9 fun v10 => some v10
def fX2_read (x1 : Int32) (x2 : Int32) (htkd : Nat → Int32) (htsz : Nat → Int32) (htvl : Nat → Int32) : Option (Int64) := bn1 (fX2_isNode x1) fun r1 => if r1 = 0 then (some 1000000000000) else (bn1 (fX1_isFile x1 htkd) fun r12 => if r12 = 0 then (some 1000000000000) else (if x2 < 0 then (some 1000000000000) else (bn1 (fX1_size x1 htsz) fun r32 => if x2 < r32 then (bn1 (fX1_value x1 x2 htvl) fun r48 => slet (r48.toInt64) fun v51 => some v51) else (some 1000000000000))))
def fX1_kind (x1 : Int32) (akd : Nat → Int32) : Option (Int32) := ard akd 16 x1 fun v5 => some v5
def fX2_tell (x1 : Int32) (x2 : Int32) (htkd : Nat → Int32) (htsz : Nat → Int32) (htlk : Nat → Int32) : Option (Int32) := bn1 (fX2_isNode x1) fun r1 => if r1 = 0 then (some (-1)) else (if x2 < 0 then (some (-1)) else (if x2 ≤ 2 then (if x2 = 0 then (bn1 (fX1_kind x1 htkd) fun r27 => some r27) else (bn1 (fX1_kind x1 htkd) fun r36 => if r36 = 0 then (some (-2)) else (if x2 = 1 then (bn1 (fX1_size x1 htsz) fun r55 => some r55) else (bn1 (fX1_links x1 htlk) fun r66 => some r66)))) else (some (-1))))
def fX1_nodesThere_b4 (akd : Nat → Int32) : Nat → Int32 → Int32 → Option (Int32)
  | 0, _, _ => none
  | n + 1, x1, x2 => if 16 ≤ x2 then (some x1) else (ard akd 16 x2 fun v15 => if v15 = 0 then (slet (x2 + 1) fun v22 => fX1_nodesThere_b4 akd n x1 v22) else (slet (x1 + 1) fun v19 => slet (x2 + 1) fun v22 => fX1_nodesThere_b4 akd n v19 v22))
def fX1_nodesThere (akd : Nat → Int32) : Option (Int32) := fX1_nodesThere_b4 akd 2000 0 0
def fX2_count (x1 : Int32) (hlim : Int32) (hkpt : Int32) (hsyn : Int32) (htkd : Nat → Int32) (htsz : Nat → Int32) (hgln : Int32) : Option (Int32) := if x1 = 0 then (bn1 (fX1_live htkd htsz) fun r44 => some r44) else (if x1 = 1 then (some hkpt) else (if x1 = 2 then (bn1 (fX0_length hgln) fun r57 => some r57) else (if x1 = 3 then (some hsyn) else (if x1 = 4 then (bn1 (fX1_nodesThere htkd) fun r70 => some r70) else (if x1 = 5 then (some hlim) else (some (-1)))))))
def fX3_copy_b99 : Nat → Int32 → Int32 → Int32 → (Nat → Int32) → (Nat → Int32) → (Nat → Int32) → (Nat → Int32) → Option ((Nat → Int32) × (Nat → Int32) × (Nat → Int32) × (Nat → Int32))
  | 0, _, _, _, _, _, _, _ => none
  | n + 1, x1, x2, x3, mkd, msz, mct, men => if 512 ≤ x3 then (some (mkd, msz, mct, men)) else (slet (512 * x2) fun v114 => slet (v114 + x3) fun v116 => slet (512 * x1) fun v125 => slet (v125 + x3) fun v127 => ard men 1536 v127 fun v128 => awr men 1536 v116 v128 fun men_129 => slet (x3 + 1) fun v130 => fX3_copy_b99 n x1 x2 v130 mkd msz mct men_129)
def fX3_copy_b60 : Nat → Int32 → Int32 → Int32 → (Nat → Int32) → (Nat → Int32) → (Nat → Int32) → (Nat → Int32) → Option ((Nat → Int32) × (Nat → Int32) × (Nat → Int32) × (Nat → Int32))
  | 0, _, _, _, _, _, _, _ => none
  | n + 1, x1, x2, x3, mkd, msz, mct, men => if 128 ≤ x3 then (fX3_copy_b99 2000 x1 x2 0 mkd msz mct men) else (slet (128 * x2) fun v75 => slet (v75 + x3) fun v77 => slet (128 * x1) fun v86 => slet (v86 + x3) fun v88 => ard mct 384 v88 fun v89 => awr mct 384 v77 v89 fun mct_90 => slet (x3 + 1) fun v91 => fX3_copy_b60 n x1 x2 v91 mkd msz mct_90 men)
def fX3_copy_b2 : Nat → Int32 → Int32 → Int32 → (Nat → Int32) → (Nat → Int32) → (Nat → Int32) → (Nat → Int32) → Option ((Nat → Int32) × (Nat → Int32) × (Nat → Int32) × (Nat → Int32))
  | 0, _, _, _, _, _, _, _ => none
  | n + 1, x1, x2, x3, mkd, msz, mct, men => if 16 ≤ x3 then (fX3_copy_b60 2000 x1 x2 0 mkd msz mct men) else (slet (16 * x2) fun v15 => slet (v15 + x3) fun v17 => slet (16 * x1) fun v25 => slet (v25 + x3) fun v27 => ard mkd 48 v27 fun v28 => awr mkd 48 v17 v28 fun mkd_29 => slet (16 * x2) fun v37 => slet (v37 + x3) fun v39 => slet (16 * x1) fun v47 => slet (v47 + x3) fun v49 => ard msz 48 v49 fun v50 => awr msz 48 v39 v50 fun msz_51 => slet (x3 + 1) fun v52 => fX3_copy_b2 n x1 x2 v52 mkd_29 msz_51 mct men)
def fX3_copy (x1 : Int32) (x2 : Int32) (mkd : Nat → Int32) (msz : Nat → Int32) (mct : Nat → Int32) (men : Nat → Int32) : Option ((Nat → Int32) × (Nat → Int32) × (Nat → Int32) × (Nat → Int32)) := fX3_copy_b2 2000 x1 x2 0 mkd msz mct men
def fX3_out (x0 : Int32) (x1 : Int32) : Option (Int32) := if x0 < 0 then (some 1) else (if x0 < x1 then (some 0) else (some 1))
def fX3_live_b4 (mkd : Nat → Int32) (msz : Nat → Int32) : Nat → Int32 → Int32 → Option (Int32)
  | 0, _, _ => none
  | n + 1, x1, x2 => if 16 ≤ x2 then (some x1) else (ard mkd 48 x2 fun v15 => if v15 = 0 then (slet (x2 + 1) fun v44 => fX3_live_b4 mkd msz n x1 v44) else (ard mkd 48 x2 fun v26 => if v26 = 1 then (ard msz 48 x2 fun v36 => slet (1 + v36) fun v41 => slet (x1 + v41) fun v42 => slet (x2 + 1) fun v44 => fX3_live_b4 mkd msz n v42 v44) else (slet (1 + 0) fun v41 => slet (x1 + v41) fun v42 => slet (x2 + 1) fun v44 => fX3_live_b4 mkd msz n v42 v44)))
def fX3_live (mkd : Nat → Int32) (msz : Nat → Int32) : Option (Int32) := fX3_live_b4 mkd msz 2000 0 0
def fX3_nodes_b4 (mkd : Nat → Int32) : Nat → Int32 → Int32 → Option (Int32)
  | 0, _, _ => none
  | n + 1, x1, x2 => if 16 ≤ x2 then (some x1) else (ard mkd 48 x2 fun v15 => if v15 = 0 then (slet (x2 + 1) fun v22 => fX3_nodes_b4 mkd n x1 v22) else (slet (x1 + 1) fun v19 => slet (x2 + 1) fun v22 => fX3_nodes_b4 mkd n v19 v22))
def fX3_nodes (mkd : Nat → Int32) : Option (Int32) := fX3_nodes_b4 mkd 2000 0 0
def fX3_entryCount_b4 (men : Nat → Int32) : Nat → Int32 → Int32 → Int32 → Option (Int32)
  | 0, _, _, _ => none
  | n + 1, x1, x2, x3 => if 32 ≤ x3 then (some x2) else (slet (32 * x1) fun v17 => slet (v17 + x3) fun v19 => ard men 1536 v19 fun v20 => if v20 < 0 then (slet (x3 + 1) fun v27 => fX3_entryCount_b4 men n x1 x2 v27) else (slet (x2 + 1) fun v24 => slet (x3 + 1) fun v27 => fX3_entryCount_b4 men n x1 v24 v27))
def fX3_entryCount (x1 : Int32) (men : Nat → Int32) : Option (Int32) := fX3_entryCount_b4 men 2000 x1 0 0
def fX3_links_b4 (men : Nat → Int32) : Nat → Int32 → Int32 → Int32 → Option (Int32)
  | 0, _, _, _ => none
  | n + 1, x1, x2, x3 => if 512 ≤ x3 then (some x2) else (ard men 1536 x3 fun v16 => if v16 = x1 then (slet (x2 + 1) fun v21 => slet (x3 + 1) fun v24 => fX3_links_b4 men n x1 v21 v24) else (slet (x3 + 1) fun v24 => fX3_links_b4 men n x1 x2 v24))
def fX3_links (x1 : Int32) (men : Nat → Int32) : Option (Int32) := fX3_links_b4 men 2000 x1 0 0
def fX3_isDir (x1 : Int32) (mkd : Nat → Int32) : Option (Int32) := ard mkd 48 x1 fun v5 => if v5 = 2 then (some 1) else (some 0)
def fX3_liesIn_b25 (men : Nat → Int32) (k5 : Int32 → Int32 → Int32 → Option (Int32)) : Nat → Int32 → Int32 → Int32 → Int32 → Int32 → Option (Int32)
  | 0, _, _, _, _, _ => none
  | n + 1, x2, x3, x4, x5, x6 => if 512 ≤ x6 then (if 0 ≤ x5 then (slet (x4 + 1) fun v67 => k5 x2 x5 v67) else (some 0)) else (ard men 1536 x6 fun v39 => if v39 = x3 then (slet (x6 / 32) fun v48 => slet (x6 + 1) fun v51 => fX3_liesIn_b25 men k5 n x2 x3 x4 v48 v51) else (slet (x6 + 1) fun v51 => fX3_liesIn_b25 men k5 n x2 x3 x4 x5 v51))
def fX3_liesIn_b5 (men : Nat → Int32) : Nat → Int32 → Int32 → Int32 → Option (Int32)
  | 0, _, _, _ => none
  | n + 1, x2, x3, x4 => if 16 ≤ x4 then (some 0) else (if x3 = x2 then (some 1) else (fX3_liesIn_b25 men (fX3_liesIn_b5 men n) 2000 x2 x3 x4 (-1) 0))
def fX3_liesIn (x1 : Int32) (x2 : Int32) (men : Nat → Int32) : Option (Int32) := fX3_liesIn_b5 men 2000 x2 x1 0
def fX3_leastAbsent_b2 (mkd : Nat → Int32) : Nat → Int32 → Option (Int32)
  | 0, _ => none
  | n + 1, x1 => if 16 ≤ x1 then (some x1) else (ard mkd 48 x1 fun v13 => if v13 = 0 then (some x1) else (slet (x1 + 1) fun v17 => fX3_leastAbsent_b2 mkd n v17))
def fX3_leastAbsent (mkd : Nat → Int32) : Option (Int32) := fX3_leastAbsent_b2 mkd 2000 1
def fX3_objection_b303 (mkd : Nat → Int32) (msz : Nat → Int32) (men : Nat → Int32) (x2 : Int32) (x4 : Int32) : Option (Int32) := if x4 = x2 then (some 0) else (bn1 (fX3_entryCount x4 men) fun r312 => if r312 = 8 then (some (-5)) else (some 0))
def fX3_objection (x1 : Int32) (x2 : Int32) (x3 : Int32) (x4 : Int32) (x5 : Int32) (mkd : Nat → Int32) (msz : Nat → Int32) (men : Nat → Int32) : Option (Int32) := if x1 = 0 then (bn1 (fX3_isDir x2 mkd) fun r34 => if r34 = 0 then (some (-2)) else (slet (32 * x2) fun v50 => slet (v50 + x3) fun v52 => ard men 1536 v52 fun v53 => if v53 < 0 then (bn1 (fX3_entryCount x2 men) fun r62 => if r62 = 8 then (some (-5)) else (bn1 (fX3_nodes mkd) fun r71 => if r71 = 16 then (some (-5)) else (some 0))) else (some (-3)))) else (if x1 = 1 then (bn1 (fX3_isDir x2 mkd) fun r88 => if r88 = 0 then (some (-2)) else (ard mkd 48 x4 fun v100 => if v100 = 1 then (slet (32 * x2) fun v115 => slet (v115 + x3) fun v117 => ard men 1536 v117 fun v118 => if v118 < 0 then (bn1 (fX3_entryCount x2 men) fun r127 => if r127 = 8 then (some (-5)) else (some 0)) else (some (-3))) else (some (-2)))) else (if x1 = 2 then (bn1 (fX3_isDir x2 mkd) fun r144 => if r144 = 0 then (some (-2)) else (slet (32 * x2) fun v157 => slet (v157 + x3) fun v159 => ard men 1536 v159 fun v160 => if 0 ≤ v160 then (slet (32 * x2) fun v175 => slet (v175 + x3) fun v177 => ard men 1536 v177 fun v178 => bn1 (fX3_isDir v178 mkd) fun r179 => if r179 = 0 then (some 0) else (slet (32 * x2) fun v193 => slet (v193 + x3) fun v195 => ard men 1536 v195 fun v196 => bn1 (fX3_entryCount v196 men) fun r197 => if r197 ≤ 0 then (some 0) else (some (-4)))) else (some (-2)))) else (if x1 = 3 then (bn1 (fX3_isDir x2 mkd) fun r212 => if r212 = 0 then (some (-2)) else (bn1 (fX3_isDir x4 mkd) fun r221 => if r221 = 0 then (some (-2)) else (slet (32 * x2) fun v234 => slet (v234 + x3) fun v236 => ard men 1536 v236 fun v237 => if 0 ≤ v237 then (slet (32 * x4) fun v252 => slet (v252 + x5) fun v255 => ard men 1536 v255 fun v256 => if v256 < 0 then (slet (32 * x2) fun v271 => slet (v271 + x3) fun v273 => ard men 1536 v273 fun v274 => bn1 (fX3_isDir v274 mkd) fun r275 => if r275 = 0 then (fX3_objection_b303 mkd msz men x2 x4) else (slet (32 * x2) fun v291 => slet (v291 + x3) fun v293 => ard men 1536 v293 fun v294 => bn1 (fX3_liesIn x4 v294 men) fun r295 => if r295 = 0 then (fX3_objection_b303 mkd msz men x2 x4) else (some (-1)))) else (some (-3))) else (some (-2))))) else (ard mkd 48 x2 fun v332 => if v332 = 1 then (ard msz 48 x2 fun v346 => if x3 ≤ v346 then (some 0) else (some (-1))) else (some (-2))))))
def fX3_cost (x1 : Int32) (x2 : Int32) (x3 : Int32) (x4 : Int32) (mkd : Nat → Int32) (men : Nat → Int32) : Option (Int32) := if x1 = 2 then (slet (32 * x2) fun v17 => slet (v17 + x3) fun v19 => ard men 1536 v19 fun v20 => ard mkd 48 v20 fun v21 => if v21 = 1 then (slet (32 * x2) fun v34 => slet (v34 + x3) fun v36 => ard men 1536 v36 fun v37 => bn1 (fX3_links v37 men) fun r38 => if r38 ≤ 1 then (slet (2 + 0) fun v50 => some v50) else (slet (2 + 1) fun v50 => some v50)) else (slet (2 + 0) fun v50 => some v50)) else (if x1 = 3 then (if x2 = x4 then (some 2) else (some 3)) else (if x1 = 5 then (some 2) else (some 3)))
def fX3_perform (x1 : Int32) (x2 : Int32) (x3 : Int32) (x4 : Int32) (x5 : Int32) (mkd : Nat → Int32) (msz : Nat → Int32) (mct : Nat → Int32) (men : Nat → Int32) : Option (Int32 × (Nat → Int32) × (Nat → Int32) × (Nat → Int32) × (Nat → Int32)) := if x1 = 0 then (bn1 (fX3_leastAbsent mkd) fun r41 => awr mkd 48 r41 x4 fun mkd_54 => awr msz 48 r41 0 fun msz_62 => slet (32 * x2) fun v70 => slet (v70 + x3) fun v72 => awr men 1536 v72 r41 fun men_75 => some (r41, mkd_54, msz_62, mct, men_75)) else (if x1 = 1 then (slet (32 * x2) fun v86 => slet (v86 + x3) fun v88 => awr men 1536 v88 x4 fun men_91 => some (0, mkd, msz, mct, men_91)) else (if x1 = 2 then (slet (32 * x2) fun v101 => slet (v101 + x3) fun v103 => ard men 1536 v103 fun v104 => slet (32 * x2) fun v114 => slet (v114 + x3) fun v116 => awr men 1536 v116 (-1) fun men_118 => bn1 (fX3_links v104 men_118) fun r122 => if r122 = 0 then (awr mkd 48 v104 0 fun mkd_135 => some (0, mkd_135, msz, mct, men_118)) else (some (0, mkd, msz, mct, men_118))) else (if x1 = 3 then (slet (32 * x2) fun v145 => slet (v145 + x3) fun v147 => ard men 1536 v147 fun v148 => slet (32 * x2) fun v158 => slet (v158 + x3) fun v160 => awr men 1536 v160 (-1) fun men_162 => slet (32 * x4) fun v171 => slet (v171 + x5) fun v174 => awr men_162 1536 v174 v148 fun men_177 => some (0, mkd, msz, mct, men_177)) else (if x1 = 4 then (slet (8 * x2) fun v187 => slet (v187 + x3) fun v189 => awr mct 384 v189 x4 fun mct_192 => ard msz 48 x2 fun v199 => if x3 = v199 then (ard msz 48 x2 fun v209 => slet (v209 + 1) fun v211 => awr msz 48 x2 v211 fun msz_212 => some (0, mkd, msz_212, mct_192, men)) else (some (0, mkd, msz, mct_192, men))) else (awr msz 48 x2 x3 fun msz_221 => some (0, mkd, msz_221, mct, men))))))
def fX3_settle (mkpt : Int32) (mcn : Int32) (mkd : Nat → Int32) (msz : Nat → Int32) (mct : Nat → Int32) (men : Nat → Int32) : Option (Int32 × Int32 × (Nat → Int32) × (Nat → Int32) × (Nat → Int32) × (Nat → Int32)) := bn4 (fX3_copy 0 1 mkd msz mct men) fun mkd_3 msz_3 mct_3 men_3 => bn1 (fX3_live mkd_3 msz_3) fun r13 => some (r13, 0, mkd_3, msz_3, mct_3, men_3)
def fX3_sync (mkpt : Int32) (msyn : Int32) (mcn : Int32) (mkd : Nat → Int32) (msz : Nat → Int32) (mct : Nat → Int32) (men : Nat → Int32) : Option (Int32 × Int32 × Int32 × Int32 × (Nat → Int32) × (Nat → Int32) × (Nat → Int32) × (Nat → Int32)) := bn6 (fX3_settle mkpt mcn mkd msz mct men) fun mkpt_1 mcn_1 mkd_1 msz_1 mct_1 men_1 => slet (msyn + 1) fun v10 => some (mkpt_1, mkpt_1, v10, mcn_1, mkd_1, msz_1, mct_1, men_1)
def fX3_attempt_b51 (mlim : Int32) (x1 : Int32) (x2 : Int32) (x3 : Int32) (x4 : Int32) (x5 : Int32) (x7 : Int32) (mkpt : Int32) (msyn : Int32) (mcn : Int32) (mkd : Nat → Int32) (msz : Nat → Int32) (mct : Nat → Int32) (men : Nat → Int32) (mch : Nat → Int32) : Option (Int32 × Int32 × Int32 × Int32 × (Nat → Int32) × (Nat → Int32) × (Nat → Int32) × (Nat → Int32) × (Nat → Int32)) := bn4 (fX3_copy 0 2 mkd msz mct men) fun mkd_54 msz_54 mct_54 men_54 => bn5 (fX3_perform x1 x2 x3 x4 x5 mkd_54 msz_54 mct_54 men_54) fun r65 mkd_65 msz_65 mct_65 men_65 => bn1 (fX3_live mkd_65 msz_65) fun r71 => slet (mlim - 8) fun v80 => if r71 ≤ v80 then (slet (mkpt + x7) fun v100 => slet (5 * mcn) fun v109 => awr mch 200 v109 x1 fun mch_119 => slet (v109 + 1) fun v127 => awr mch_119 200 v127 x2 fun mch_129 => slet (v109 + 2) fun v137 => awr mch_129 200 v137 x3 fun mch_139 => slet (v109 + 3) fun v147 => awr mch_139 200 v147 x4 fun mch_150 => slet (v109 + 4) fun v158 => awr mch_150 200 v158 x5 fun mch_161 => slet (mcn + 1) fun v168 => some (r65, v100, msyn, v168, mkd_65, msz_65, mct_65, men_65, mch_161)) else (bn4 (fX3_copy 2 0 mkd_65 msz_65 mct_65 men_65) fun mkd_87 msz_87 mct_87 men_87 => some (-6, mkpt, msyn, mcn, mkd_87, msz_87, mct_87, men_87, mch))
def fX3_attempt (x1 : Int32) (x2 : Int32) (x3 : Int32) (x4 : Int32) (x5 : Int32) (mlim : Int32) (mkpt : Int32) (msyn : Int32) (mcn : Int32) (mkd : Nat → Int32) (msz : Nat → Int32) (mct : Nat → Int32) (men : Nat → Int32) (mch : Nat → Int32) : Option (Int32 × Int32 × Int32 × Int32 × (Nat → Int32) × (Nat → Int32) × (Nat → Int32) × (Nat → Int32) × (Nat → Int32)) := bn1 (fX3_objection x1 x2 x3 x4 x5 mkd msz men) fun r8 => if r8 = 0 then (bn1 (fX3_cost x1 x2 x3 x4 mkd men) fun r27 => slet (mkpt + r27) fun v38 => if v38 ≤ mlim then (fX3_attempt_b51 mlim x1 x2 x3 x4 x5 r27 mkpt msyn mcn mkd msz mct men mch) else (bn8 (fX3_sync mkpt msyn mcn mkd msz mct men) fun r47 mkpt_47 msyn_47 mcn_47 mkd_47 msz_47 mct_47 men_47 => fX3_attempt_b51 mlim x1 x2 x3 x4 x5 r27 mkpt_47 msyn_47 mcn_47 mkd_47 msz_47 mct_47 men_47 mch)) else (some (r8, mkpt, msyn, mcn, mkd, msz, mct, men, mch))
def fX3_create (x1 : Int32) (x2 : Int32) (x3 : Int32) (mlim : Int32) (mkpt : Int32) (msyn : Int32) (mcn : Int32) (mkd : Nat → Int32) (msz : Nat → Int32) (mct : Nat → Int32) (men : Nat → Int32) (mch : Nat → Int32) : Option (Int32 × Int32 × Int32 × Int32 × (Nat → Int32) × (Nat → Int32) × (Nat → Int32) × (Nat → Int32) × (Nat → Int32)) := bn1 (fX3_out x1 16) fun r3 => if r3 = 0 then (bn1 (fX3_out x2 32) fun r12 => if r12 = 0 then (if x3 = 0 then (bn9 (fX3_attempt 0 x1 x2 1 0 mlim mkpt msyn mcn mkd msz mct men mch) fun r34 mkpt_34 msyn_34 mcn_34 mkd_34 msz_34 mct_34 men_34 mch_34 => some (r34, mkpt_34, msyn_34, mcn_34, mkd_34, msz_34, mct_34, men_34, mch_34)) else (bn9 (fX3_attempt 0 x1 x2 2 0 mlim mkpt msyn mcn mkd msz mct men mch) fun r34 mkpt_34 msyn_34 mcn_34 mkd_34 msz_34 mct_34 men_34 mch_34 => some (r34, mkpt_34, msyn_34, mcn_34, mkd_34, msz_34, mct_34, men_34, mch_34))) else (some (-1, mkpt, msyn, mcn, mkd, msz, mct, men, mch))) else (some (-1, mkpt, msyn, mcn, mkd, msz, mct, men, mch))
def fX3_link (x1 : Int32) (x2 : Int32) (x3 : Int32) (mlim : Int32) (mkpt : Int32) (msyn : Int32) (mcn : Int32) (mkd : Nat → Int32) (msz : Nat → Int32) (mct : Nat → Int32) (men : Nat → Int32) (mch : Nat → Int32) : Option (Int32 × Int32 × Int32 × Int32 × (Nat → Int32) × (Nat → Int32) × (Nat → Int32) × (Nat → Int32) × (Nat → Int32)) := bn1 (fX3_out x1 16) fun r3 => if r3 = 0 then (bn1 (fX3_out x2 32) fun r12 => if r12 = 0 then (bn1 (fX3_out x3 16) fun r21 => if r21 = 0 then (bn9 (fX3_attempt 1 x1 x2 x3 0 mlim mkpt msyn mcn mkd msz mct men mch) fun r35 mkpt_35 msyn_35 mcn_35 mkd_35 msz_35 mct_35 men_35 mch_35 => some (r35, mkpt_35, msyn_35, mcn_35, mkd_35, msz_35, mct_35, men_35, mch_35)) else (some (-1, mkpt, msyn, mcn, mkd, msz, mct, men, mch))) else (some (-1, mkpt, msyn, mcn, mkd, msz, mct, men, mch))) else (some (-1, mkpt, msyn, mcn, mkd, msz, mct, men, mch))
def fX3_remove (x1 : Int32) (x2 : Int32) (mlim : Int32) (mkpt : Int32) (msyn : Int32) (mcn : Int32) (mkd : Nat → Int32) (msz : Nat → Int32) (mct : Nat → Int32) (men : Nat → Int32) (mch : Nat → Int32) : Option (Int32 × Int32 × Int32 × Int32 × (Nat → Int32) × (Nat → Int32) × (Nat → Int32) × (Nat → Int32) × (Nat → Int32)) := bn1 (fX3_out x1 16) fun r3 => if r3 = 0 then (bn1 (fX3_out x2 32) fun r12 => if r12 = 0 then (bn9 (fX3_attempt 2 x1 x2 0 0 mlim mkpt msyn mcn mkd msz mct men mch) fun r26 mkpt_26 msyn_26 mcn_26 mkd_26 msz_26 mct_26 men_26 mch_26 => some (r26, mkpt_26, msyn_26, mcn_26, mkd_26, msz_26, mct_26, men_26, mch_26)) else (some (-1, mkpt, msyn, mcn, mkd, msz, mct, men, mch))) else (some (-1, mkpt, msyn, mcn, mkd, msz, mct, men, mch))
def fX3_rename (x1 : Int32) (x2 : Int32) (x3 : Int32) (x4 : Int32) (mlim : Int32) (mkpt : Int32) (msyn : Int32) (mcn : Int32) (mkd : Nat → Int32) (msz : Nat → Int32) (mct : Nat → Int32) (men : Nat → Int32) (mch : Nat → Int32) : Option (Int32 × Int32 × Int32 × Int32 × (Nat → Int32) × (Nat → Int32) × (Nat → Int32) × (Nat → Int32) × (Nat → Int32)) := bn1 (fX3_out x1 16) fun r3 => if r3 = 0 then (bn1 (fX3_out x2 32) fun r12 => if r12 = 0 then (bn1 (fX3_out x3 16) fun r21 => if r21 = 0 then (bn1 (fX3_out x4 32) fun r31 => if r31 = 0 then (bn9 (fX3_attempt 3 x1 x2 x3 x4 mlim mkpt msyn mcn mkd msz mct men mch) fun r46 mkpt_46 msyn_46 mcn_46 mkd_46 msz_46 mct_46 men_46 mch_46 => some (r46, mkpt_46, msyn_46, mcn_46, mkd_46, msz_46, mct_46, men_46, mch_46)) else (some (-1, mkpt, msyn, mcn, mkd, msz, mct, men, mch))) else (some (-1, mkpt, msyn, mcn, mkd, msz, mct, men, mch))) else (some (-1, mkpt, msyn, mcn, mkd, msz, mct, men, mch))) else (some (-1, mkpt, msyn, mcn, mkd, msz, mct, men, mch))
def fX3_write (x1 : Int32) (x2 : Int32) (x3 : Int32) (mlim : Int32) (mkpt : Int32) (msyn : Int32) (mcn : Int32) (mkd : Nat → Int32) (msz : Nat → Int32) (mct : Nat → Int32) (men : Nat → Int32) (mch : Nat → Int32) : Option (Int32 × Int32 × Int32 × Int32 × (Nat → Int32) × (Nat → Int32) × (Nat → Int32) × (Nat → Int32) × (Nat → Int32)) := bn1 (fX3_out x1 16) fun r3 => if r3 = 0 then (bn1 (fX3_out x2 8) fun r12 => if r12 = 0 then (bn9 (fX3_attempt 4 x1 x2 x3 0 mlim mkpt msyn mcn mkd msz mct men mch) fun r26 mkpt_26 msyn_26 mcn_26 mkd_26 msz_26 mct_26 men_26 mch_26 => some (r26, mkpt_26, msyn_26, mcn_26, mkd_26, msz_26, mct_26, men_26, mch_26)) else (some (-1, mkpt, msyn, mcn, mkd, msz, mct, men, mch))) else (some (-1, mkpt, msyn, mcn, mkd, msz, mct, men, mch))
def fX3_cut (x1 : Int32) (x2 : Int32) (mlim : Int32) (mkpt : Int32) (msyn : Int32) (mcn : Int32) (mkd : Nat → Int32) (msz : Nat → Int32) (mct : Nat → Int32) (men : Nat → Int32) (mch : Nat → Int32) : Option (Int32 × Int32 × Int32 × Int32 × (Nat → Int32) × (Nat → Int32) × (Nat → Int32) × (Nat → Int32) × (Nat → Int32)) := bn1 (fX3_out x1 16) fun r3 => if r3 = 0 then (bn1 (fX3_out x2 9) fun r12 => if r12 = 0 then (bn9 (fX3_attempt 5 x1 x2 0 0 mlim mkpt msyn mcn mkd msz mct men mch) fun r26 mkpt_26 msyn_26 mcn_26 mkd_26 msz_26 mct_26 men_26 mch_26 => some (r26, mkpt_26, msyn_26, mcn_26, mkd_26, msz_26, mct_26, men_26, mch_26)) else (some (-1, mkpt, msyn, mcn, mkd, msz, mct, men, mch))) else (some (-1, mkpt, msyn, mcn, mkd, msz, mct, men, mch))
def fX3_crash_b33 (mch : Nat → Int32) : Nat → Int32 → Int32 → Int32 → Int32 → (Nat → Int32) → (Nat → Int32) → (Nat → Int32) → (Nat → Int32) → Option (Int32 × Int32 × Int32 × (Nat → Int32) × (Nat → Int32) × (Nat → Int32) × (Nat → Int32))
  | 0, _, _, _, _, _, _, _, _ => none
  | n + 1, x2, x3, mkpt, mcn, mkd, msz, mct, men => if x2 ≤ x3 then (bn6 (fX3_settle mkpt mcn mkd msz mct men) fun mkpt_98 mcn_98 mkd_98 msz_98 mct_98 men_98 => some (x2, mkpt_98, mcn_98, mkd_98, msz_98, mct_98, men_98)) else (slet (5 * x3) fun v45 => ard mch 200 v45 fun v46 => slet (5 * x3) fun v53 => slet (v53 + 1) fun v55 => ard mch 200 v55 fun v56 => slet (5 * x3) fun v63 => slet (v63 + 2) fun v65 => ard mch 200 v65 fun v66 => slet (5 * x3) fun v73 => slet (v73 + 3) fun v75 => ard mch 200 v75 fun v76 => slet (5 * x3) fun v83 => slet (v83 + 4) fun v85 => ard mch 200 v85 fun v86 => bn5 (fX3_perform v46 v56 v66 v76 v86 mkd msz mct men) fun r87 mkd_87 msz_87 mct_87 men_87 => slet (x3 + 1) fun v91 => fX3_crash_b33 mch n x2 v91 mkpt mcn mkd_87 msz_87 mct_87 men_87)
def fX3_crash_b24 (mch : Nat → Int32) (z0 : Int32) (mkpt : Int32) (mcn : Int32) (mkd : Nat → Int32) (msz : Nat → Int32) (mct : Nat → Int32) (men : Nat → Int32) : Option (Int32 × Int32 × Int32 × (Nat → Int32) × (Nat → Int32) × (Nat → Int32) × (Nat → Int32)) := bn4 (fX3_copy 1 0 mkd msz mct men) fun mkd_28 msz_28 mct_28 men_28 => fX3_crash_b33 mch 2000 z0 0 mkpt mcn mkd_28 msz_28 mct_28 men_28
def fX3_crash (x1 : Int32) (mch : Nat → Int32) (mkpt : Int32) (mcn : Int32) (mkd : Nat → Int32) (msz : Nat → Int32) (mct : Nat → Int32) (men : Nat → Int32) : Option (Int32 × Int32 × Int32 × (Nat → Int32) × (Nat → Int32) × (Nat → Int32) × (Nat → Int32)) := if 0 ≤ x1 then (if x1 ≤ mcn then (fX3_crash_b24 mch x1 mkpt mcn mkd msz mct men) else (fX3_crash_b24 mch mcn mkpt mcn mkd msz mct men)) else (fX3_crash_b24 mch 0 mkpt mcn mkd msz mct men)
def fX3_find (x1 : Int32) (x2 : Int32) (mkd : Nat → Int32) (men : Nat → Int32) : Option (Int32) := bn1 (fX3_out x1 16) fun r3 => if r3 = 0 then (bn1 (fX3_out x2 32) fun r12 => if r12 = 0 then (bn1 (fX3_isDir x1 mkd) fun r22 => if r22 = 0 then (some (-2)) else (slet (32 * x1) fun v35 => slet (v35 + x2) fun v37 => ard men 1536 v37 fun v38 => if v38 < 0 then (some (-2)) else (slet (32 * x1) fun v49 => slet (v49 + x2) fun v51 => ard men 1536 v51 fun v52 => some v52))) else (some (-1))) else (some (-1))
def fX3_entry_b27 (mkd : Nat → Int32) (men : Nat → Int32) : Nat → Int32 → Int32 → Int32 → Int32 → Option (Int32)
  | 0, _, _, _, _ => none
  | n + 1, x1, x2, x3, x4 => if 32 ≤ x4 then (some (-1)) else (slet (32 * x1) fun v41 => slet (v41 + x4) fun v44 => ard men 1536 v44 fun v45 => if 0 ≤ v45 then (if x3 = x2 then (some x4) else (slet (x3 + 1) fun v60 => slet (x4 + 1) fun v63 => fX3_entry_b27 mkd men n x1 x2 v60 v63)) else (slet (x4 + 1) fun v63 => fX3_entry_b27 mkd men n x1 x2 x3 v63))
def fX3_entry (x1 : Int32) (x2 : Int32) (mkd : Nat → Int32) (men : Nat → Int32) : Option (Int32) := bn1 (fX3_out x1 16) fun r3 => if r3 = 0 then (bn1 (fX3_isDir x1 mkd) fun r13 => if r13 = 0 then (some (-2)) else (fX3_entry_b27 mkd men 2000 x1 x2 0 0)) else (some (-1))
def fX3_read (x1 : Int32) (x2 : Int32) (mkd : Nat → Int32) (msz : Nat → Int32) (mct : Nat → Int32) : Option (Int64) := bn1 (fX3_out x1 16) fun r3 => if r3 = 0 then (ard mkd 48 x1 fun v14 => if v14 = 1 then (ard msz 48 x1 fun v25 => bn1 (fX3_out x2 v25) fun r26 => if r26 = 0 then (slet (8 * x1) fun v43 => slet (v43 + x2) fun v45 => ard mct 384 v45 fun v46 => slet (v46.toInt64) fun v47 => some v47) else (some 1000000000000)) else (some 1000000000000)) else (some 1000000000000)
def fX3_tell (x1 : Int32) (x2 : Int32) (mkd : Nat → Int32) (msz : Nat → Int32) (men : Nat → Int32) : Option (Int32) := bn1 (fX3_out x1 16) fun r3 => if r3 = 0 then (bn1 (fX3_out x2 3) fun r11 => if r11 = 0 then (if x2 = 0 then (ard mkd 48 x1 fun v28 => some v28) else (ard mkd 48 x1 fun v35 => if v35 = 0 then (some (-2)) else (if x2 = 1 then (bn1 (fX3_isDir x1 mkd) fun r49 => if r49 = 0 then (ard msz 48 x1 fun v68 => some v68) else (bn1 (fX3_entryCount x1 men) fun r57 => some r57)) else (bn1 (fX3_links x1 men) fun r72 => some r72)))) else (some (-1))) else (some (-1))
def fX3_count (x1 : Int32) (mlim : Int32) (mkpt : Int32) (msyn : Int32) (mcn : Int32) (mkd : Nat → Int32) (msz : Nat → Int32) : Option (Int32) := if x1 = 0 then (bn1 (fX3_live mkd msz) fun r41 => some r41) else (if x1 = 1 then (some mkpt) else (if x1 = 2 then (some mcn) else (if x1 = 3 then (some msyn) else (if x1 = 4 then (bn1 (fX3_nodes mkd) fun r61 => some r61) else (if x1 = 5 then (some mlim) else (some (-1)))))))
end
section
set_option maxHeartbeats 4000000 in
set_option maxRecDepth 100000 in
theorem cX1_isDirectory_met (l : Launch) (dC : Nat → ClassId) (dI : Nat → Nat → Nat) (cI : ClassId) (a0 a1 a2 a3 a4 a5 a6 : Nat) (akd : Nat → Int32) (asz : Nat → Int32) (alk : Nat → Int32) (ahm : Nat → Int32) (atg : Nat → Int32) (avl : Nat → Int32) (x1 : Int32) (r : Int32) (hf : fX1_isDirectory x1 akd = some r) : Met l yX1_isDirectory wsX1_isDirectory ({ frames := 0, cells := 0, slots := 0, locals := 0 } : Room) (pcR [.ref a0, .int x1] (dC, dI) vwCl [(cI, .int)] (wX1 cI a0 a1 a2 a3 a4 a5 a6 akd asz alk ahm atg avl)) (qI r pT aN) 0 0 aN := by
  refine Met.ofW (cc := cX1_isDirectory) (maxL := 2) (ret := (some .boolean)) (by decide) rfl ?_
  intro p e s m args below meth c s₁ B hml hv
  obtain ⟨rfl, hP, hK⟩ := hv
  have hx := B.exec
  have hb := B.bytes
  have hr := B.returns
  have hts := atoms_spec (ws := wsX1_isDirectory) B.pre
  have hown : s.vm.findClass RX1 = some m.cls := findClass_of_methodNamed B.named
  have hlocks := B.notSynchronized
  have hS : va_S aN s.heap s.heap [] := va_S.rf
  have hl := lv_entry ([.ref a0, .int x1]) (n := 2) (Nat.le_of_ble_eq_true rfl)
  rw [lg_entry_eq]
  generalize (lg_sl ([.ref a0, .int x1]) ++ List.replicate (2 - (lg_sl ([.ref a0, .int x1])).length) Slot.unset).toArray = ls at hl ⊢
  have hl : lv_has ls 2 [(0, .ref a0), (1, .int x1)] := hl
  unfold fX1_isDirectory at hf
  refine lv_aload_n hx hb dX1_isDirectory_0 rfl (lv_at hl 0 rfl) ?_
  refine va_get (D := (dC, dI)) (ci := 1) (v := .ref a1) (C := RX1) (T := TX1) (N := 6) hx hb hts (fun w h => mc (inX1 w h)) hown hK hP 0 rfl rfl 0 (by decide) (hts _ (mc q_27)) (fun _ h9 => h9) rfl dX1_isDirectory_1 ?_
  refine lv_iload_n hx hb dX1_isDirectory_4 rfl (lv_at hl 1 rfl) ?_
  obtain ⟨hiv5, v5, ev5, hf⟩ := ard_e hf
  refine rw_ald hx hb hK hP 1 0 rfl rfl hiv5 ev5 dX1_isDirectory_5 ?_
  refine lv_iconst (v := 2) hx hb dX1_isDirectory_6 (by decide) ?_
  refine lv_icmp_ne (tgt := 14) hx hb dX1_isDirectory_7 (by decide) (fun c7 => ?_) (fun c7 => ?_)
  · have hf := it_f c7 hf
    refine lv_iconst (v := 0) hx hb dX1_isDirectory_14 (by decide) ?_
    cases hf
    exact retZ hx hb hr hlocks (by decide) trivial hS dX1_isDirectory_15
  · have hf := it_t c7 hf
    refine lv_iconst (v := 1) hx hb dX1_isDirectory_10 (by decide) ?_
    refine lv_goto (tgt := 15) hx hb dX1_isDirectory_11 (by decide) ?_
    cases hf
    exact retZ hx hb hr hlocks (by decide) trivial hS dX1_isDirectory_15
set_option maxHeartbeats 4000000 in
set_option maxRecDepth 100000 in
theorem cX1_target_met (l : Launch) (dC : Nat → ClassId) (dI : Nat → Nat → Nat) (cI : ClassId) (a0 a1 a2 a3 a4 a5 a6 : Nat) (akd : Nat → Int32) (asz : Nat → Int32) (alk : Nat → Int32) (ahm : Nat → Int32) (atg : Nat → Int32) (avl : Nat → Int32) (x1 : Int32) (x2 : Int32) (r : Int32) (hf : fX1_target x1 x2 atg = some r) : Met l yX1_target wsX1_target ({ frames := 0, cells := 0, slots := 0, locals := 0 } : Room) (pcR [.ref a0, .int x1, .int x2] (dC, dI) vwCl [(cI, .int)] (wX1 cI a0 a1 a2 a3 a4 a5 a6 akd asz alk ahm atg avl)) (qI r pT aN) 0 0 aN := by
  refine Met.ofW (cc := cX1_target) (maxL := 3) (ret := (some .int)) (by decide) rfl ?_
  intro p e s m args below meth c s₁ B hml hv
  obtain ⟨rfl, hP, hK⟩ := hv
  have hx := B.exec
  have hb := B.bytes
  have hr := B.returns
  have hts := atoms_spec (ws := wsX1_target) B.pre
  have hown : s.vm.findClass RX1 = some m.cls := findClass_of_methodNamed B.named
  have hlocks := B.notSynchronized
  have hS : va_S aN s.heap s.heap [] := va_S.rf
  have hl := lv_entry ([.ref a0, .int x1, .int x2]) (n := 3) (Nat.le_of_ble_eq_true rfl)
  rw [lg_entry_eq]
  generalize (lg_sl ([.ref a0, .int x1, .int x2]) ++ List.replicate (3 - (lg_sl ([.ref a0, .int x1, .int x2])).length) Slot.unset).toArray = ls at hl ⊢
  have hl : lv_has ls 3 [(0, .ref a0), (1, .int x1), (2, .int x2)] := hl
  unfold fX1_target at hf
  refine lv_aload_n hx hb dX1_target_0 rfl (lv_at hl 0 rfl) ?_
  refine va_get (D := (dC, dI)) (ci := 1) (v := .ref a5) (C := RX1) (T := TX1) (N := 6) hx hb hts (fun w h => mc (inX1 w h)) hown hK hP 0 rfl rfl 4 (by decide) (hts _ (mc q_31)) (fun _ h9 => h9) rfl dX1_target_1 ?_
  refine lv_iload_n hx hb dX1_target_4 rfl (lv_at hl 1 rfl) ?_
  refine lv_bipush (v := 32) hx hb dX1_target_5 (by decide) ?_
  obtain ⟨v7, ev7, hf⟩ := slet_e hf
  refine lv_imul hx hb dX1_target_7 ?_
  refine rw_nm ev7 ?_
  refine lv_iload_n hx hb dX1_target_8 rfl (lv_at hl 2 rfl) ?_
  obtain ⟨v9, ev9, hf⟩ := slet_e hf
  refine lv_iadd hx hb dX1_target_9 ?_
  refine rw_nm ev9 ?_
  obtain ⟨hiv10, v10, ev10, hf⟩ := ard_e hf
  refine rw_ald hx hb hK hP 5 0 rfl rfl hiv10 ev10 dX1_target_10 ?_
  cases hf
  exact retI hx hb hr hlocks trivial hS dX1_target_11
set_option maxHeartbeats 4000000 in
set_option maxRecDepth 100000 in
theorem wbX1_leastFreeNode_2 {p : Program} {l : Launch} {e : Env} {s : State} {m : MethodId} {args : Array Value} {below : List Frame} {meth : Method} {c : Code} {dC : Nat → ClassId} {dI : Nat → Nat → Nat} {cI : ClassId} (hx : p.tables.exec = Jvm.exec) (hb : c.code = cX1_leastFreeNode) (hml : c.maxLocals = 2) (hown : s.vm.findClass RX1 = some m.cls) (hts : ∀ w ∈ wsX1_leastFreeNode, w.before args s = true) (hr : meth.sig.returnType = (some .int)) (hlocks : meth.locks = false) (hK : va_K (dC, dI) vwCl [(cI, .int)] s) (a0 a1 a2 a3 a4 a5 a6 : Nat) (akd : Nat → Int32) (asz : Nat → Int32) (alk : Nat → Int32) (ahm : Nat → Int32) (atg : Nat → Int32) (avl : Nat → Int32) (r : Int32) : ∀ (n : Nat), ∀ (x1 : Int32) (H : Heap) (locs : List Loc), va_P (dC, dI) vwCl (wX1 cI a0 a1 a2 a3 a4 a5 a6 akd asz alk ahm atg avl) H → va_S aN s.heap H locs → ∀ (ls : Array Slot), lv_has ls 2 [(0, .ref a0), (1, .int x1)] → fX1_leastFreeNode_b2 akd n x1 = some r → W p l e ({ frames := 0, cells := 0, slots := 0, locals := 0 } : Room) s m args below meth c H locs 0 0 (MQ below (qI r pT aN) args s 0 0 aN) (F0 m 2 ls []) := by
  intro n
  induction n with
  | zero =>
    intro x1 H locs hP hS ls hl hf
    cases hf
  | succ n ih =>
    intro x1 H locs hP hS ls hl hf
    rw [fX1_leastFreeNode_b2] at hf
    refine lv_iload_n hx hb dX1_leastFreeNode_2 rfl (lv_at hl 1 rfl) ?_
    refine lv_bipush (v := 16) hx hb dX1_leastFreeNode_3 (by decide) ?_
    refine lv_icmp_ge (tgt := 25) hx hb dX1_leastFreeNode_5 (by decide) (fun c5 => ?_) (fun c5 => ?_)
    · have hf := it_t c5 hf
      refine lv_iconst (v := 0) hx hb dX1_leastFreeNode_25 (by decide) ?_
      cases hf
      exact retI hx hb hr hlocks trivial hS dX1_leastFreeNode_26
    · have hf := it_f c5 hf
      refine lv_aload_n hx hb dX1_leastFreeNode_8 rfl (lv_at hl 0 rfl) ?_
      refine va_get (D := (dC, dI)) (ci := 1) (v := .ref a1) (C := RX1) (T := TX1) (N := 6) hx hb hts (fun w h => mc (inX1 w h)) hown hK hP 0 rfl rfl 0 (by decide) (hts _ (mc q_27)) (fun _ h9 => h9) rfl dX1_leastFreeNode_9 ?_
      refine lv_iload_n hx hb dX1_leastFreeNode_12 rfl (lv_at hl 1 rfl) ?_
      obtain ⟨hiv13, v13, ev13, hf⟩ := ard_e hf
      refine rw_ald hx hb hK hP 1 0 rfl rfl hiv13 ev13 dX1_leastFreeNode_13 ?_
      refine lv_if_ne (tgt := 19) hx hb dX1_leastFreeNode_14 (by decide) (fun c14 => ?_) (fun c14 => ?_)
      · have hf := it_f c14 hf
        obtain ⟨v19, ev19, hf⟩ := slet_e hf
        refine lv_iinc (v := v19) (lv' := [(1, .int v19), (0, .ref a0)]) hx hb dX1_leastFreeNode_19 hl (k := 1) rfl (by rw [ev19]; rfl) (by decide) rfl (fun ls hl => ?_)
        refine lv_goto (tgt := 2) hx hb dX1_leastFreeNode_22 (by decide) ?_
        exact ih v19 _ _ hP hS _ (lv_sub hl [1, 0] rfl) hf
      · have hf := it_t c14 hf
        refine lv_iload_n hx hb dX1_leastFreeNode_17 rfl (lv_at hl 1 rfl) ?_
        cases hf
        exact retI hx hb hr hlocks trivial hS dX1_leastFreeNode_18
set_option maxHeartbeats 4000000 in
set_option maxRecDepth 100000 in
theorem cX1_leastFreeNode_met (l : Launch) (dC : Nat → ClassId) (dI : Nat → Nat → Nat) (cI : ClassId) (a0 a1 a2 a3 a4 a5 a6 : Nat) (akd : Nat → Int32) (asz : Nat → Int32) (alk : Nat → Int32) (ahm : Nat → Int32) (atg : Nat → Int32) (avl : Nat → Int32) (r : Int32) (hf : fX1_leastFreeNode akd = some r) : Met l yX1_leastFreeNode wsX1_leastFreeNode ({ frames := 0, cells := 0, slots := 0, locals := 0 } : Room) (pcR [.ref a0] (dC, dI) vwCl [(cI, .int)] (wX1 cI a0 a1 a2 a3 a4 a5 a6 akd asz alk ahm atg avl)) (qI r pT aN) 0 0 aN := by
  refine Met.ofW (cc := cX1_leastFreeNode) (maxL := 2) (ret := (some .int)) (by decide) rfl ?_
  intro p e s m args below meth c s₁ B hml hv
  obtain ⟨rfl, hP, hK⟩ := hv
  have hx := B.exec
  have hb := B.bytes
  have hr := B.returns
  have hts := atoms_spec (ws := wsX1_leastFreeNode) B.pre
  have hown : s.vm.findClass RX1 = some m.cls := findClass_of_methodNamed B.named
  have hlocks := B.notSynchronized
  have hS : va_S aN s.heap s.heap [] := va_S.rf
  have hl := lv_entry ([.ref a0]) (n := 2) (Nat.le_of_ble_eq_true rfl)
  rw [lg_entry_eq]
  generalize (lg_sl ([.ref a0]) ++ List.replicate (2 - (lg_sl ([.ref a0])).length) Slot.unset).toArray = ls at hl ⊢
  have hl : lv_has ls 2 [(0, .ref a0)] := hl
  unfold fX1_leastFreeNode at hf
  refine lv_iconst (v := 0) hx hb dX1_leastFreeNode_0 (by decide) ?_
  refine lv_istore_n (lv' := [(1, .int 0), (0, .ref a0)]) hx hb dX1_leastFreeNode_1 rfl hl (by decide) rfl (fun ls hl => ?_)
  exact wbX1_leastFreeNode_2 hx hb hml hown hts hr hlocks hK a0 a1 a2 a3 a4 a5 a6 akd asz alk ahm atg avl r 2000 0 _ _ hP hS _ (lv_sub hl [1, 0] rfl) hf
set_option maxHeartbeats 4000000 in
set_option maxRecDepth 100000 in
theorem cX1_size_met (l : Launch) (dC : Nat → ClassId) (dI : Nat → Nat → Nat) (cI : ClassId) (a0 a1 a2 a3 a4 a5 a6 : Nat) (akd : Nat → Int32) (asz : Nat → Int32) (alk : Nat → Int32) (ahm : Nat → Int32) (atg : Nat → Int32) (avl : Nat → Int32) (x1 : Int32) (r : Int32) (hf : fX1_size x1 asz = some r) : Met l yX1_size wsX1_size ({ frames := 0, cells := 0, slots := 0, locals := 0 } : Room) (pcR [.ref a0, .int x1] (dC, dI) vwCl [(cI, .int)] (wX1 cI a0 a1 a2 a3 a4 a5 a6 akd asz alk ahm atg avl)) (qI r pT aN) 0 0 aN := by
  refine Met.ofW (cc := cX1_size) (maxL := 2) (ret := (some .int)) (by decide) rfl ?_
  intro p e s m args below meth c s₁ B hml hv
  obtain ⟨rfl, hP, hK⟩ := hv
  have hx := B.exec
  have hb := B.bytes
  have hr := B.returns
  have hts := atoms_spec (ws := wsX1_size) B.pre
  have hown : s.vm.findClass RX1 = some m.cls := findClass_of_methodNamed B.named
  have hlocks := B.notSynchronized
  have hS : va_S aN s.heap s.heap [] := va_S.rf
  have hl := lv_entry ([.ref a0, .int x1]) (n := 2) (Nat.le_of_ble_eq_true rfl)
  rw [lg_entry_eq]
  generalize (lg_sl ([.ref a0, .int x1]) ++ List.replicate (2 - (lg_sl ([.ref a0, .int x1])).length) Slot.unset).toArray = ls at hl ⊢
  have hl : lv_has ls 2 [(0, .ref a0), (1, .int x1)] := hl
  unfold fX1_size at hf
  refine lv_aload_n hx hb dX1_size_0 rfl (lv_at hl 0 rfl) ?_
  refine va_get (D := (dC, dI)) (ci := 1) (v := .ref a2) (C := RX1) (T := TX1) (N := 6) hx hb hts (fun w h => mc (inX1 w h)) hown hK hP 0 rfl rfl 1 (by decide) (hts _ (mc q_28)) (fun _ h9 => h9) rfl dX1_size_1 ?_
  refine lv_iload_n hx hb dX1_size_4 rfl (lv_at hl 1 rfl) ?_
  obtain ⟨hiv5, v5, ev5, hf⟩ := ard_e hf
  refine rw_ald hx hb hK hP 2 0 rfl rfl hiv5 ev5 dX1_size_5 ?_
  cases hf
  exact retI hx hb hr hlocks trivial hS dX1_size_6
set_option maxHeartbeats 4000000 in
set_option maxRecDepth 100000 in
theorem cX1_copyFrom_met (l : Launch) (dC : Nat → ClassId) (dI : Nat → Nat → Nat) (cI : ClassId) (a0 a1 a2 a3 a4 a5 a6 b0 b1 b2 b3 b4 b5 b6 : Nat) (akd : Nat → Int32) (asz : Nat → Int32) (alk : Nat → Int32) (ahm : Nat → Int32) (atg : Nat → Int32) (avl : Nat → Int32) (bkd : Nat → Int32) (bsz : Nat → Int32) (blk : Nat → Int32) (bhm : Nat → Int32) (btg : Nat → Int32) (bvl : Nat → Int32) (akd_o : Nat → Int32) (asz_o : Nat → Int32) (alk_o : Nat → Int32) (ahm_o : Nat → Int32) (atg_o : Nat → Int32) (avl_o : Nat → Int32) (hf : fX1_copyFrom bkd bsz blk bhm btg bvl akd asz alk ahm atg avl = some (akd_o, asz_o, alk_o, ahm_o, atg_o, avl_o)) : Met l yX1_copyFrom wsX1_copyFrom ({ frames := 1, cells := 0, slots := 0, locals := 48 } : Room) (pcW [.ref a0, .ref b0] (dC, dI) vwCl [(cI, .int)] (wX1X1b cI a0 a1 a2 a3 a4 a5 a6 b0 b1 b2 b3 b4 b5 b6 akd asz alk ahm atg avl bkd bsz blk bhm btg bvl)) (qV (va_P (dC, dI) vwCl (wX1X1b cI a0 a1 a2 a3 a4 a5 a6 b0 b1 b2 b3 b4 b5 b6 akd_o asz_o alk_o ahm_o atg_o avl_o bkd bsz blk bhm btg bvl)) (inA [a0, a1, a2, a3, a4, a5, a6, b0, b1, b2, b3, b4, b5, b6])) 0 0 (inA [a0, a1, a2, a3, a4, a5, a6, b0, b1, b2, b3, b4, b5, b6]) := by
  refine Met.ofW (cc := cX1_copyFrom) (maxL := 2) (ret := none) (by decide) rfl ?_
  intro p e s m args below meth c s₁ B hml hv
  obtain ⟨rfl, hP, hK, hD0⟩ := hv
  have hx := B.exec
  have hb := B.bytes
  have hr := B.returns
  have hts := atoms_spec (ws := wsX1_copyFrom) B.pre
  have hown : s.vm.findClass RX1 = some m.cls := findClass_of_methodNamed B.named
  have hlocks := B.notSynchronized
  have hD := my_self (as := [a0, a1, a2, a3, a4, a5, a6, b0, b1, b2, b3, b4, b5, b6]) hD0 rfl
  have hS : va_S (inA [a0, a1, a2, a3, a4, a5, a6, b0, b1, b2, b3, b4, b5, b6]) s.heap s.heap [] := va_S.rf
  have hl := lv_entry ([.ref a0, .ref b0]) (n := 2) (Nat.le_of_ble_eq_true rfl)
  rw [lg_entry_eq]
  generalize (lg_sl ([.ref a0, .ref b0]) ++ List.replicate (2 - (lg_sl ([.ref a0, .ref b0])).length) Slot.unset).toArray = ls at hl ⊢
  have hl : lv_has ls 2 [(0, .ref a0), (1, .ref b0)] := hl
  unfold fX1_copyFrom at hf
  refine lv_aload_n hx hb dX1_copyFrom_0 rfl (lv_at hl 1 rfl) ?_
  refine va_get (D := (dC, dI)) (ci := 1) (v := .ref b1) (C := RX1) (T := TX1) (N := 6) hx hb hts (fun w h => mc (inX1 w h)) hown hK hP 7 rfl rfl 0 (by decide) (hts _ (mc q_27)) (fun _ h9 => h9) rfl dX1_copyFrom_1 ?_
  refine lv_iconst (v := 0) hx hb dX1_copyFrom_4 (by decide) ?_
  refine lv_aload_n hx hb dX1_copyFrom_5 rfl (lv_at hl 0 rfl) ?_
  refine va_get (D := (dC, dI)) (ci := 1) (v := .ref a1) (C := RX1) (T := TX1) (N := 6) hx hb hts (fun w h => mc (inX1 w h)) hown hK hP 0 rfl rfl 0 (by decide) (hts _ (mc q_27)) (fun _ h9 => h9) rfl dX1_copyFrom_6 ?_
  refine lv_iconst (v := 0) hx hb dX1_copyFrom_9 (by decide) ?_
  refine lv_aload_n hx hb dX1_copyFrom_10 rfl (lv_at hl 0 rfl) ?_
  refine va_get (D := (dC, dI)) (ci := 1) (v := .ref a1) (C := RX1) (T := TX1) (N := 6) hx hb hts (fun w h => mc (inX1 w h)) hown hK hP 0 rfl rfl 0 (by decide) (hts _ (mc q_27)) (fun _ h9 => h9) rfl dX1_copyFrom_11 ?_
  refine va_alen (v := 16) hx hb hK hP 1 0 rfl rfl rfl dX1_copyFrom_14 ?_
  obtain ⟨hiakd_15, akd_15, eakd_15, hf⟩ := acp_e hf
  refine rw_cpy (ws' := (wX1X1b cI a0 a1 a2 a3 a4 a5 a6 b0 b1 b2 b3 b4 b5 b6 akd_15 asz alk ahm atg avl bkd bsz blk bhm btg bvl)) hx hb (hml.trans hl.1.symm) hown (hts _ (mc q_99)) (hts _ (mc q_101)) (hts _ (mc q_100)) (hts _ (mc q_6)) hK hP hD hS 8 1 0 rfl rfl rfl hiakd_15 eakd_15 rfl (Nat.le_of_ble_eq_true rfl) (Nat.le_of_ble_eq_true rfl) dX1_copyFrom_15 (fun H locs hP hD hS => ?_)
  refine lv_aload_n hx hb dX1_copyFrom_18 rfl (lv_at hl 1 rfl) ?_
  refine va_get (D := (dC, dI)) (ci := 1) (v := .ref b2) (C := RX1) (T := TX1) (N := 6) hx hb hts (fun w h => mc (inX1 w h)) hown hK hP 7 rfl rfl 1 (by decide) (hts _ (mc q_28)) (fun _ h9 => h9) rfl dX1_copyFrom_19 ?_
  refine lv_iconst (v := 0) hx hb dX1_copyFrom_22 (by decide) ?_
  refine lv_aload_n hx hb dX1_copyFrom_23 rfl (lv_at hl 0 rfl) ?_
  refine va_get (D := (dC, dI)) (ci := 1) (v := .ref a2) (C := RX1) (T := TX1) (N := 6) hx hb hts (fun w h => mc (inX1 w h)) hown hK hP 0 rfl rfl 1 (by decide) (hts _ (mc q_28)) (fun _ h9 => h9) rfl dX1_copyFrom_24 ?_
  refine lv_iconst (v := 0) hx hb dX1_copyFrom_27 (by decide) ?_
  refine lv_aload_n hx hb dX1_copyFrom_28 rfl (lv_at hl 0 rfl) ?_
  refine va_get (D := (dC, dI)) (ci := 1) (v := .ref a2) (C := RX1) (T := TX1) (N := 6) hx hb hts (fun w h => mc (inX1 w h)) hown hK hP 0 rfl rfl 1 (by decide) (hts _ (mc q_28)) (fun _ h9 => h9) rfl dX1_copyFrom_29 ?_
  refine va_alen (v := 16) hx hb hK hP 2 0 rfl rfl rfl dX1_copyFrom_32 ?_
  obtain ⟨hiasz_33, asz_33, easz_33, hf⟩ := acp_e hf
  refine rw_cpy (ws' := (wX1X1b cI a0 a1 a2 a3 a4 a5 a6 b0 b1 b2 b3 b4 b5 b6 akd_15 asz_33 alk ahm atg avl bkd bsz blk bhm btg bvl)) hx hb (hml.trans hl.1.symm) hown (hts _ (mc q_99)) (hts _ (mc q_101)) (hts _ (mc q_100)) (hts _ (mc q_6)) hK hP hD hS 9 2 0 rfl rfl rfl hiasz_33 easz_33 rfl (Nat.le_of_ble_eq_true rfl) (Nat.le_of_ble_eq_true rfl) dX1_copyFrom_33 (fun H locs hP hD hS => ?_)
  refine lv_aload_n hx hb dX1_copyFrom_36 rfl (lv_at hl 1 rfl) ?_
  refine va_get (D := (dC, dI)) (ci := 1) (v := .ref b3) (C := RX1) (T := TX1) (N := 6) hx hb hts (fun w h => mc (inX1 w h)) hown hK hP 7 rfl rfl 2 (by decide) (hts _ (mc q_29)) (fun _ h9 => h9) rfl dX1_copyFrom_37 ?_
  refine lv_iconst (v := 0) hx hb dX1_copyFrom_40 (by decide) ?_
  refine lv_aload_n hx hb dX1_copyFrom_41 rfl (lv_at hl 0 rfl) ?_
  refine va_get (D := (dC, dI)) (ci := 1) (v := .ref a3) (C := RX1) (T := TX1) (N := 6) hx hb hts (fun w h => mc (inX1 w h)) hown hK hP 0 rfl rfl 2 (by decide) (hts _ (mc q_29)) (fun _ h9 => h9) rfl dX1_copyFrom_42 ?_
  refine lv_iconst (v := 0) hx hb dX1_copyFrom_45 (by decide) ?_
  refine lv_aload_n hx hb dX1_copyFrom_46 rfl (lv_at hl 0 rfl) ?_
  refine va_get (D := (dC, dI)) (ci := 1) (v := .ref a3) (C := RX1) (T := TX1) (N := 6) hx hb hts (fun w h => mc (inX1 w h)) hown hK hP 0 rfl rfl 2 (by decide) (hts _ (mc q_29)) (fun _ h9 => h9) rfl dX1_copyFrom_47 ?_
  refine va_alen (v := 16) hx hb hK hP 3 0 rfl rfl rfl dX1_copyFrom_50 ?_
  obtain ⟨hialk_51, alk_51, ealk_51, hf⟩ := acp_e hf
  refine rw_cpy (ws' := (wX1X1b cI a0 a1 a2 a3 a4 a5 a6 b0 b1 b2 b3 b4 b5 b6 akd_15 asz_33 alk_51 ahm atg avl bkd bsz blk bhm btg bvl)) hx hb (hml.trans hl.1.symm) hown (hts _ (mc q_99)) (hts _ (mc q_101)) (hts _ (mc q_100)) (hts _ (mc q_6)) hK hP hD hS 10 3 0 rfl rfl rfl hialk_51 ealk_51 rfl (Nat.le_of_ble_eq_true rfl) (Nat.le_of_ble_eq_true rfl) dX1_copyFrom_51 (fun H locs hP hD hS => ?_)
  refine lv_aload_n hx hb dX1_copyFrom_54 rfl (lv_at hl 1 rfl) ?_
  refine va_get (D := (dC, dI)) (ci := 1) (v := .ref b4) (C := RX1) (T := TX1) (N := 6) hx hb hts (fun w h => mc (inX1 w h)) hown hK hP 7 rfl rfl 3 (by decide) (hts _ (mc q_30)) (fun _ h9 => h9) rfl dX1_copyFrom_55 ?_
  refine lv_iconst (v := 0) hx hb dX1_copyFrom_58 (by decide) ?_
  refine lv_aload_n hx hb dX1_copyFrom_59 rfl (lv_at hl 0 rfl) ?_
  refine va_get (D := (dC, dI)) (ci := 1) (v := .ref a4) (C := RX1) (T := TX1) (N := 6) hx hb hts (fun w h => mc (inX1 w h)) hown hK hP 0 rfl rfl 3 (by decide) (hts _ (mc q_30)) (fun _ h9 => h9) rfl dX1_copyFrom_60 ?_
  refine lv_iconst (v := 0) hx hb dX1_copyFrom_63 (by decide) ?_
  refine lv_aload_n hx hb dX1_copyFrom_64 rfl (lv_at hl 0 rfl) ?_
  refine va_get (D := (dC, dI)) (ci := 1) (v := .ref a4) (C := RX1) (T := TX1) (N := 6) hx hb hts (fun w h => mc (inX1 w h)) hown hK hP 0 rfl rfl 3 (by decide) (hts _ (mc q_30)) (fun _ h9 => h9) rfl dX1_copyFrom_65 ?_
  refine va_alen (v := 16) hx hb hK hP 4 0 rfl rfl rfl dX1_copyFrom_68 ?_
  obtain ⟨hiahm_69, ahm_69, eahm_69, hf⟩ := acp_e hf
  refine rw_cpy (ws' := (wX1X1b cI a0 a1 a2 a3 a4 a5 a6 b0 b1 b2 b3 b4 b5 b6 akd_15 asz_33 alk_51 ahm_69 atg avl bkd bsz blk bhm btg bvl)) hx hb (hml.trans hl.1.symm) hown (hts _ (mc q_99)) (hts _ (mc q_101)) (hts _ (mc q_100)) (hts _ (mc q_6)) hK hP hD hS 11 4 0 rfl rfl rfl hiahm_69 eahm_69 rfl (Nat.le_of_ble_eq_true rfl) (Nat.le_of_ble_eq_true rfl) dX1_copyFrom_69 (fun H locs hP hD hS => ?_)
  refine lv_aload_n hx hb dX1_copyFrom_72 rfl (lv_at hl 1 rfl) ?_
  refine va_get (D := (dC, dI)) (ci := 1) (v := .ref b5) (C := RX1) (T := TX1) (N := 6) hx hb hts (fun w h => mc (inX1 w h)) hown hK hP 7 rfl rfl 4 (by decide) (hts _ (mc q_31)) (fun _ h9 => h9) rfl dX1_copyFrom_73 ?_
  refine lv_iconst (v := 0) hx hb dX1_copyFrom_76 (by decide) ?_
  refine lv_aload_n hx hb dX1_copyFrom_77 rfl (lv_at hl 0 rfl) ?_
  refine va_get (D := (dC, dI)) (ci := 1) (v := .ref a5) (C := RX1) (T := TX1) (N := 6) hx hb hts (fun w h => mc (inX1 w h)) hown hK hP 0 rfl rfl 4 (by decide) (hts _ (mc q_31)) (fun _ h9 => h9) rfl dX1_copyFrom_78 ?_
  refine lv_iconst (v := 0) hx hb dX1_copyFrom_81 (by decide) ?_
  refine lv_aload_n hx hb dX1_copyFrom_82 rfl (lv_at hl 0 rfl) ?_
  refine va_get (D := (dC, dI)) (ci := 1) (v := .ref a5) (C := RX1) (T := TX1) (N := 6) hx hb hts (fun w h => mc (inX1 w h)) hown hK hP 0 rfl rfl 4 (by decide) (hts _ (mc q_31)) (fun _ h9 => h9) rfl dX1_copyFrom_83 ?_
  refine va_alen (v := 512) hx hb hK hP 5 0 rfl rfl rfl dX1_copyFrom_86 ?_
  obtain ⟨hiatg_87, atg_87, eatg_87, hf⟩ := acp_e hf
  refine rw_cpy (ws' := (wX1X1b cI a0 a1 a2 a3 a4 a5 a6 b0 b1 b2 b3 b4 b5 b6 akd_15 asz_33 alk_51 ahm_69 atg_87 avl bkd bsz blk bhm btg bvl)) hx hb (hml.trans hl.1.symm) hown (hts _ (mc q_99)) (hts _ (mc q_101)) (hts _ (mc q_100)) (hts _ (mc q_6)) hK hP hD hS 12 5 0 rfl rfl rfl hiatg_87 eatg_87 rfl (Nat.le_of_ble_eq_true rfl) (Nat.le_of_ble_eq_true rfl) dX1_copyFrom_87 (fun H locs hP hD hS => ?_)
  refine lv_aload_n hx hb dX1_copyFrom_90 rfl (lv_at hl 1 rfl) ?_
  refine va_get (D := (dC, dI)) (ci := 1) (v := .ref b6) (C := RX1) (T := TX1) (N := 6) hx hb hts (fun w h => mc (inX1 w h)) hown hK hP 7 rfl rfl 5 (by decide) (hts _ (mc q_32)) (fun _ h9 => h9) rfl dX1_copyFrom_91 ?_
  refine lv_iconst (v := 0) hx hb dX1_copyFrom_94 (by decide) ?_
  refine lv_aload_n hx hb dX1_copyFrom_95 rfl (lv_at hl 0 rfl) ?_
  refine va_get (D := (dC, dI)) (ci := 1) (v := .ref a6) (C := RX1) (T := TX1) (N := 6) hx hb hts (fun w h => mc (inX1 w h)) hown hK hP 0 rfl rfl 5 (by decide) (hts _ (mc q_32)) (fun _ h9 => h9) rfl dX1_copyFrom_96 ?_
  refine lv_iconst (v := 0) hx hb dX1_copyFrom_99 (by decide) ?_
  refine lv_aload_n hx hb dX1_copyFrom_100 rfl (lv_at hl 0 rfl) ?_
  refine va_get (D := (dC, dI)) (ci := 1) (v := .ref a6) (C := RX1) (T := TX1) (N := 6) hx hb hts (fun w h => mc (inX1 w h)) hown hK hP 0 rfl rfl 5 (by decide) (hts _ (mc q_32)) (fun _ h9 => h9) rfl dX1_copyFrom_101 ?_
  refine va_alen (v := 128) hx hb hK hP 6 0 rfl rfl rfl dX1_copyFrom_104 ?_
  obtain ⟨hiavl_105, avl_105, eavl_105, hf⟩ := acp_e hf
  refine rw_cpy (ws' := (wX1X1b cI a0 a1 a2 a3 a4 a5 a6 b0 b1 b2 b3 b4 b5 b6 akd_15 asz_33 alk_51 ahm_69 atg_87 avl_105 bkd bsz blk bhm btg bvl)) hx hb (hml.trans hl.1.symm) hown (hts _ (mc q_99)) (hts _ (mc q_101)) (hts _ (mc q_100)) (hts _ (mc q_6)) hK hP hD hS 13 6 0 rfl rfl rfl hiavl_105 eavl_105 rfl (Nat.le_of_ble_eq_true rfl) (Nat.le_of_ble_eq_true rfl) dX1_copyFrom_105 (fun H locs hP hD hS => ?_)
  cases hf
  exact retV hx hb hr hlocks hP hS dX1_copyFrom_108
set_option maxHeartbeats 4000000 in
set_option maxRecDepth 100000 in
theorem cX0_clear_met (l : Launch) (dC : Nat → ClassId) (dI : Nat → Nat → Nat) (cI : ClassId) (g0 g1 : Nat) (gln : Int32) (grw : Nat → Int32) (gln_o : Int32) (hf : fX0_clear gln = some gln_o) : Met l yX0_clear wsX0_clear ({ frames := 0, cells := 0, slots := 0, locals := 0 } : Room) (pcW [.ref g0] (dC, dI) vwCl [(cI, .int)] (wX0 cI g0 g1 gln grw)) (qV (va_P (dC, dI) vwCl (wX0 cI g0 g1 gln_o grw)) (inA [g0, g1])) 0 0 (inA [g0, g1]) := by
  refine Met.ofW (cc := cX0_clear) (maxL := 1) (ret := none) (by decide) rfl ?_
  intro p e s m args below meth c s₁ B hml hv
  obtain ⟨rfl, hP, hK, hD0⟩ := hv
  have hx := B.exec
  have hb := B.bytes
  have hr := B.returns
  have hts := atoms_spec (ws := wsX0_clear) B.pre
  have hown : s.vm.findClass RX0 = some m.cls := findClass_of_methodNamed B.named
  have hlocks := B.notSynchronized
  have hD := my_self (as := [g0, g1]) hD0 rfl
  have hS : va_S (inA [g0, g1]) s.heap s.heap [] := va_S.rf
  have hl := lv_entry ([.ref g0]) (n := 1) (Nat.le_of_ble_eq_true rfl)
  rw [lg_entry_eq]
  generalize (lg_sl ([.ref g0]) ++ List.replicate (1 - (lg_sl ([.ref g0])).length) Slot.unset).toArray = ls at hl ⊢
  have hl : lv_has ls 1 [(0, .ref g0)] := hl
  unfold fX0_clear at hf
  refine lv_aload_n hx hb dX0_clear_0 rfl (lv_at hl 0 rfl) ?_
  refine lv_iconst (v := 0) hx hb dX0_clear_1 (by decide) ?_
  refine rw_put (D := (dC, dI)) (ci := 0) (v := .int 0) (ty := .int) (C := RX0) (T := TX0) (N := 2) (ws' := (wX0 cI g0 g1 0 grw)) hx hb hts (fun w h => mc (inX0 w h)) tyX0 tyX0_ok nmX0 hown hK hP hD hS 0 rfl rfl 1 (by decide) (hts _ (mc q_41)) (fun _ h9 => h9) rfl (by decide +kernel) rfl rfl (Nat.le_of_ble_eq_true rfl) rfl dX0_clear_2 (fun H locs hP hD hS => ?_)
  cases hf
  exact retV hx hb hr hlocks hP hS dX0_clear_5
set_option maxHeartbeats 4000000 in
set_option maxRecDepth 100000 in
theorem cX1_isFile_met (l : Launch) (dC : Nat → ClassId) (dI : Nat → Nat → Nat) (cI : ClassId) (a0 a1 a2 a3 a4 a5 a6 : Nat) (akd : Nat → Int32) (asz : Nat → Int32) (alk : Nat → Int32) (ahm : Nat → Int32) (atg : Nat → Int32) (avl : Nat → Int32) (x1 : Int32) (r : Int32) (hf : fX1_isFile x1 akd = some r) : Met l yX1_isFile wsX1_isFile ({ frames := 0, cells := 0, slots := 0, locals := 0 } : Room) (pcR [.ref a0, .int x1] (dC, dI) vwCl [(cI, .int)] (wX1 cI a0 a1 a2 a3 a4 a5 a6 akd asz alk ahm atg avl)) (qI r pT aN) 0 0 aN := by
  refine Met.ofW (cc := cX1_isFile) (maxL := 2) (ret := (some .boolean)) (by decide) rfl ?_
  intro p e s m args below meth c s₁ B hml hv
  obtain ⟨rfl, hP, hK⟩ := hv
  have hx := B.exec
  have hb := B.bytes
  have hr := B.returns
  have hts := atoms_spec (ws := wsX1_isFile) B.pre
  have hown : s.vm.findClass RX1 = some m.cls := findClass_of_methodNamed B.named
  have hlocks := B.notSynchronized
  have hS : va_S aN s.heap s.heap [] := va_S.rf
  have hl := lv_entry ([.ref a0, .int x1]) (n := 2) (Nat.le_of_ble_eq_true rfl)
  rw [lg_entry_eq]
  generalize (lg_sl ([.ref a0, .int x1]) ++ List.replicate (2 - (lg_sl ([.ref a0, .int x1])).length) Slot.unset).toArray = ls at hl ⊢
  have hl : lv_has ls 2 [(0, .ref a0), (1, .int x1)] := hl
  unfold fX1_isFile at hf
  refine lv_aload_n hx hb dX1_isFile_0 rfl (lv_at hl 0 rfl) ?_
  refine va_get (D := (dC, dI)) (ci := 1) (v := .ref a1) (C := RX1) (T := TX1) (N := 6) hx hb hts (fun w h => mc (inX1 w h)) hown hK hP 0 rfl rfl 0 (by decide) (hts _ (mc q_27)) (fun _ h9 => h9) rfl dX1_isFile_1 ?_
  refine lv_iload_n hx hb dX1_isFile_4 rfl (lv_at hl 1 rfl) ?_
  obtain ⟨hiv5, v5, ev5, hf⟩ := ard_e hf
  refine rw_ald hx hb hK hP 1 0 rfl rfl hiv5 ev5 dX1_isFile_5 ?_
  refine lv_iconst (v := 1) hx hb dX1_isFile_6 (by decide) ?_
  refine lv_icmp_ne (tgt := 14) hx hb dX1_isFile_7 (by decide) (fun c7 => ?_) (fun c7 => ?_)
  · have hf := it_f c7 hf
    refine lv_iconst (v := 0) hx hb dX1_isFile_14 (by decide) ?_
    cases hf
    exact retZ hx hb hr hlocks (by decide) trivial hS dX1_isFile_15
  · have hf := it_t c7 hf
    refine lv_iconst (v := 1) hx hb dX1_isFile_10 (by decide) ?_
    refine lv_goto (tgt := 15) hx hb dX1_isFile_11 (by decide) ?_
    cases hf
    exact retZ hx hb hr hlocks (by decide) trivial hS dX1_isFile_15
theorem gX1_blocks_40 : GoodIn wsX1_blocks (wsV RX1 40 RX1 yX1_isFile wsX1_isFile) := gIn (memV q_50 q_51 q_52 q_3 q_53)
set_option maxHeartbeats 4000000 in
set_option maxRecDepth 100000 in
theorem cX1_blocks_met (l : Launch) (dC : Nat → ClassId) (dI : Nat → Nat → Nat) (cI : ClassId) (a0 a1 a2 a3 a4 a5 a6 : Nat) (akd : Nat → Int32) (asz : Nat → Int32) (alk : Nat → Int32) (ahm : Nat → Int32) (atg : Nat → Int32) (avl : Nat → Int32) (x1 : Int32) (r : Int32) (hf : fX1_blocks x1 akd asz = some r) : Met l yX1_blocks wsX1_blocks ({ frames := 1, cells := 0, slots := 0, locals := 21 } : Room) (pcR [.ref a0, .int x1] (dC, dI) vwCl [(cI, .int)] (wX1 cI a0 a1 a2 a3 a4 a5 a6 akd asz alk ahm atg avl)) (qI r pT aN) 0 0 aN := by
  refine Met.ofW (cc := cX1_blocks) (maxL := 2) (ret := (some .int)) (by decide) rfl ?_
  intro p e s m args below meth c s₁ B hml hv
  obtain ⟨rfl, hP, hK⟩ := hv
  have hx := B.exec
  have hb := B.bytes
  have hr := B.returns
  have hts := atoms_spec (ws := wsX1_blocks) B.pre
  have hown : s.vm.findClass RX1 = some m.cls := findClass_of_methodNamed B.named
  have hlocks := B.notSynchronized
  have hS : va_S aN s.heap s.heap [] := va_S.rf
  have hl := lv_entry ([.ref a0, .int x1]) (n := 2) (Nat.le_of_ble_eq_true rfl)
  rw [lg_entry_eq]
  generalize (lg_sl ([.ref a0, .int x1]) ++ List.replicate (2 - (lg_sl ([.ref a0, .int x1])).length) Slot.unset).toArray = ls at hl ⊢
  have hl : lv_has ls 2 [(0, .ref a0), (1, .int x1)] := hl
  unfold fX1_blocks at hf
  refine lv_aload_n hx hb dX1_blocks_0 rfl (lv_at hl 0 rfl) ?_
  refine va_get (D := (dC, dI)) (ci := 1) (v := .ref a1) (C := RX1) (T := TX1) (N := 6) hx hb hts (fun w h => mc (inX1 w h)) hown hK hP 0 rfl rfl 0 (by decide) (hts _ (mc q_27)) (fun _ h9 => h9) rfl dX1_blocks_1 ?_
  refine lv_iload_n hx hb dX1_blocks_4 rfl (lv_at hl 1 rfl) ?_
  obtain ⟨hiv5, v5, ev5, hf⟩ := ard_e hf
  refine rw_ald hx hb hK hP 1 0 rfl rfl hiv5 ev5 dX1_blocks_5 ?_
  refine lv_if_ne (tgt := 11) hx hb dX1_blocks_6 (by decide) (fun c6 => ?_) (fun c6 => ?_)
  · have hf := it_f c6 hf
    refine lv_aload_n hx hb dX1_blocks_11 rfl (lv_at hl 0 rfl) ?_
    refine lv_iload_n hx hb dX1_blocks_12 rfl (lv_at hl 1 rfl) ?_
    obtain ⟨r13, hc13, hf⟩ := bn1_e hf
    refine callRi (va_runV (As := [.int x1]) (rest := []) ⟨hx, hb, hml, hown, hts⟩ (cX1_isFile_met l dC dI cI a0 a1 a2 a3 a4 a5 a6 akd asz alk ahm atg avl x1 r13 hc13) (cwV 1 hts gX1_blocks_40 rfl rfl rfl (by decide +kernel) ⟨Nat.le_of_ble_eq_true rfl, Nat.le_of_ble_eq_true rfl⟩) (preRV (ci := 1) (q0 := 0) hK (hP.sub (ws' := (wX1 cI a0 a1 a2 a3 a4 a5 a6 akd asz alk ahm atg avl)) [0, 1, 2, 3, 4, 5, 6] rfl) rfl rfl) rfl rfl hl.1 rfl (lv_room (Nat.le_of_ble_eq_true rfl)) dX1_blocks_13 ⟨Nat.le_of_ble_eq_true rfl, Nat.le_of_ble_eq_true rfl⟩) hS hP (fun H locs hP hS => ?_)
    refine lv_if_eq (tgt := 30) hx hb dX1_blocks_16 (by decide) (fun c16 => ?_) (fun c16 => ?_)
    · have hf := it_t c16 hf
      refine lv_iconst (v := 1) hx hb dX1_blocks_30 (by decide) ?_
      cases hf
      exact retI hx hb hr hlocks trivial hS dX1_blocks_31
    · have hf := it_f c16 hf
      refine lv_iconst (v := 1) hx hb dX1_blocks_19 (by decide) ?_
      refine lv_aload_n hx hb dX1_blocks_20 rfl (lv_at hl 0 rfl) ?_
      refine va_get (D := (dC, dI)) (ci := 1) (v := .ref a2) (C := RX1) (T := TX1) (N := 6) hx hb hts (fun w h => mc (inX1 w h)) hown hK hP 0 rfl rfl 1 (by decide) (hts _ (mc q_28)) (fun _ h9 => h9) rfl dX1_blocks_21 ?_
      refine lv_iload_n hx hb dX1_blocks_24 rfl (lv_at hl 1 rfl) ?_
      obtain ⟨hiv25, v25, ev25, hf⟩ := ard_e hf
      refine rw_ald hx hb hK hP 2 0 rfl rfl hiv25 ev25 dX1_blocks_25 ?_
      obtain ⟨v26, ev26, hf⟩ := slet_e hf
      refine lv_iadd hx hb dX1_blocks_26 ?_
      refine rw_nm ev26 ?_
      refine lv_goto (tgt := 31) hx hb dX1_blocks_27 (by decide) ?_
      cases hf
      exact retI hx hb hr hlocks trivial hS dX1_blocks_31
  · have hf := it_t c6 hf
    refine lv_iconst (v := 0) hx hb dX1_blocks_9 (by decide) ?_
    cases hf
    exact retI hx hb hr hlocks trivial hS dX1_blocks_10
theorem gX1_live_44 : GoodIn wsX1_live (wsV RX1 44 RX1 yX1_blocks wsX1_blocks) := gIn (memV q_46 q_47 q_48 q_3 q_49)
set_option maxHeartbeats 4000000 in
set_option maxRecDepth 100000 in
theorem wbX1_live_4 {p : Program} {l : Launch} {e : Env} {s : State} {m : MethodId} {args : Array Value} {below : List Frame} {meth : Method} {c : Code} {dC : Nat → ClassId} {dI : Nat → Nat → Nat} {cI : ClassId} (hx : p.tables.exec = Jvm.exec) (hb : c.code = cX1_live) (hml : c.maxLocals = 3) (hown : s.vm.findClass RX1 = some m.cls) (hts : ∀ w ∈ wsX1_live, w.before args s = true) (hr : meth.sig.returnType = (some .int)) (hlocks : meth.locks = false) (hK : va_K (dC, dI) vwCl [(cI, .int)] s) (a0 a1 a2 a3 a4 a5 a6 : Nat) (akd : Nat → Int32) (asz : Nat → Int32) (alk : Nat → Int32) (ahm : Nat → Int32) (atg : Nat → Int32) (avl : Nat → Int32) (r : Int32) : ∀ (n : Nat), ∀ (x1 : Int32) (x2 : Int32) (H : Heap) (locs : List Loc), va_P (dC, dI) vwCl (wX1 cI a0 a1 a2 a3 a4 a5 a6 akd asz alk ahm atg avl) H → va_S aN s.heap H locs → ∀ (ls : Array Slot), lv_has ls 3 [(0, .ref a0), (1, .int x1), (2, .int x2)] → fX1_live_b4 akd asz n x1 x2 = some r → W p l e ({ frames := 2, cells := 0, slots := 0, locals := 42 } : Room) s m args below meth c H locs 0 0 (MQ below (qI r pT aN) args s 0 0 aN) (F0 m 4 ls []) := by
  intro n
  induction n with
  | zero =>
    intro x1 x2 H locs hP hS ls hl hf
    cases hf
  | succ n ih =>
    intro x1 x2 H locs hP hS ls hl hf
    rw [fX1_live_b4] at hf
    refine lv_iload_n hx hb dX1_live_4 rfl (lv_at hl 2 rfl) ?_
    refine lv_bipush (v := 16) hx hb dX1_live_5 (by decide) ?_
    refine lv_icmp_ge (tgt := 24) hx hb dX1_live_7 (by decide) (fun c7 => ?_) (fun c7 => ?_)
    · have hf := it_t c7 hf
      refine lv_iload_n hx hb dX1_live_24 rfl (lv_at hl 1 rfl) ?_
      cases hf
      exact retI hx hb hr hlocks trivial hS dX1_live_25
    · have hf := it_f c7 hf
      refine lv_iload_n hx hb dX1_live_10 rfl (lv_at hl 1 rfl) ?_
      refine lv_aload_n hx hb dX1_live_11 rfl (lv_at hl 0 rfl) ?_
      refine lv_iload_n hx hb dX1_live_12 rfl (lv_at hl 2 rfl) ?_
      obtain ⟨r13, hc13, hf⟩ := bn1_e hf
      refine callRi (va_runV (As := [.int x2]) (rest := [.int x1]) ⟨hx, hb, hml, hown, hts⟩ (cX1_blocks_met l dC dI cI a0 a1 a2 a3 a4 a5 a6 akd asz alk ahm atg avl x2 r13 hc13) (cwV 1 hts gX1_live_44 rfl rfl rfl (by decide +kernel) ⟨Nat.le_of_ble_eq_true rfl, Nat.le_of_ble_eq_true rfl⟩) (preRV (ci := 1) (q0 := 0) hK (hP.sub (ws' := (wX1 cI a0 a1 a2 a3 a4 a5 a6 akd asz alk ahm atg avl)) [0, 1, 2, 3, 4, 5, 6] rfl) rfl rfl) rfl rfl hl.1 rfl (lv_room (Nat.le_of_ble_eq_true rfl)) dX1_live_13 ⟨Nat.le_of_ble_eq_true rfl, Nat.le_of_ble_eq_true rfl⟩) hS hP (fun H locs hP hS => ?_)
      obtain ⟨v16, ev16, hf⟩ := slet_e hf
      refine lv_iadd hx hb dX1_live_16 ?_
      refine rw_nm ev16 ?_
      refine lv_istore_n (lv' := [(1, .int v16), (0, .ref a0), (2, .int x2)]) hx hb dX1_live_17 rfl hl (by decide) rfl (fun ls hl => ?_)
      obtain ⟨v18, ev18, hf⟩ := slet_e hf
      refine lv_iinc (v := v18) (lv' := [(2, .int v18), (1, .int v16), (0, .ref a0)]) hx hb dX1_live_18 hl (k := 2) rfl (by rw [ev18]; rfl) (by decide) rfl (fun ls hl => ?_)
      refine lv_goto (tgt := 4) hx hb dX1_live_21 (by decide) ?_
      exact ih v16 v18 _ _ hP hS _ (lv_sub hl [2, 1, 0] rfl) hf
set_option maxHeartbeats 4000000 in
set_option maxRecDepth 100000 in
theorem cX1_live_met (l : Launch) (dC : Nat → ClassId) (dI : Nat → Nat → Nat) (cI : ClassId) (a0 a1 a2 a3 a4 a5 a6 : Nat) (akd : Nat → Int32) (asz : Nat → Int32) (alk : Nat → Int32) (ahm : Nat → Int32) (atg : Nat → Int32) (avl : Nat → Int32) (r : Int32) (hf : fX1_live akd asz = some r) : Met l yX1_live wsX1_live ({ frames := 2, cells := 0, slots := 0, locals := 42 } : Room) (pcR [.ref a0] (dC, dI) vwCl [(cI, .int)] (wX1 cI a0 a1 a2 a3 a4 a5 a6 akd asz alk ahm atg avl)) (qI r pT aN) 0 0 aN := by
  refine Met.ofW (cc := cX1_live) (maxL := 3) (ret := (some .int)) (by decide) rfl ?_
  intro p e s m args below meth c s₁ B hml hv
  obtain ⟨rfl, hP, hK⟩ := hv
  have hx := B.exec
  have hb := B.bytes
  have hr := B.returns
  have hts := atoms_spec (ws := wsX1_live) B.pre
  have hown : s.vm.findClass RX1 = some m.cls := findClass_of_methodNamed B.named
  have hlocks := B.notSynchronized
  have hS : va_S aN s.heap s.heap [] := va_S.rf
  have hl := lv_entry ([.ref a0]) (n := 3) (Nat.le_of_ble_eq_true rfl)
  rw [lg_entry_eq]
  generalize (lg_sl ([.ref a0]) ++ List.replicate (3 - (lg_sl ([.ref a0])).length) Slot.unset).toArray = ls at hl ⊢
  have hl : lv_has ls 3 [(0, .ref a0)] := hl
  unfold fX1_live at hf
  refine lv_iconst (v := 0) hx hb dX1_live_0 (by decide) ?_
  refine lv_istore_n (lv' := [(1, .int 0), (0, .ref a0)]) hx hb dX1_live_1 rfl hl (by decide) rfl (fun ls hl => ?_)
  refine lv_iconst (v := 0) hx hb dX1_live_2 (by decide) ?_
  refine lv_istore_n (lv' := [(2, .int 0), (1, .int 0), (0, .ref a0)]) hx hb dX1_live_3 rfl hl (by decide) rfl (fun ls hl => ?_)
  exact wbX1_live_4 hx hb hml hown hts hr hlocks hK a0 a1 a2 a3 a4 a5 a6 akd asz alk ahm atg avl r 2000 0 0 _ _ hP hS _ (lv_sub hl [2, 1, 0] rfl) hf
set_option maxHeartbeats 4000000 in
set_option maxRecDepth 100000 in
theorem cX0_append_met (l : Launch) (dC : Nat → ClassId) (dI : Nat → Nat → Nat) (cI : ClassId) (g0 g1 : Nat) (gln : Int32) (grw : Nat → Int32) (x1 : Int32) (x2 : Int32) (x3 : Int32) (x4 : Int32) (x5 : Int32) (gln_o : Int32) (grw_o : Nat → Int32) (hf : fX0_append x1 x2 x3 x4 x5 gln grw = some (gln_o, grw_o)) : Met l yX0_append wsX0_append ({ frames := 0, cells := 0, slots := 0, locals := 0 } : Room) (pcW [.ref g0, .int x1, .int x2, .int x3, .int x4, .int x5] (dC, dI) vwCl [(cI, .int)] (wX0 cI g0 g1 gln grw)) (qV (va_P (dC, dI) vwCl (wX0 cI g0 g1 gln_o grw_o)) (inA [g0, g1])) 0 0 (inA [g0, g1]) := by
  refine Met.ofW (cc := cX0_append) (maxL := 7) (ret := none) (by decide) rfl ?_
  intro p e s m args below meth c s₁ B hml hv
  obtain ⟨rfl, hP, hK, hD0⟩ := hv
  have hx := B.exec
  have hb := B.bytes
  have hr := B.returns
  have hts := atoms_spec (ws := wsX0_append) B.pre
  have hown : s.vm.findClass RX0 = some m.cls := findClass_of_methodNamed B.named
  have hlocks := B.notSynchronized
  have hD := my_self (as := [g0, g1]) hD0 rfl
  have hS : va_S (inA [g0, g1]) s.heap s.heap [] := va_S.rf
  have hl := lv_entry ([.ref g0, .int x1, .int x2, .int x3, .int x4, .int x5]) (n := 7) (Nat.le_of_ble_eq_true rfl)
  rw [lg_entry_eq]
  generalize (lg_sl ([.ref g0, .int x1, .int x2, .int x3, .int x4, .int x5]) ++ List.replicate (7 - (lg_sl ([.ref g0, .int x1, .int x2, .int x3, .int x4, .int x5])).length) Slot.unset).toArray = ls at hl ⊢
  have hl : lv_has ls 7 [(0, .ref g0), (1, .int x1), (2, .int x2), (3, .int x3), (4, .int x4), (5, .int x5)] := hl
  unfold fX0_append at hf
  refine lv_aload_n hx hb dX0_append_0 rfl (lv_at hl 0 rfl) ?_
  refine va_get (D := (dC, dI)) (ci := 0) (v := .int gln) (C := RX0) (T := TX0) (N := 2) hx hb hts (fun w h => mc (inX0 w h)) hown hK hP 0 rfl rfl 1 (by decide) (hts _ (mc q_41)) (fun _ h9 => h9) rfl dX0_append_1 ?_
  refine lv_bipush (v := 48) hx hb dX0_append_4 (by decide) ?_
  refine lv_icmp_lt (tgt := 10) hx hb dX0_append_6 (by decide) (fun c6 => ?_) (fun c6 => ?_)
  · have hf := it_t c6 hf
    refine lv_aload_n hx hb dX0_append_10 rfl (lv_at hl 0 rfl) ?_
    refine va_get (D := (dC, dI)) (ci := 0) (v := .int gln) (C := RX0) (T := TX0) (N := 2) hx hb hts (fun w h => mc (inX0 w h)) hown hK hP 0 rfl rfl 1 (by decide) (hts _ (mc q_41)) (fun _ h9 => h9) rfl dX0_append_11 ?_
    refine lv_iconst (v := 5) hx hb dX0_append_14 (by decide) ?_
    obtain ⟨v15, ev15, hf⟩ := slet_e hf
    refine lv_imul hx hb dX0_append_15 ?_
    refine rw_nm ev15 ?_
    refine lv_istore (lv' := [(6, .int v15), (0, .ref g0), (1, .int x1), (2, .int x2), (3, .int x3), (4, .int x4), (5, .int x5)]) hx hb dX0_append_16 hl (by decide) rfl (fun ls hl => ?_)
    refine lv_aload_n hx hb dX0_append_18 rfl (lv_at hl 1 rfl) ?_
    refine va_get (D := (dC, dI)) (ci := 0) (v := .ref g1) (C := RX0) (T := TX0) (N := 2) hx hb hts (fun w h => mc (inX0 w h)) hown hK hP 0 rfl rfl 0 (by decide) (hts _ (mc q_40)) (fun _ h9 => h9) rfl dX0_append_19 ?_
    refine lv_iload hx hb dX0_append_22 (lv_at hl 0 rfl) ?_
    refine lv_iload_n hx hb dX0_append_24 rfl (lv_at hl 2 rfl) ?_
    obtain ⟨higrw_25, grw_25, egrw_25, hf⟩ := awr_e hf
    refine rw_ast (ws' := (wX0 cI g0 g1 gln grw_25)) hx hb hK hP hD hS 1 0 rfl rfl higrw_25 egrw_25 rfl dX0_append_25 (fun H locs hP hD hS => ?_)
    refine lv_aload_n hx hb dX0_append_26 rfl (lv_at hl 1 rfl) ?_
    refine va_get (D := (dC, dI)) (ci := 0) (v := .ref g1) (C := RX0) (T := TX0) (N := 2) hx hb hts (fun w h => mc (inX0 w h)) hown hK hP 0 rfl rfl 0 (by decide) (hts _ (mc q_40)) (fun _ h9 => h9) rfl dX0_append_27 ?_
    refine lv_iload hx hb dX0_append_30 (lv_at hl 0 rfl) ?_
    refine lv_iconst (v := 1) hx hb dX0_append_32 (by decide) ?_
    obtain ⟨v33, ev33, hf⟩ := slet_e hf
    refine lv_iadd hx hb dX0_append_33 ?_
    refine rw_nm ev33 ?_
    refine lv_iload_n hx hb dX0_append_34 rfl (lv_at hl 3 rfl) ?_
    obtain ⟨higrw_35, grw_35, egrw_35, hf⟩ := awr_e hf
    refine rw_ast (ws' := (wX0 cI g0 g1 gln grw_35)) hx hb hK hP hD hS 1 0 rfl rfl higrw_35 egrw_35 rfl dX0_append_35 (fun H locs hP hD hS => ?_)
    refine lv_aload_n hx hb dX0_append_36 rfl (lv_at hl 1 rfl) ?_
    refine va_get (D := (dC, dI)) (ci := 0) (v := .ref g1) (C := RX0) (T := TX0) (N := 2) hx hb hts (fun w h => mc (inX0 w h)) hown hK hP 0 rfl rfl 0 (by decide) (hts _ (mc q_40)) (fun _ h9 => h9) rfl dX0_append_37 ?_
    refine lv_iload hx hb dX0_append_40 (lv_at hl 0 rfl) ?_
    refine lv_iconst (v := 2) hx hb dX0_append_42 (by decide) ?_
    obtain ⟨v43, ev43, hf⟩ := slet_e hf
    refine lv_iadd hx hb dX0_append_43 ?_
    refine rw_nm ev43 ?_
    refine lv_iload_n hx hb dX0_append_44 rfl (lv_at hl 4 rfl) ?_
    obtain ⟨higrw_45, grw_45, egrw_45, hf⟩ := awr_e hf
    refine rw_ast (ws' := (wX0 cI g0 g1 gln grw_45)) hx hb hK hP hD hS 1 0 rfl rfl higrw_45 egrw_45 rfl dX0_append_45 (fun H locs hP hD hS => ?_)
    refine lv_aload_n hx hb dX0_append_46 rfl (lv_at hl 1 rfl) ?_
    refine va_get (D := (dC, dI)) (ci := 0) (v := .ref g1) (C := RX0) (T := TX0) (N := 2) hx hb hts (fun w h => mc (inX0 w h)) hown hK hP 0 rfl rfl 0 (by decide) (hts _ (mc q_40)) (fun _ h9 => h9) rfl dX0_append_47 ?_
    refine lv_iload hx hb dX0_append_50 (lv_at hl 0 rfl) ?_
    refine lv_iconst (v := 3) hx hb dX0_append_52 (by decide) ?_
    obtain ⟨v53, ev53, hf⟩ := slet_e hf
    refine lv_iadd hx hb dX0_append_53 ?_
    refine rw_nm ev53 ?_
    refine lv_iload hx hb dX0_append_54 (lv_at hl 5 rfl) ?_
    obtain ⟨higrw_56, grw_56, egrw_56, hf⟩ := awr_e hf
    refine rw_ast (ws' := (wX0 cI g0 g1 gln grw_56)) hx hb hK hP hD hS 1 0 rfl rfl higrw_56 egrw_56 rfl dX0_append_56 (fun H locs hP hD hS => ?_)
    refine lv_aload_n hx hb dX0_append_57 rfl (lv_at hl 1 rfl) ?_
    refine va_get (D := (dC, dI)) (ci := 0) (v := .ref g1) (C := RX0) (T := TX0) (N := 2) hx hb hts (fun w h => mc (inX0 w h)) hown hK hP 0 rfl rfl 0 (by decide) (hts _ (mc q_40)) (fun _ h9 => h9) rfl dX0_append_58 ?_
    refine lv_iload hx hb dX0_append_61 (lv_at hl 0 rfl) ?_
    refine lv_iconst (v := 4) hx hb dX0_append_63 (by decide) ?_
    obtain ⟨v64, ev64, hf⟩ := slet_e hf
    refine lv_iadd hx hb dX0_append_64 ?_
    refine rw_nm ev64 ?_
    refine lv_iload hx hb dX0_append_65 (lv_at hl 6 rfl) ?_
    obtain ⟨higrw_67, grw_67, egrw_67, hf⟩ := awr_e hf
    refine rw_ast (ws' := (wX0 cI g0 g1 gln grw_67)) hx hb hK hP hD hS 1 0 rfl rfl higrw_67 egrw_67 rfl dX0_append_67 (fun H locs hP hD hS => ?_)
    refine lv_aload_n hx hb dX0_append_68 rfl (lv_at hl 1 rfl) ?_
    refine lv_dup hx hb dX0_append_69 rfl ?_
    refine va_get (D := (dC, dI)) (ci := 0) (v := .int gln) (C := RX0) (T := TX0) (N := 2) hx hb hts (fun w h => mc (inX0 w h)) hown hK hP 0 rfl rfl 1 (by decide) (hts _ (mc q_41)) (fun _ h9 => h9) rfl dX0_append_70 ?_
    refine lv_iconst (v := 1) hx hb dX0_append_73 (by decide) ?_
    obtain ⟨v74, ev74, hf⟩ := slet_e hf
    refine lv_iadd hx hb dX0_append_74 ?_
    refine rw_nm ev74 ?_
    refine rw_put (D := (dC, dI)) (ci := 0) (v := .int v74) (ty := .int) (C := RX0) (T := TX0) (N := 2) (ws' := (wX0 cI g0 g1 v74 grw_67)) hx hb hts (fun w h => mc (inX0 w h)) tyX0 tyX0_ok nmX0 hown hK hP hD hS 0 rfl rfl 1 (by decide) (hts _ (mc q_41)) (fun _ h9 => h9) rfl (by decide +kernel) rfl rfl (Nat.le_of_ble_eq_true rfl) rfl dX0_append_75 (fun H locs hP hD hS => ?_)
    cases hf
    exact retV hx hb hr hlocks hP hS dX0_append_78
  · have hf := it_f c6 hf
    cases hf
    exact retV hx hb hr hlocks hP hS dX0_append_9
set_option maxHeartbeats 4000000 in
set_option maxRecDepth 100000 in
theorem cX0_length_met (l : Launch) (dC : Nat → ClassId) (dI : Nat → Nat → Nat) (cI : ClassId) (g0 g1 : Nat) (gln : Int32) (grw : Nat → Int32) (r : Int32) (hf : fX0_length gln = some r) : Met l yX0_length wsX0_length ({ frames := 0, cells := 0, slots := 0, locals := 0 } : Room) (pcR [.ref g0] (dC, dI) vwCl [(cI, .int)] (wX0 cI g0 g1 gln grw)) (qI r pT aN) 0 0 aN := by
  refine Met.ofW (cc := cX0_length) (maxL := 1) (ret := (some .int)) (by decide) rfl ?_
  intro p e s m args below meth c s₁ B hml hv
  obtain ⟨rfl, hP, hK⟩ := hv
  have hx := B.exec
  have hb := B.bytes
  have hr := B.returns
  have hts := atoms_spec (ws := wsX0_length) B.pre
  have hown : s.vm.findClass RX0 = some m.cls := findClass_of_methodNamed B.named
  have hlocks := B.notSynchronized
  have hS : va_S aN s.heap s.heap [] := va_S.rf
  have hl := lv_entry ([.ref g0]) (n := 1) (Nat.le_of_ble_eq_true rfl)
  rw [lg_entry_eq]
  generalize (lg_sl ([.ref g0]) ++ List.replicate (1 - (lg_sl ([.ref g0])).length) Slot.unset).toArray = ls at hl ⊢
  have hl : lv_has ls 1 [(0, .ref g0)] := hl
  unfold fX0_length at hf
  refine lv_aload_n hx hb dX0_length_0 rfl (lv_at hl 0 rfl) ?_
  refine va_get (D := (dC, dI)) (ci := 0) (v := .int gln) (C := RX0) (T := TX0) (N := 2) hx hb hts (fun w h => mc (inX0 w h)) hown hK hP 0 rfl rfl 1 (by decide) (hts _ (mc q_41)) (fun _ h9 => h9) rfl dX0_length_1 ?_
  cases hf
  exact retI hx hb hr hlocks trivial hS dX0_length_4
set_option maxHeartbeats 4000000 in
set_option maxRecDepth 100000 in
theorem cX1_addEntry_met (l : Launch) (dC : Nat → ClassId) (dI : Nat → Nat → Nat) (cI : ClassId) (a0 a1 a2 a3 a4 a5 a6 : Nat) (akd : Nat → Int32) (asz : Nat → Int32) (alk : Nat → Int32) (ahm : Nat → Int32) (atg : Nat → Int32) (avl : Nat → Int32) (x1 : Int32) (x2 : Int32) (x3 : Int32) (asz_o : Nat → Int32) (alk_o : Nat → Int32) (ahm_o : Nat → Int32) (atg_o : Nat → Int32) (hf : fX1_addEntry x1 x2 x3 asz alk ahm atg = some (asz_o, alk_o, ahm_o, atg_o)) : Met l yX1_addEntry wsX1_addEntry ({ frames := 0, cells := 0, slots := 0, locals := 0 } : Room) (pcW [.ref a0, .int x1, .int x2, .int x3] (dC, dI) vwCl [(cI, .int)] (wX1 cI a0 a1 a2 a3 a4 a5 a6 akd asz alk ahm atg avl)) (qV (va_P (dC, dI) vwCl (wX1 cI a0 a1 a2 a3 a4 a5 a6 akd asz_o alk_o ahm_o atg_o avl)) (inA [a0, a1, a2, a3, a4, a5, a6])) 0 0 (inA [a0, a1, a2, a3, a4, a5, a6]) := by
  refine Met.ofW (cc := cX1_addEntry) (maxL := 4) (ret := none) (by decide) rfl ?_
  intro p e s m args below meth c s₁ B hml hv
  obtain ⟨rfl, hP, hK, hD0⟩ := hv
  have hx := B.exec
  have hb := B.bytes
  have hr := B.returns
  have hts := atoms_spec (ws := wsX1_addEntry) B.pre
  have hown : s.vm.findClass RX1 = some m.cls := findClass_of_methodNamed B.named
  have hlocks := B.notSynchronized
  have hD := my_self (as := [a0, a1, a2, a3, a4, a5, a6]) hD0 rfl
  have hS : va_S (inA [a0, a1, a2, a3, a4, a5, a6]) s.heap s.heap [] := va_S.rf
  have hl := lv_entry ([.ref a0, .int x1, .int x2, .int x3]) (n := 4) (Nat.le_of_ble_eq_true rfl)
  rw [lg_entry_eq]
  generalize (lg_sl ([.ref a0, .int x1, .int x2, .int x3]) ++ List.replicate (4 - (lg_sl ([.ref a0, .int x1, .int x2, .int x3])).length) Slot.unset).toArray = ls at hl ⊢
  have hl : lv_has ls 4 [(0, .ref a0), (1, .int x1), (2, .int x2), (3, .int x3)] := hl
  unfold fX1_addEntry at hf
  refine lv_aload_n hx hb dX1_addEntry_0 rfl (lv_at hl 0 rfl) ?_
  refine va_get (D := (dC, dI)) (ci := 1) (v := .ref a5) (C := RX1) (T := TX1) (N := 6) hx hb hts (fun w h => mc (inX1 w h)) hown hK hP 0 rfl rfl 4 (by decide) (hts _ (mc q_31)) (fun _ h9 => h9) rfl dX1_addEntry_1 ?_
  refine lv_iload_n hx hb dX1_addEntry_4 rfl (lv_at hl 1 rfl) ?_
  refine lv_bipush (v := 32) hx hb dX1_addEntry_5 (by decide) ?_
  obtain ⟨v7, ev7, hf⟩ := slet_e hf
  refine lv_imul hx hb dX1_addEntry_7 ?_
  refine rw_nm ev7 ?_
  refine lv_iload_n hx hb dX1_addEntry_8 rfl (lv_at hl 2 rfl) ?_
  obtain ⟨v9, ev9, hf⟩ := slet_e hf
  refine lv_iadd hx hb dX1_addEntry_9 ?_
  refine rw_nm ev9 ?_
  refine lv_iload_n hx hb dX1_addEntry_10 rfl (lv_at hl 3 rfl) ?_
  obtain ⟨hiatg_11, atg_11, eatg_11, hf⟩ := awr_e hf
  refine rw_ast (ws' := (wX1 cI a0 a1 a2 a3 a4 a5 a6 akd asz alk ahm atg_11 avl)) hx hb hK hP hD hS 5 0 rfl rfl hiatg_11 eatg_11 rfl dX1_addEntry_11 (fun H locs hP hD hS => ?_)
  refine lv_aload_n hx hb dX1_addEntry_12 rfl (lv_at hl 0 rfl) ?_
  refine va_get (D := (dC, dI)) (ci := 1) (v := .ref a2) (C := RX1) (T := TX1) (N := 6) hx hb hts (fun w h => mc (inX1 w h)) hown hK hP 0 rfl rfl 1 (by decide) (hts _ (mc q_28)) (fun _ h9 => h9) rfl dX1_addEntry_13 ?_
  refine lv_iload_n hx hb dX1_addEntry_16 rfl (lv_at hl 1 rfl) ?_
  refine lv_dup2_11 hx hb dX1_addEntry_17 rfl rfl ?_
  obtain ⟨hiv18, v18, ev18, hf⟩ := ard_e hf
  refine rw_ald hx hb hK hP 2 0 rfl rfl hiv18 ev18 dX1_addEntry_18 ?_
  refine lv_iconst (v := 1) hx hb dX1_addEntry_19 (by decide) ?_
  obtain ⟨v20, ev20, hf⟩ := slet_e hf
  refine lv_iadd hx hb dX1_addEntry_20 ?_
  refine rw_nm ev20 ?_
  obtain ⟨hiasz_21, asz_21, easz_21, hf⟩ := awr_e hf
  refine rw_ast (ws' := (wX1 cI a0 a1 a2 a3 a4 a5 a6 akd asz_21 alk ahm atg_11 avl)) hx hb hK hP hD hS 2 0 rfl rfl hiasz_21 easz_21 rfl dX1_addEntry_21 (fun H locs hP hD hS => ?_)
  refine lv_aload_n hx hb dX1_addEntry_22 rfl (lv_at hl 0 rfl) ?_
  refine va_get (D := (dC, dI)) (ci := 1) (v := .ref a3) (C := RX1) (T := TX1) (N := 6) hx hb hts (fun w h => mc (inX1 w h)) hown hK hP 0 rfl rfl 2 (by decide) (hts _ (mc q_29)) (fun _ h9 => h9) rfl dX1_addEntry_23 ?_
  refine lv_iload_n hx hb dX1_addEntry_26 rfl (lv_at hl 3 rfl) ?_
  refine lv_dup2_11 hx hb dX1_addEntry_27 rfl rfl ?_
  obtain ⟨hiv28, v28, ev28, hf⟩ := ard_e hf
  refine rw_ald hx hb hK hP 3 0 rfl rfl hiv28 ev28 dX1_addEntry_28 ?_
  refine lv_iconst (v := 1) hx hb dX1_addEntry_29 (by decide) ?_
  obtain ⟨v30, ev30, hf⟩ := slet_e hf
  refine lv_iadd hx hb dX1_addEntry_30 ?_
  refine rw_nm ev30 ?_
  obtain ⟨hialk_31, alk_31, ealk_31, hf⟩ := awr_e hf
  refine rw_ast (ws' := (wX1 cI a0 a1 a2 a3 a4 a5 a6 akd asz_21 alk_31 ahm atg_11 avl)) hx hb hK hP hD hS 3 0 rfl rfl hialk_31 ealk_31 rfl dX1_addEntry_31 (fun H locs hP hD hS => ?_)
  refine lv_aload_n hx hb dX1_addEntry_32 rfl (lv_at hl 0 rfl) ?_
  refine va_get (D := (dC, dI)) (ci := 1) (v := .ref a4) (C := RX1) (T := TX1) (N := 6) hx hb hts (fun w h => mc (inX1 w h)) hown hK hP 0 rfl rfl 3 (by decide) (hts _ (mc q_30)) (fun _ h9 => h9) rfl dX1_addEntry_33 ?_
  refine lv_iload_n hx hb dX1_addEntry_36 rfl (lv_at hl 3 rfl) ?_
  refine lv_iload_n hx hb dX1_addEntry_37 rfl (lv_at hl 1 rfl) ?_
  obtain ⟨hiahm_38, ahm_38, eahm_38, hf⟩ := awr_e hf
  refine rw_ast (ws' := (wX1 cI a0 a1 a2 a3 a4 a5 a6 akd asz_21 alk_31 ahm_38 atg_11 avl)) hx hb hK hP hD hS 4 0 rfl rfl hiahm_38 eahm_38 rfl dX1_addEntry_38 (fun H locs hP hD hS => ?_)
  cases hf
  exact retV hx hb hr hlocks hP hS dX1_addEntry_39
theorem gX1_addNode_48 : GoodIn wsX1_addNode (wsV RX1 48 RX1 yX1_leastFreeNode wsX1_leastFreeNode) := gIn (memV q_128 q_79 q_80 q_3 q_81)
theorem gX1_addNode_52 : GoodIn wsX1_addNode (wsV RX1 52 RX1 yX1_addEntry wsX1_addEntry) := gIn (memV q_129 q_130 q_131 q_3 q_132)
set_option maxHeartbeats 4000000 in
set_option maxRecDepth 100000 in
theorem cX1_addNode_met (l : Launch) (dC : Nat → ClassId) (dI : Nat → Nat → Nat) (cI : ClassId) (a0 a1 a2 a3 a4 a5 a6 : Nat) (akd : Nat → Int32) (asz : Nat → Int32) (alk : Nat → Int32) (ahm : Nat → Int32) (atg : Nat → Int32) (avl : Nat → Int32) (x1 : Int32) (x2 : Int32) (x3 : Int32) (akd_o : Nat → Int32) (asz_o : Nat → Int32) (alk_o : Nat → Int32) (ahm_o : Nat → Int32) (atg_o : Nat → Int32) (hf : fX1_addNode x1 x2 x3 akd asz alk ahm atg = some (akd_o, asz_o, alk_o, ahm_o, atg_o)) : Met l yX1_addNode wsX1_addNode ({ frames := 1, cells := 0, slots := 0, locals := 23 } : Room) (pcW [.ref a0, .int x1, .int x2, .int x3] (dC, dI) vwCl [(cI, .int)] (wX1 cI a0 a1 a2 a3 a4 a5 a6 akd asz alk ahm atg avl)) (qV (va_P (dC, dI) vwCl (wX1 cI a0 a1 a2 a3 a4 a5 a6 akd_o asz_o alk_o ahm_o atg_o avl)) (inA [a0, a1, a2, a3, a4, a5, a6])) 0 0 (inA [a0, a1, a2, a3, a4, a5, a6]) := by
  refine Met.ofW (cc := cX1_addNode) (maxL := 5) (ret := none) (by decide) rfl ?_
  intro p e s m args below meth c s₁ B hml hv
  obtain ⟨rfl, hP, hK, hD0⟩ := hv
  have hx := B.exec
  have hb := B.bytes
  have hr := B.returns
  have hts := atoms_spec (ws := wsX1_addNode) B.pre
  have hown : s.vm.findClass RX1 = some m.cls := findClass_of_methodNamed B.named
  have hlocks := B.notSynchronized
  have hD := my_self (as := [a0, a1, a2, a3, a4, a5, a6]) hD0 rfl
  have hS : va_S (inA [a0, a1, a2, a3, a4, a5, a6]) s.heap s.heap [] := va_S.rf
  have hl := lv_entry ([.ref a0, .int x1, .int x2, .int x3]) (n := 5) (Nat.le_of_ble_eq_true rfl)
  rw [lg_entry_eq]
  generalize (lg_sl ([.ref a0, .int x1, .int x2, .int x3]) ++ List.replicate (5 - (lg_sl ([.ref a0, .int x1, .int x2, .int x3])).length) Slot.unset).toArray = ls at hl ⊢
  have hl : lv_has ls 5 [(0, .ref a0), (1, .int x1), (2, .int x2), (3, .int x3)] := hl
  unfold fX1_addNode at hf
  refine lv_aload_n hx hb dX1_addNode_0 rfl (lv_at hl 0 rfl) ?_
  obtain ⟨r1, hc1, hf⟩ := bn1_e hf
  refine callRi (va_runV (As := []) (rest := []) ⟨hx, hb, hml, hown, hts⟩ (cX1_leastFreeNode_met l dC dI cI a0 a1 a2 a3 a4 a5 a6 akd asz alk ahm atg avl r1 hc1) (cwV 0 hts gX1_addNode_48 rfl rfl rfl (by decide +kernel) ⟨Nat.le_of_ble_eq_true rfl, Nat.le_of_ble_eq_true rfl⟩) (preRV (ci := 1) (q0 := 0) hK (hP.sub (ws' := (wX1 cI a0 a1 a2 a3 a4 a5 a6 akd asz alk ahm atg avl)) [0, 1, 2, 3, 4, 5, 6] rfl) rfl rfl) rfl rfl hl.1 rfl (lv_room (Nat.le_of_ble_eq_true rfl)) dX1_addNode_1 ⟨Nat.le_of_ble_eq_true rfl, Nat.le_of_ble_eq_true rfl⟩) hS hP (fun H locs hP hS => ?_)
  refine lv_istore (lv' := [(4, .int r1), (0, .ref a0), (1, .int x1), (2, .int x2), (3, .int x3)]) hx hb dX1_addNode_4 hl (by decide) rfl (fun ls hl => ?_)
  refine lv_aload_n hx hb dX1_addNode_6 rfl (lv_at hl 1 rfl) ?_
  refine va_get (D := (dC, dI)) (ci := 1) (v := .ref a1) (C := RX1) (T := TX1) (N := 6) hx hb hts (fun w h => mc (inX1 w h)) hown hK hP 0 rfl rfl 0 (by decide) (hts _ (mc q_27)) (fun _ h9 => h9) rfl dX1_addNode_7 ?_
  refine lv_iload hx hb dX1_addNode_10 (lv_at hl 0 rfl) ?_
  refine lv_iload_n hx hb dX1_addNode_12 rfl (lv_at hl 4 rfl) ?_
  obtain ⟨hiakd_13, akd_13, eakd_13, hf⟩ := awr_e hf
  refine rw_ast (ws' := (wX1 cI a0 a1 a2 a3 a4 a5 a6 akd_13 asz alk ahm atg avl)) hx hb hK hP hD hS 1 0 rfl rfl hiakd_13 eakd_13 rfl dX1_addNode_13 (fun H locs hP hD hS => ?_)
  refine lv_aload_n hx hb dX1_addNode_14 rfl (lv_at hl 1 rfl) ?_
  refine lv_iload_n hx hb dX1_addNode_15 rfl (lv_at hl 2 rfl) ?_
  refine lv_iload_n hx hb dX1_addNode_16 rfl (lv_at hl 3 rfl) ?_
  refine lv_iload hx hb dX1_addNode_17 (lv_at hl 0 rfl) ?_
  obtain ⟨asz_19, alk_19, ahm_19, atg_19, hc19, hf⟩ := bn4_e hf
  refine callWv (wc := (wX1 cI a0 a1 a2 a3 a4 a5 a6 akd_13 asz alk ahm atg avl)) (w1 := (wX1 cI a0 a1 a2 a3 a4 a5 a6 akd_13 asz_19 alk_19 ahm_19 atg_19 avl)) (ws' := (wX1 cI a0 a1 a2 a3 a4 a5 a6 akd_13 asz_19 alk_19 ahm_19 atg_19 avl)) (va_runV (As := [.int x1, .int x2, .int r1]) (rest := []) ⟨hx, hb, hml, hown, hts⟩ (cX1_addEntry_met l dC dI cI a0 a1 a2 a3 a4 a5 a6 akd_13 asz alk ahm atg avl x1 x2 r1 asz_19 alk_19 ahm_19 atg_19 hc19) (cwV 3 hts gX1_addNode_52 rfl rfl rfl (by decide +kernel) ⟨Nat.le_of_ble_eq_true rfl, Nat.le_of_ble_eq_true rfl⟩) (preWV (ci := 1) (q0 := 0) hK (hP.sub (ws' := (wX1 cI a0 a1 a2 a3 a4 a5 a6 akd_13 asz alk ahm atg avl)) [0, 1, 2, 3, 4, 5, 6] rfl) (hD.sub (ws' := (wX1 cI a0 a1 a2 a3 a4 a5 a6 akd_13 asz alk ahm atg avl)) [0, 1, 2, 3, 4, 5, 6] (by decide) rfl) rfl rfl) rfl rfl hl.1 rfl (lv_room (Nat.le_of_ble_eq_true rfl)) dX1_addNode_19 ⟨Nat.le_of_ble_eq_true rfl, Nat.le_of_ble_eq_true rfl⟩) hS hP hD [0, 1, 2, 3, 4, 5, 6] rfl rfl rfl rfl rfl (fun H locs hP hD hS => ?_)
  cases hf
  exact retV hx hb hr hlocks hP hS dX1_addNode_22
theorem gX1_takeEntry_36 : GoodIn wsX1_takeEntry (wsV RX1 36 RX1 yX1_target wsX1_target) := gIn (memV q_141 q_75 q_76 q_3 q_77)
set_option maxHeartbeats 4000000 in
set_option maxRecDepth 100000 in
theorem cX1_takeEntry_met (l : Launch) (dC : Nat → ClassId) (dI : Nat → Nat → Nat) (cI : ClassId) (a0 a1 a2 a3 a4 a5 a6 : Nat) (akd : Nat → Int32) (asz : Nat → Int32) (alk : Nat → Int32) (ahm : Nat → Int32) (atg : Nat → Int32) (avl : Nat → Int32) (x1 : Int32) (x2 : Int32) (r : Int32) (asz_o : Nat → Int32) (alk_o : Nat → Int32) (atg_o : Nat → Int32) (hf : fX1_takeEntry x1 x2 asz alk atg = some (r, asz_o, alk_o, atg_o)) : Met l yX1_takeEntry wsX1_takeEntry ({ frames := 1, cells := 0, slots := 0, locals := 22 } : Room) (pcW [.ref a0, .int x1, .int x2] (dC, dI) vwCl [(cI, .int)] (wX1 cI a0 a1 a2 a3 a4 a5 a6 akd asz alk ahm atg avl)) (qI r (va_P (dC, dI) vwCl (wX1 cI a0 a1 a2 a3 a4 a5 a6 akd asz_o alk_o ahm atg_o avl)) (inA [a0, a1, a2, a3, a4, a5, a6])) 0 0 (inA [a0, a1, a2, a3, a4, a5, a6]) := by
  refine Met.ofW (cc := cX1_takeEntry) (maxL := 4) (ret := (some .int)) (by decide) rfl ?_
  intro p e s m args below meth c s₁ B hml hv
  obtain ⟨rfl, hP, hK, hD0⟩ := hv
  have hx := B.exec
  have hb := B.bytes
  have hr := B.returns
  have hts := atoms_spec (ws := wsX1_takeEntry) B.pre
  have hown : s.vm.findClass RX1 = some m.cls := findClass_of_methodNamed B.named
  have hlocks := B.notSynchronized
  have hD := my_self (as := [a0, a1, a2, a3, a4, a5, a6]) hD0 rfl
  have hS : va_S (inA [a0, a1, a2, a3, a4, a5, a6]) s.heap s.heap [] := va_S.rf
  have hl := lv_entry ([.ref a0, .int x1, .int x2]) (n := 4) (Nat.le_of_ble_eq_true rfl)
  rw [lg_entry_eq]
  generalize (lg_sl ([.ref a0, .int x1, .int x2]) ++ List.replicate (4 - (lg_sl ([.ref a0, .int x1, .int x2])).length) Slot.unset).toArray = ls at hl ⊢
  have hl : lv_has ls 4 [(0, .ref a0), (1, .int x1), (2, .int x2)] := hl
  unfold fX1_takeEntry at hf
  refine lv_aload_n hx hb dX1_takeEntry_0 rfl (lv_at hl 0 rfl) ?_
  refine lv_iload_n hx hb dX1_takeEntry_1 rfl (lv_at hl 1 rfl) ?_
  refine lv_iload_n hx hb dX1_takeEntry_2 rfl (lv_at hl 2 rfl) ?_
  obtain ⟨r3, hc3, hf⟩ := bn1_e hf
  refine callRi (va_runV (As := [.int x1, .int x2]) (rest := []) ⟨hx, hb, hml, hown, hts⟩ (cX1_target_met l dC dI cI a0 a1 a2 a3 a4 a5 a6 akd asz alk ahm atg avl x1 x2 r3 hc3) (cwV 2 hts gX1_takeEntry_36 rfl rfl rfl (by decide +kernel) ⟨Nat.le_of_ble_eq_true rfl, Nat.le_of_ble_eq_true rfl⟩) (preRV (ci := 1) (q0 := 0) hK (hP.sub (ws' := (wX1 cI a0 a1 a2 a3 a4 a5 a6 akd asz alk ahm atg avl)) [0, 1, 2, 3, 4, 5, 6] rfl) rfl rfl) rfl rfl hl.1 rfl (lv_room (Nat.le_of_ble_eq_true rfl)) dX1_takeEntry_3 ⟨Nat.le_of_ble_eq_true rfl, Nat.le_of_ble_eq_true rfl⟩) hS hP (fun H locs hP hS => ?_)
  refine lv_istore_n (lv' := [(3, .int r3), (0, .ref a0), (1, .int x1), (2, .int x2)]) hx hb dX1_takeEntry_6 rfl hl (by decide) rfl (fun ls hl => ?_)
  refine lv_aload_n hx hb dX1_takeEntry_7 rfl (lv_at hl 1 rfl) ?_
  refine va_get (D := (dC, dI)) (ci := 1) (v := .ref a5) (C := RX1) (T := TX1) (N := 6) hx hb hts (fun w h => mc (inX1 w h)) hown hK hP 0 rfl rfl 4 (by decide) (hts _ (mc q_31)) (fun _ h9 => h9) rfl dX1_takeEntry_8 ?_
  refine lv_iload_n hx hb dX1_takeEntry_11 rfl (lv_at hl 2 rfl) ?_
  refine lv_bipush (v := 32) hx hb dX1_takeEntry_12 (by decide) ?_
  obtain ⟨v14, ev14, hf⟩ := slet_e hf
  refine lv_imul hx hb dX1_takeEntry_14 ?_
  refine rw_nm ev14 ?_
  refine lv_iload_n hx hb dX1_takeEntry_15 rfl (lv_at hl 3 rfl) ?_
  obtain ⟨v16, ev16, hf⟩ := slet_e hf
  refine lv_iadd hx hb dX1_takeEntry_16 ?_
  refine rw_nm ev16 ?_
  refine lv_iconst (v := 0) hx hb dX1_takeEntry_17 (by decide) ?_
  obtain ⟨hiatg_18, atg_18, eatg_18, hf⟩ := awr_e hf
  refine rw_ast (ws' := (wX1 cI a0 a1 a2 a3 a4 a5 a6 akd asz alk ahm atg_18 avl)) hx hb hK hP hD hS 5 0 rfl rfl hiatg_18 eatg_18 rfl dX1_takeEntry_18 (fun H locs hP hD hS => ?_)
  refine lv_aload_n hx hb dX1_takeEntry_19 rfl (lv_at hl 1 rfl) ?_
  refine va_get (D := (dC, dI)) (ci := 1) (v := .ref a2) (C := RX1) (T := TX1) (N := 6) hx hb hts (fun w h => mc (inX1 w h)) hown hK hP 0 rfl rfl 1 (by decide) (hts _ (mc q_28)) (fun _ h9 => h9) rfl dX1_takeEntry_20 ?_
  refine lv_iload_n hx hb dX1_takeEntry_23 rfl (lv_at hl 2 rfl) ?_
  refine lv_dup2_11 hx hb dX1_takeEntry_24 rfl rfl ?_
  obtain ⟨hiv25, v25, ev25, hf⟩ := ard_e hf
  refine rw_ald hx hb hK hP 2 0 rfl rfl hiv25 ev25 dX1_takeEntry_25 ?_
  refine lv_iconst (v := 1) hx hb dX1_takeEntry_26 (by decide) ?_
  obtain ⟨v27, ev27, hf⟩ := slet_e hf
  refine lv_isub hx hb dX1_takeEntry_27 ?_
  refine rw_nm ev27 ?_
  obtain ⟨hiasz_28, asz_28, easz_28, hf⟩ := awr_e hf
  refine rw_ast (ws' := (wX1 cI a0 a1 a2 a3 a4 a5 a6 akd asz_28 alk ahm atg_18 avl)) hx hb hK hP hD hS 2 0 rfl rfl hiasz_28 easz_28 rfl dX1_takeEntry_28 (fun H locs hP hD hS => ?_)
  refine lv_aload_n hx hb dX1_takeEntry_29 rfl (lv_at hl 1 rfl) ?_
  refine va_get (D := (dC, dI)) (ci := 1) (v := .ref a3) (C := RX1) (T := TX1) (N := 6) hx hb hts (fun w h => mc (inX1 w h)) hown hK hP 0 rfl rfl 2 (by decide) (hts _ (mc q_29)) (fun _ h9 => h9) rfl dX1_takeEntry_30 ?_
  refine lv_iload_n hx hb dX1_takeEntry_33 rfl (lv_at hl 0 rfl) ?_
  refine lv_dup2_11 hx hb dX1_takeEntry_34 rfl rfl ?_
  obtain ⟨hiv35, v35, ev35, hf⟩ := ard_e hf
  refine rw_ald hx hb hK hP 3 0 rfl rfl hiv35 ev35 dX1_takeEntry_35 ?_
  refine lv_iconst (v := 1) hx hb dX1_takeEntry_36 (by decide) ?_
  obtain ⟨v37, ev37, hf⟩ := slet_e hf
  refine lv_isub hx hb dX1_takeEntry_37 ?_
  refine rw_nm ev37 ?_
  obtain ⟨hialk_38, alk_38, ealk_38, hf⟩ := awr_e hf
  refine rw_ast (ws' := (wX1 cI a0 a1 a2 a3 a4 a5 a6 akd asz_28 alk_38 ahm atg_18 avl)) hx hb hK hP hD hS 3 0 rfl rfl hialk_38 ealk_38 rfl dX1_takeEntry_38 (fun H locs hP hD hS => ?_)
  refine lv_iload_n hx hb dX1_takeEntry_39 rfl (lv_at hl 0 rfl) ?_
  cases hf
  exact retI hx hb hr hlocks hP hS dX1_takeEntry_40
theorem gX1_dropEntry_56 : GoodIn wsX1_dropEntry (wsV RX1 56 RX1 yX1_takeEntry wsX1_takeEntry) := gIn (memV q_138 q_139 q_348 q_3 q_140)
set_option maxHeartbeats 4000000 in
set_option maxRecDepth 100000 in
theorem cX1_dropEntry_met (l : Launch) (dC : Nat → ClassId) (dI : Nat → Nat → Nat) (cI : ClassId) (a0 a1 a2 a3 a4 a5 a6 : Nat) (akd : Nat → Int32) (asz : Nat → Int32) (alk : Nat → Int32) (ahm : Nat → Int32) (atg : Nat → Int32) (avl : Nat → Int32) (x1 : Int32) (x2 : Int32) (akd_o : Nat → Int32) (asz_o : Nat → Int32) (alk_o : Nat → Int32) (atg_o : Nat → Int32) (hf : fX1_dropEntry x1 x2 akd asz alk atg = some (akd_o, asz_o, alk_o, atg_o)) : Met l yX1_dropEntry wsX1_dropEntry ({ frames := 2, cells := 0, slots := 0, locals := 45 } : Room) (pcW [.ref a0, .int x1, .int x2] (dC, dI) vwCl [(cI, .int)] (wX1 cI a0 a1 a2 a3 a4 a5 a6 akd asz alk ahm atg avl)) (qV (va_P (dC, dI) vwCl (wX1 cI a0 a1 a2 a3 a4 a5 a6 akd_o asz_o alk_o ahm atg_o avl)) (inA [a0, a1, a2, a3, a4, a5, a6])) 0 0 (inA [a0, a1, a2, a3, a4, a5, a6]) := by
  refine Met.ofW (cc := cX1_dropEntry) (maxL := 4) (ret := none) (by decide) rfl ?_
  intro p e s m args below meth c s₁ B hml hv
  obtain ⟨rfl, hP, hK, hD0⟩ := hv
  have hx := B.exec
  have hb := B.bytes
  have hr := B.returns
  have hts := atoms_spec (ws := wsX1_dropEntry) B.pre
  have hown : s.vm.findClass RX1 = some m.cls := findClass_of_methodNamed B.named
  have hlocks := B.notSynchronized
  have hD := my_self (as := [a0, a1, a2, a3, a4, a5, a6]) hD0 rfl
  have hS : va_S (inA [a0, a1, a2, a3, a4, a5, a6]) s.heap s.heap [] := va_S.rf
  have hl := lv_entry ([.ref a0, .int x1, .int x2]) (n := 4) (Nat.le_of_ble_eq_true rfl)
  rw [lg_entry_eq]
  generalize (lg_sl ([.ref a0, .int x1, .int x2]) ++ List.replicate (4 - (lg_sl ([.ref a0, .int x1, .int x2])).length) Slot.unset).toArray = ls at hl ⊢
  have hl : lv_has ls 4 [(0, .ref a0), (1, .int x1), (2, .int x2)] := hl
  unfold fX1_dropEntry at hf
  refine lv_aload_n hx hb dX1_dropEntry_0 rfl (lv_at hl 0 rfl) ?_
  refine lv_iload_n hx hb dX1_dropEntry_1 rfl (lv_at hl 1 rfl) ?_
  refine lv_iload_n hx hb dX1_dropEntry_2 rfl (lv_at hl 2 rfl) ?_
  obtain ⟨r3, asz_3, alk_3, atg_3, hc3, hf⟩ := bn4_e hf
  refine callWi (wc := (wX1 cI a0 a1 a2 a3 a4 a5 a6 akd asz alk ahm atg avl)) (w1 := (wX1 cI a0 a1 a2 a3 a4 a5 a6 akd asz_3 alk_3 ahm atg_3 avl)) (ws' := (wX1 cI a0 a1 a2 a3 a4 a5 a6 akd asz_3 alk_3 ahm atg_3 avl)) (va_runV (As := [.int x1, .int x2]) (rest := []) ⟨hx, hb, hml, hown, hts⟩ (cX1_takeEntry_met l dC dI cI a0 a1 a2 a3 a4 a5 a6 akd asz alk ahm atg avl x1 x2 r3 asz_3 alk_3 atg_3 hc3) (cwV 2 hts gX1_dropEntry_56 rfl rfl rfl (by decide +kernel) ⟨Nat.le_of_ble_eq_true rfl, Nat.le_of_ble_eq_true rfl⟩) (preWV (ci := 1) (q0 := 0) hK (hP.sub (ws' := (wX1 cI a0 a1 a2 a3 a4 a5 a6 akd asz alk ahm atg avl)) [0, 1, 2, 3, 4, 5, 6] rfl) (hD.sub (ws' := (wX1 cI a0 a1 a2 a3 a4 a5 a6 akd asz alk ahm atg avl)) [0, 1, 2, 3, 4, 5, 6] (by decide) rfl) rfl rfl) rfl rfl hl.1 rfl (lv_room (Nat.le_of_ble_eq_true rfl)) dX1_dropEntry_3 ⟨Nat.le_of_ble_eq_true rfl, Nat.le_of_ble_eq_true rfl⟩) hS hP hD [0, 1, 2, 3, 4, 5, 6] rfl rfl rfl rfl rfl (fun H locs hP hD hS => ?_)
  refine lv_istore_n (lv' := [(3, .int r3), (0, .ref a0), (1, .int x1), (2, .int x2)]) hx hb dX1_dropEntry_6 rfl hl (by decide) rfl (fun ls hl => ?_)
  refine lv_aload_n hx hb dX1_dropEntry_7 rfl (lv_at hl 1 rfl) ?_
  refine va_get (D := (dC, dI)) (ci := 1) (v := .ref a3) (C := RX1) (T := TX1) (N := 6) hx hb hts (fun w h => mc (inX1 w h)) hown hK hP 0 rfl rfl 2 (by decide) (hts _ (mc q_29)) (fun _ h9 => h9) rfl dX1_dropEntry_8 ?_
  refine lv_iload_n hx hb dX1_dropEntry_11 rfl (lv_at hl 0 rfl) ?_
  obtain ⟨hiv12, v12, ev12, hf⟩ := ard_e hf
  refine rw_ald hx hb hK hP 3 0 rfl rfl hiv12 ev12 dX1_dropEntry_12 ?_
  refine lv_if_ne (tgt := 30) hx hb dX1_dropEntry_13 (by decide) (fun c13 => ?_) (fun c13 => ?_)
  · have hf := it_f c13 hf
    cases hf
    exact retV hx hb hr hlocks hP hS dX1_dropEntry_30
  · have hf := it_t c13 hf
    refine lv_aload_n hx hb dX1_dropEntry_16 rfl (lv_at hl 1 rfl) ?_
    refine va_get (D := (dC, dI)) (ci := 1) (v := .ref a1) (C := RX1) (T := TX1) (N := 6) hx hb hts (fun w h => mc (inX1 w h)) hown hK hP 0 rfl rfl 0 (by decide) (hts _ (mc q_27)) (fun _ h9 => h9) rfl dX1_dropEntry_17 ?_
    refine lv_iload_n hx hb dX1_dropEntry_20 rfl (lv_at hl 0 rfl) ?_
    refine lv_iconst (v := 0) hx hb dX1_dropEntry_21 (by decide) ?_
    obtain ⟨hiakd_22, akd_22, eakd_22, hf⟩ := awr_e hf
    refine rw_ast (ws' := (wX1 cI a0 a1 a2 a3 a4 a5 a6 akd_22 asz_3 alk_3 ahm atg_3 avl)) hx hb hK hP hD hS 1 0 rfl rfl hiakd_22 eakd_22 rfl dX1_dropEntry_22 (fun H locs hP hD hS => ?_)
    refine lv_aload_n hx hb dX1_dropEntry_23 rfl (lv_at hl 1 rfl) ?_
    refine va_get (D := (dC, dI)) (ci := 1) (v := .ref a2) (C := RX1) (T := TX1) (N := 6) hx hb hts (fun w h => mc (inX1 w h)) hown hK hP 0 rfl rfl 1 (by decide) (hts _ (mc q_28)) (fun _ h9 => h9) rfl dX1_dropEntry_24 ?_
    refine lv_iload_n hx hb dX1_dropEntry_27 rfl (lv_at hl 0 rfl) ?_
    refine lv_iconst (v := 0) hx hb dX1_dropEntry_28 (by decide) ?_
    obtain ⟨hiasz_29, asz_29, easz_29, hf⟩ := awr_e hf
    refine rw_ast (ws' := (wX1 cI a0 a1 a2 a3 a4 a5 a6 akd_22 asz_29 alk_3 ahm atg_3 avl)) hx hb hK hP hD hS 2 0 rfl rfl hiasz_29 easz_29 rfl dX1_dropEntry_29 (fun H locs hP hD hS => ?_)
    cases hf
    exact retV hx hb hr hlocks hP hS dX1_dropEntry_30
theorem gX1_moveEntry_56 : GoodIn wsX1_moveEntry (wsV RX1 56 RX1 yX1_takeEntry wsX1_takeEntry) := gIn (memV q_138 q_139 q_348 q_3 q_140)
theorem gX1_moveEntry_52 : GoodIn wsX1_moveEntry (wsV RX1 52 RX1 yX1_addEntry wsX1_addEntry) := gIn (memV q_129 q_130 q_131 q_3 q_132)
set_option maxHeartbeats 4000000 in
set_option maxRecDepth 100000 in
theorem cX1_moveEntry_met (l : Launch) (dC : Nat → ClassId) (dI : Nat → Nat → Nat) (cI : ClassId) (a0 a1 a2 a3 a4 a5 a6 : Nat) (akd : Nat → Int32) (asz : Nat → Int32) (alk : Nat → Int32) (ahm : Nat → Int32) (atg : Nat → Int32) (avl : Nat → Int32) (x1 : Int32) (x2 : Int32) (x3 : Int32) (x4 : Int32) (asz_o : Nat → Int32) (alk_o : Nat → Int32) (ahm_o : Nat → Int32) (atg_o : Nat → Int32) (hf : fX1_moveEntry x1 x2 x3 x4 asz alk ahm atg = some (asz_o, alk_o, ahm_o, atg_o)) : Met l yX1_moveEntry wsX1_moveEntry ({ frames := 2, cells := 0, slots := 0, locals := 45 } : Room) (pcW [.ref a0, .int x1, .int x2, .int x3, .int x4] (dC, dI) vwCl [(cI, .int)] (wX1 cI a0 a1 a2 a3 a4 a5 a6 akd asz alk ahm atg avl)) (qV (va_P (dC, dI) vwCl (wX1 cI a0 a1 a2 a3 a4 a5 a6 akd asz_o alk_o ahm_o atg_o avl)) (inA [a0, a1, a2, a3, a4, a5, a6])) 0 0 (inA [a0, a1, a2, a3, a4, a5, a6]) := by
  refine Met.ofW (cc := cX1_moveEntry) (maxL := 6) (ret := none) (by decide) rfl ?_
  intro p e s m args below meth c s₁ B hml hv
  obtain ⟨rfl, hP, hK, hD0⟩ := hv
  have hx := B.exec
  have hb := B.bytes
  have hr := B.returns
  have hts := atoms_spec (ws := wsX1_moveEntry) B.pre
  have hown : s.vm.findClass RX1 = some m.cls := findClass_of_methodNamed B.named
  have hlocks := B.notSynchronized
  have hD := my_self (as := [a0, a1, a2, a3, a4, a5, a6]) hD0 rfl
  have hS : va_S (inA [a0, a1, a2, a3, a4, a5, a6]) s.heap s.heap [] := va_S.rf
  have hl := lv_entry ([.ref a0, .int x1, .int x2, .int x3, .int x4]) (n := 6) (Nat.le_of_ble_eq_true rfl)
  rw [lg_entry_eq]
  generalize (lg_sl ([.ref a0, .int x1, .int x2, .int x3, .int x4]) ++ List.replicate (6 - (lg_sl ([.ref a0, .int x1, .int x2, .int x3, .int x4])).length) Slot.unset).toArray = ls at hl ⊢
  have hl : lv_has ls 6 [(0, .ref a0), (1, .int x1), (2, .int x2), (3, .int x3), (4, .int x4)] := hl
  unfold fX1_moveEntry at hf
  refine lv_aload_n hx hb dX1_moveEntry_0 rfl (lv_at hl 0 rfl) ?_
  refine lv_iload_n hx hb dX1_moveEntry_1 rfl (lv_at hl 1 rfl) ?_
  refine lv_iload_n hx hb dX1_moveEntry_2 rfl (lv_at hl 2 rfl) ?_
  obtain ⟨r3, asz_3, alk_3, atg_3, hc3, hf⟩ := bn4_e hf
  refine callWi (wc := (wX1 cI a0 a1 a2 a3 a4 a5 a6 akd asz alk ahm atg avl)) (w1 := (wX1 cI a0 a1 a2 a3 a4 a5 a6 akd asz_3 alk_3 ahm atg_3 avl)) (ws' := (wX1 cI a0 a1 a2 a3 a4 a5 a6 akd asz_3 alk_3 ahm atg_3 avl)) (va_runV (As := [.int x1, .int x2]) (rest := []) ⟨hx, hb, hml, hown, hts⟩ (cX1_takeEntry_met l dC dI cI a0 a1 a2 a3 a4 a5 a6 akd asz alk ahm atg avl x1 x2 r3 asz_3 alk_3 atg_3 hc3) (cwV 2 hts gX1_moveEntry_56 rfl rfl rfl (by decide +kernel) ⟨Nat.le_of_ble_eq_true rfl, Nat.le_of_ble_eq_true rfl⟩) (preWV (ci := 1) (q0 := 0) hK (hP.sub (ws' := (wX1 cI a0 a1 a2 a3 a4 a5 a6 akd asz alk ahm atg avl)) [0, 1, 2, 3, 4, 5, 6] rfl) (hD.sub (ws' := (wX1 cI a0 a1 a2 a3 a4 a5 a6 akd asz alk ahm atg avl)) [0, 1, 2, 3, 4, 5, 6] (by decide) rfl) rfl rfl) rfl rfl hl.1 rfl (lv_room (Nat.le_of_ble_eq_true rfl)) dX1_moveEntry_3 ⟨Nat.le_of_ble_eq_true rfl, Nat.le_of_ble_eq_true rfl⟩) hS hP hD [0, 1, 2, 3, 4, 5, 6] rfl rfl rfl rfl rfl (fun H locs hP hD hS => ?_)
  refine lv_istore (lv' := [(5, .int r3), (0, .ref a0), (1, .int x1), (2, .int x2), (3, .int x3), (4, .int x4)]) hx hb dX1_moveEntry_6 hl (by decide) rfl (fun ls hl => ?_)
  refine lv_aload_n hx hb dX1_moveEntry_8 rfl (lv_at hl 1 rfl) ?_
  refine lv_iload_n hx hb dX1_moveEntry_9 rfl (lv_at hl 4 rfl) ?_
  refine lv_iload hx hb dX1_moveEntry_10 (lv_at hl 5 rfl) ?_
  refine lv_iload hx hb dX1_moveEntry_12 (lv_at hl 0 rfl) ?_
  obtain ⟨asz_14, alk_14, ahm_14, atg_14, hc14, hf⟩ := bn4_e hf
  refine callWv (wc := (wX1 cI a0 a1 a2 a3 a4 a5 a6 akd asz_3 alk_3 ahm atg_3 avl)) (w1 := (wX1 cI a0 a1 a2 a3 a4 a5 a6 akd asz_14 alk_14 ahm_14 atg_14 avl)) (ws' := (wX1 cI a0 a1 a2 a3 a4 a5 a6 akd asz_14 alk_14 ahm_14 atg_14 avl)) (va_runV (As := [.int x3, .int x4, .int r3]) (rest := []) ⟨hx, hb, hml, hown, hts⟩ (cX1_addEntry_met l dC dI cI a0 a1 a2 a3 a4 a5 a6 akd asz_3 alk_3 ahm atg_3 avl x3 x4 r3 asz_14 alk_14 ahm_14 atg_14 hc14) (cwV 3 hts gX1_moveEntry_52 rfl rfl rfl (by decide +kernel) ⟨Nat.le_of_ble_eq_true rfl, Nat.le_of_ble_eq_true rfl⟩) (preWV (ci := 1) (q0 := 0) hK (hP.sub (ws' := (wX1 cI a0 a1 a2 a3 a4 a5 a6 akd asz_3 alk_3 ahm atg_3 avl)) [0, 1, 2, 3, 4, 5, 6] rfl) (hD.sub (ws' := (wX1 cI a0 a1 a2 a3 a4 a5 a6 akd asz_3 alk_3 ahm atg_3 avl)) [0, 1, 2, 3, 4, 5, 6] (by decide) rfl) rfl rfl) rfl rfl hl.1 rfl (lv_room (Nat.le_of_ble_eq_true rfl)) dX1_moveEntry_14 ⟨Nat.le_of_ble_eq_true rfl, Nat.le_of_ble_eq_true rfl⟩) hS hP hD [0, 1, 2, 3, 4, 5, 6] rfl rfl rfl rfl rfl (fun H locs hP hD hS => ?_)
  cases hf
  exact retV hx hb hr hlocks hP hS dX1_moveEntry_17
set_option maxHeartbeats 4000000 in
set_option maxRecDepth 100000 in
theorem cX1_setInt_met (l : Launch) (dC : Nat → ClassId) (dI : Nat → Nat → Nat) (cI : ClassId) (a0 a1 a2 a3 a4 a5 a6 : Nat) (akd : Nat → Int32) (asz : Nat → Int32) (alk : Nat → Int32) (ahm : Nat → Int32) (atg : Nat → Int32) (avl : Nat → Int32) (x1 : Int32) (x2 : Int32) (x3 : Int32) (asz_o : Nat → Int32) (avl_o : Nat → Int32) (hf : fX1_setInt x1 x2 x3 asz avl = some (asz_o, avl_o)) : Met l yX1_setInt wsX1_setInt ({ frames := 1, cells := 0, slots := 0, locals := 48 } : Room) (pcW [.ref a0, .int x1, .int x2, .int x3] (dC, dI) vwCl [(cI, .int)] (wX1 cI a0 a1 a2 a3 a4 a5 a6 akd asz alk ahm atg avl)) (qV (va_P (dC, dI) vwCl (wX1 cI a0 a1 a2 a3 a4 a5 a6 akd asz_o alk ahm atg avl_o)) (inA [a0, a1, a2, a3, a4, a5, a6])) 0 0 (inA [a0, a1, a2, a3, a4, a5, a6]) := by
  refine Met.ofW (cc := cX1_setInt) (maxL := 4) (ret := none) (by decide) rfl ?_
  intro p e s m args below meth c s₁ B hml hv
  obtain ⟨rfl, hP, hK, hD0⟩ := hv
  have hx := B.exec
  have hb := B.bytes
  have hr := B.returns
  have hts := atoms_spec (ws := wsX1_setInt) B.pre
  have hown : s.vm.findClass RX1 = some m.cls := findClass_of_methodNamed B.named
  have hlocks := B.notSynchronized
  have hD := my_self (as := [a0, a1, a2, a3, a4, a5, a6]) hD0 rfl
  have hS : va_S (inA [a0, a1, a2, a3, a4, a5, a6]) s.heap s.heap [] := va_S.rf
  have hl := lv_entry ([.ref a0, .int x1, .int x2, .int x3]) (n := 4) (Nat.le_of_ble_eq_true rfl)
  rw [lg_entry_eq]
  generalize (lg_sl ([.ref a0, .int x1, .int x2, .int x3]) ++ List.replicate (4 - (lg_sl ([.ref a0, .int x1, .int x2, .int x3])).length) Slot.unset).toArray = ls at hl ⊢
  have hl : lv_has ls 4 [(0, .ref a0), (1, .int x1), (2, .int x2), (3, .int x3)] := hl
  unfold fX1_setInt at hf
  refine lv_aload_n hx hb dX1_setInt_0 rfl (lv_at hl 0 rfl) ?_
  refine va_get (D := (dC, dI)) (ci := 1) (v := .ref a6) (C := RX1) (T := TX1) (N := 6) hx hb hts (fun w h => mc (inX1 w h)) hown hK hP 0 rfl rfl 5 (by decide) (hts _ (mc q_32)) (fun _ h9 => h9) rfl dX1_setInt_1 ?_
  refine lv_iload_n hx hb dX1_setInt_4 rfl (lv_at hl 1 rfl) ?_
  refine lv_bipush (v := 8) hx hb dX1_setInt_5 (by decide) ?_
  obtain ⟨v7, ev7, hf⟩ := slet_e hf
  refine lv_imul hx hb dX1_setInt_7 ?_
  refine rw_nm ev7 ?_
  refine lv_iload_n hx hb dX1_setInt_8 rfl (lv_at hl 2 rfl) ?_
  obtain ⟨v9, ev9, hf⟩ := slet_e hf
  refine lv_iadd hx hb dX1_setInt_9 ?_
  refine rw_nm ev9 ?_
  refine lv_iload_n hx hb dX1_setInt_10 rfl (lv_at hl 3 rfl) ?_
  obtain ⟨hiavl_11, avl_11, eavl_11, hf⟩ := awr_e hf
  refine rw_ast (ws' := (wX1 cI a0 a1 a2 a3 a4 a5 a6 akd asz alk ahm atg avl_11)) hx hb hK hP hD hS 6 0 rfl rfl hiavl_11 eavl_11 rfl dX1_setInt_11 (fun H locs hP hD hS => ?_)
  refine lv_aload_n hx hb dX1_setInt_12 rfl (lv_at hl 0 rfl) ?_
  refine va_get (D := (dC, dI)) (ci := 1) (v := .ref a2) (C := RX1) (T := TX1) (N := 6) hx hb hts (fun w h => mc (inX1 w h)) hown hK hP 0 rfl rfl 1 (by decide) (hts _ (mc q_28)) (fun _ h9 => h9) rfl dX1_setInt_13 ?_
  refine lv_iload_n hx hb dX1_setInt_16 rfl (lv_at hl 1 rfl) ?_
  refine lv_aload_n hx hb dX1_setInt_17 rfl (lv_at hl 0 rfl) ?_
  refine va_get (D := (dC, dI)) (ci := 1) (v := .ref a2) (C := RX1) (T := TX1) (N := 6) hx hb hts (fun w h => mc (inX1 w h)) hown hK hP 0 rfl rfl 1 (by decide) (hts _ (mc q_28)) (fun _ h9 => h9) rfl dX1_setInt_18 ?_
  refine lv_iload_n hx hb dX1_setInt_21 rfl (lv_at hl 1 rfl) ?_
  obtain ⟨hiv22, v22, ev22, hf⟩ := ard_e hf
  refine rw_ald hx hb hK hP 2 0 rfl rfl hiv22 ev22 dX1_setInt_22 ?_
  refine lv_iload_n hx hb dX1_setInt_23 rfl (lv_at hl 2 rfl) ?_
  refine lv_iconst (v := 1) hx hb dX1_setInt_24 (by decide) ?_
  obtain ⟨v25, ev25, hf⟩ := slet_e hf
  refine lv_iadd hx hb dX1_setInt_25 ?_
  refine rw_nm ev25 ?_
  obtain ⟨v26, ev26, hf⟩ := slet_e hf
  refine va_mmax hx hb (hml.trans hl.1.symm) hown (hts _ (mc q_150)) (hts _ (mc q_19)) (hts _ (mc q_2)) (hts _ (mc q_20)) (Nat.le_of_ble_eq_true rfl) (Nat.le_of_ble_eq_true rfl) (Nat.le_of_ble_eq_true rfl) (Nat.le_of_ble_eq_true rfl) dX1_setInt_26 ?_
  refine rw_nm ev26 ?_
  obtain ⟨hiasz_29, asz_29, easz_29, hf⟩ := awr_e hf
  refine rw_ast (ws' := (wX1 cI a0 a1 a2 a3 a4 a5 a6 akd asz_29 alk ahm atg avl_11)) hx hb hK hP hD hS 2 0 rfl rfl hiasz_29 easz_29 rfl dX1_setInt_29 (fun H locs hP hD hS => ?_)
  cases hf
  exact retV hx hb hr hlocks hP hS dX1_setInt_30
set_option maxHeartbeats 4000000 in
set_option maxRecDepth 100000 in
theorem cX1_setSize_met (l : Launch) (dC : Nat → ClassId) (dI : Nat → Nat → Nat) (cI : ClassId) (a0 a1 a2 a3 a4 a5 a6 : Nat) (akd : Nat → Int32) (asz : Nat → Int32) (alk : Nat → Int32) (ahm : Nat → Int32) (atg : Nat → Int32) (avl : Nat → Int32) (x1 : Int32) (x2 : Int32) (asz_o : Nat → Int32) (hf : fX1_setSize x1 x2 asz = some asz_o) : Met l yX1_setSize wsX1_setSize ({ frames := 0, cells := 0, slots := 0, locals := 0 } : Room) (pcW [.ref a0, .int x1, .int x2] (dC, dI) vwCl [(cI, .int)] (wX1 cI a0 a1 a2 a3 a4 a5 a6 akd asz alk ahm atg avl)) (qV (va_P (dC, dI) vwCl (wX1 cI a0 a1 a2 a3 a4 a5 a6 akd asz_o alk ahm atg avl)) (inA [a0, a1, a2, a3, a4, a5, a6])) 0 0 (inA [a0, a1, a2, a3, a4, a5, a6]) := by
  refine Met.ofW (cc := cX1_setSize) (maxL := 3) (ret := none) (by decide) rfl ?_
  intro p e s m args below meth c s₁ B hml hv
  obtain ⟨rfl, hP, hK, hD0⟩ := hv
  have hx := B.exec
  have hb := B.bytes
  have hr := B.returns
  have hts := atoms_spec (ws := wsX1_setSize) B.pre
  have hown : s.vm.findClass RX1 = some m.cls := findClass_of_methodNamed B.named
  have hlocks := B.notSynchronized
  have hD := my_self (as := [a0, a1, a2, a3, a4, a5, a6]) hD0 rfl
  have hS : va_S (inA [a0, a1, a2, a3, a4, a5, a6]) s.heap s.heap [] := va_S.rf
  have hl := lv_entry ([.ref a0, .int x1, .int x2]) (n := 3) (Nat.le_of_ble_eq_true rfl)
  rw [lg_entry_eq]
  generalize (lg_sl ([.ref a0, .int x1, .int x2]) ++ List.replicate (3 - (lg_sl ([.ref a0, .int x1, .int x2])).length) Slot.unset).toArray = ls at hl ⊢
  have hl : lv_has ls 3 [(0, .ref a0), (1, .int x1), (2, .int x2)] := hl
  unfold fX1_setSize at hf
  refine lv_aload_n hx hb dX1_setSize_0 rfl (lv_at hl 0 rfl) ?_
  refine va_get (D := (dC, dI)) (ci := 1) (v := .ref a2) (C := RX1) (T := TX1) (N := 6) hx hb hts (fun w h => mc (inX1 w h)) hown hK hP 0 rfl rfl 1 (by decide) (hts _ (mc q_28)) (fun _ h9 => h9) rfl dX1_setSize_1 ?_
  refine lv_iload_n hx hb dX1_setSize_4 rfl (lv_at hl 1 rfl) ?_
  refine lv_iload_n hx hb dX1_setSize_5 rfl (lv_at hl 2 rfl) ?_
  obtain ⟨hiasz_6, asz_6, easz_6, hf⟩ := awr_e hf
  refine rw_ast (ws' := (wX1 cI a0 a1 a2 a3 a4 a5 a6 akd asz_6 alk ahm atg avl)) hx hb hK hP hD hS 2 0 rfl rfl hiasz_6 easz_6 rfl dX1_setSize_6 (fun H locs hP hD hS => ?_)
  cases hf
  exact retV hx hb hr hlocks hP hS dX1_setSize_7
theorem gX0_redo_19 : GoodIn wsX0_redo (wsV RX0 19 RX1 yX1_addNode wsX1_addNode) := gIn (memV q_124 q_125 q_126 q_3 q_127)
theorem gX0_redo_25 : GoodIn wsX0_redo (wsV RX0 25 RX1 yX1_addEntry wsX1_addEntry) := gIn (memV q_133 q_130 q_131 q_3 q_132)
theorem gX0_redo_28 : GoodIn wsX0_redo (wsV RX0 28 RX1 yX1_dropEntry wsX1_dropEntry) := gIn (memV q_134 q_135 q_136 q_3 q_137)
theorem gX0_redo_32 : GoodIn wsX0_redo (wsV RX0 32 RX1 yX1_moveEntry wsX1_moveEntry) := gIn (memV q_142 q_143 q_144 q_3 q_145)
theorem gX0_redo_36 : GoodIn wsX0_redo (wsV RX0 36 RX1 yX1_setInt wsX1_setInt) := gIn (memV q_146 q_147 q_148 q_3 q_149)
theorem gX0_redo_39 : GoodIn wsX0_redo (wsV RX0 39 RX1 yX1_setSize wsX1_setSize) := gIn (memV q_151 q_152 q_153 q_3 q_154)
set_option maxHeartbeats 4000000 in
set_option maxRecDepth 100000 in
theorem cX0_redo_met (l : Launch) (dC : Nat → ClassId) (dI : Nat → Nat → Nat) (cI : ClassId) (g0 g1 a0 a1 a2 a3 a4 a5 a6 : Nat) (gln : Int32) (grw : Nat → Int32) (akd : Nat → Int32) (asz : Nat → Int32) (alk : Nat → Int32) (ahm : Nat → Int32) (atg : Nat → Int32) (avl : Nat → Int32) (x1 : Int32) (akd_o : Nat → Int32) (asz_o : Nat → Int32) (alk_o : Nat → Int32) (ahm_o : Nat → Int32) (atg_o : Nat → Int32) (avl_o : Nat → Int32) (hf : fX0_redo x1 gln grw akd asz alk ahm atg avl = some (akd_o, asz_o, alk_o, ahm_o, atg_o, avl_o)) : Met l yX0_redo wsX0_redo ({ frames := 3, cells := 0, slots := 0, locals := 71 } : Room) (pcW [.ref g0, .int x1, .ref a0] (dC, dI) vwCl [(cI, .int)] (wX0X1a cI g0 g1 a0 a1 a2 a3 a4 a5 a6 gln grw akd asz alk ahm atg avl)) (qV (va_P (dC, dI) vwCl (wX0X1a cI g0 g1 a0 a1 a2 a3 a4 a5 a6 gln grw akd_o asz_o alk_o ahm_o atg_o avl_o)) (inA [g0, g1, a0, a1, a2, a3, a4, a5, a6])) 0 0 (inA [g0, g1, a0, a1, a2, a3, a4, a5, a6]) := by
  refine Met.ofW (cc := cX0_redo) (maxL := 8) (ret := none) (by decide) rfl ?_
  intro p e s m args below meth c s₁ B hml hv
  obtain ⟨rfl, hP, hK, hD0⟩ := hv
  have hx := B.exec
  have hb := B.bytes
  have hr := B.returns
  have hts := atoms_spec (ws := wsX0_redo) B.pre
  have hown : s.vm.findClass RX0 = some m.cls := findClass_of_methodNamed B.named
  have hlocks := B.notSynchronized
  have hD := my_self (as := [g0, g1, a0, a1, a2, a3, a4, a5, a6]) hD0 rfl
  have hS : va_S (inA [g0, g1, a0, a1, a2, a3, a4, a5, a6]) s.heap s.heap [] := va_S.rf
  have hl := lv_entry ([.ref g0, .int x1, .ref a0]) (n := 8) (Nat.le_of_ble_eq_true rfl)
  rw [lg_entry_eq]
  generalize (lg_sl ([.ref g0, .int x1, .ref a0]) ++ List.replicate (8 - (lg_sl ([.ref g0, .int x1, .ref a0])).length) Slot.unset).toArray = ls at hl ⊢
  have hl : lv_has ls 8 [(0, .ref g0), (1, .int x1), (2, .ref a0)] := hl
  unfold fX0_redo at hf
  refine lv_iload_n hx hb dX0_redo_0 rfl (lv_at hl 1 rfl) ?_
  refine lv_if_lt (tgt := 12) hx hb dX0_redo_1 (by decide) (fun c1 => ?_) (fun c1 => ?_)
  · have hf := it_t c1 hf
    cases hf
    exact retV hx hb hr hlocks hP hS dX0_redo_12
  · have hf := it_f c1 hf
    refine lv_iload_n hx hb dX0_redo_4 rfl (lv_at hl 1 rfl) ?_
    refine lv_aload_n hx hb dX0_redo_5 rfl (lv_at hl 0 rfl) ?_
    refine va_get (D := (dC, dI)) (ci := 0) (v := .int gln) (C := RX0) (T := TX0) (N := 2) hx hb hts (fun w h => mc (inX0 w h)) hown hK hP 0 rfl rfl 1 (by decide) (hts _ (mc q_41)) (fun _ h9 => h9) rfl dX0_redo_6 ?_
    refine lv_icmp_lt (tgt := 13) hx hb dX0_redo_9 (by decide) (fun c9 => ?_) (fun c9 => ?_)
    · have hf := it_t c9 hf
      refine lv_iload_n hx hb dX0_redo_13 rfl (lv_at hl 1 rfl) ?_
      refine lv_iconst (v := 5) hx hb dX0_redo_14 (by decide) ?_
      obtain ⟨v15, ev15, hf⟩ := slet_e hf
      refine lv_imul hx hb dX0_redo_15 ?_
      refine rw_nm ev15 ?_
      refine lv_istore_n (lv' := [(3, .int v15), (0, .ref g0), (1, .int x1), (2, .ref a0)]) hx hb dX0_redo_16 rfl hl (by decide) rfl (fun ls hl => ?_)
      refine lv_aload_n hx hb dX0_redo_17 rfl (lv_at hl 1 rfl) ?_
      refine va_get (D := (dC, dI)) (ci := 0) (v := .ref g1) (C := RX0) (T := TX0) (N := 2) hx hb hts (fun w h => mc (inX0 w h)) hown hK hP 0 rfl rfl 0 (by decide) (hts _ (mc q_40)) (fun _ h9 => h9) rfl dX0_redo_18 ?_
      refine lv_iload_n hx hb dX0_redo_21 rfl (lv_at hl 0 rfl) ?_
      refine lv_iconst (v := 1) hx hb dX0_redo_22 (by decide) ?_
      obtain ⟨v23, ev23, hf⟩ := slet_e hf
      refine lv_iadd hx hb dX0_redo_23 ?_
      refine rw_nm ev23 ?_
      obtain ⟨hiv24, v24, ev24, hf⟩ := ard_e hf
      refine rw_ald hx hb hK hP 1 0 rfl rfl hiv24 ev24 dX0_redo_24 ?_
      refine lv_istore (lv' := [(4, .int v24), (3, .int v15), (0, .ref g0), (1, .int x1), (2, .ref a0)]) hx hb dX0_redo_25 hl (by decide) rfl (fun ls hl => ?_)
      refine lv_aload_n hx hb dX0_redo_27 rfl (lv_at hl 2 rfl) ?_
      refine va_get (D := (dC, dI)) (ci := 0) (v := .ref g1) (C := RX0) (T := TX0) (N := 2) hx hb hts (fun w h => mc (inX0 w h)) hown hK hP 0 rfl rfl 0 (by decide) (hts _ (mc q_40)) (fun _ h9 => h9) rfl dX0_redo_28 ?_
      refine lv_iload_n hx hb dX0_redo_31 rfl (lv_at hl 1 rfl) ?_
      refine lv_iconst (v := 2) hx hb dX0_redo_32 (by decide) ?_
      obtain ⟨v33, ev33, hf⟩ := slet_e hf
      refine lv_iadd hx hb dX0_redo_33 ?_
      refine rw_nm ev33 ?_
      obtain ⟨hiv34, v34, ev34, hf⟩ := ard_e hf
      refine rw_ald hx hb hK hP 1 0 rfl rfl hiv34 ev34 dX0_redo_34 ?_
      refine lv_istore (lv' := [(5, .int v34), (4, .int v24), (3, .int v15), (0, .ref g0), (1, .int x1), (2, .ref a0)]) hx hb dX0_redo_35 hl (by decide) rfl (fun ls hl => ?_)
      refine lv_aload_n hx hb dX0_redo_37 rfl (lv_at hl 3 rfl) ?_
      refine va_get (D := (dC, dI)) (ci := 0) (v := .ref g1) (C := RX0) (T := TX0) (N := 2) hx hb hts (fun w h => mc (inX0 w h)) hown hK hP 0 rfl rfl 0 (by decide) (hts _ (mc q_40)) (fun _ h9 => h9) rfl dX0_redo_38 ?_
      refine lv_iload_n hx hb dX0_redo_41 rfl (lv_at hl 2 rfl) ?_
      refine lv_iconst (v := 3) hx hb dX0_redo_42 (by decide) ?_
      obtain ⟨v43, ev43, hf⟩ := slet_e hf
      refine lv_iadd hx hb dX0_redo_43 ?_
      refine rw_nm ev43 ?_
      obtain ⟨hiv44, v44, ev44, hf⟩ := ard_e hf
      refine rw_ald hx hb hK hP 1 0 rfl rfl hiv44 ev44 dX0_redo_44 ?_
      refine lv_istore (lv' := [(6, .int v44), (5, .int v34), (4, .int v24), (3, .int v15), (0, .ref g0), (1, .int x1), (2, .ref a0)]) hx hb dX0_redo_45 hl (by decide) rfl (fun ls hl => ?_)
      refine lv_aload_n hx hb dX0_redo_47 rfl (lv_at hl 4 rfl) ?_
      refine va_get (D := (dC, dI)) (ci := 0) (v := .ref g1) (C := RX0) (T := TX0) (N := 2) hx hb hts (fun w h => mc (inX0 w h)) hown hK hP 0 rfl rfl 0 (by decide) (hts _ (mc q_40)) (fun _ h9 => h9) rfl dX0_redo_48 ?_
      refine lv_iload_n hx hb dX0_redo_51 rfl (lv_at hl 3 rfl) ?_
      refine lv_iconst (v := 4) hx hb dX0_redo_52 (by decide) ?_
      obtain ⟨v53, ev53, hf⟩ := slet_e hf
      refine lv_iadd hx hb dX0_redo_53 ?_
      refine rw_nm ev53 ?_
      obtain ⟨hiv54, v54, ev54, hf⟩ := ard_e hf
      refine rw_ald hx hb hK hP 1 0 rfl rfl hiv54 ev54 dX0_redo_54 ?_
      refine lv_istore (lv' := [(7, .int v54), (6, .int v44), (5, .int v34), (4, .int v24), (3, .int v15), (0, .ref g0), (1, .int x1), (2, .ref a0)]) hx hb dX0_redo_55 hl (by decide) rfl (fun ls hl => ?_)
      refine lv_aload_n hx hb dX0_redo_57 rfl (lv_at hl 5 rfl) ?_
      refine va_get (D := (dC, dI)) (ci := 0) (v := .ref g1) (C := RX0) (T := TX0) (N := 2) hx hb hts (fun w h => mc (inX0 w h)) hown hK hP 0 rfl rfl 0 (by decide) (hts _ (mc q_40)) (fun _ h9 => h9) rfl dX0_redo_58 ?_
      refine lv_iload_n hx hb dX0_redo_61 rfl (lv_at hl 4 rfl) ?_
      obtain ⟨hiv62, v62, ev62, hf⟩ := ard_e hf
      refine rw_ald hx hb hK hP 1 0 rfl rfl hiv62 ev62 dX0_redo_62 ?_
      by_cases c63_0 : v62 = 0
      · have hf := it_t c63_0 hf
        refine lv_tableIn (tgt := 96) hx hb dX0_redo_63 (by rw [c63_0]; decide) (by rw [c63_0]; decide) (off := 33) (by rw [c63_0]; decide) (by decide) ?_
        refine lv_aload_n hx hb dX0_redo_96 rfl (lv_at hl 7 rfl) ?_
        refine lv_iload hx hb dX0_redo_97 (lv_at hl 3 rfl) ?_
        refine lv_iload hx hb dX0_redo_99 (lv_at hl 2 rfl) ?_
        refine lv_iload hx hb dX0_redo_101 (lv_at hl 1 rfl) ?_
        obtain ⟨akd_103, asz_103, alk_103, ahm_103, atg_103, hc103, hf⟩ := bn5_e hf
        refine callWv (wc := (wX1 cI a0 a1 a2 a3 a4 a5 a6 akd asz alk ahm atg avl)) (w1 := (wX1 cI a0 a1 a2 a3 a4 a5 a6 akd_103 asz_103 alk_103 ahm_103 atg_103 avl)) (ws' := (wX0X1a cI g0 g1 a0 a1 a2 a3 a4 a5 a6 gln grw akd_103 asz_103 alk_103 ahm_103 atg_103 avl)) (va_runV (As := [.int v24, .int v34, .int v44]) (rest := []) ⟨hx, hb, hml, hown, hts⟩ (cX1_addNode_met l dC dI cI a0 a1 a2 a3 a4 a5 a6 akd asz alk ahm atg avl v24 v34 v44 akd_103 asz_103 alk_103 ahm_103 atg_103 hc103) (cwV 3 hts gX0_redo_19 rfl rfl rfl (by decide +kernel) ⟨Nat.le_of_ble_eq_true rfl, Nat.le_of_ble_eq_true rfl⟩) (preWV (ci := 1) (q0 := 0) hK (hP.sub (ws' := (wX1 cI a0 a1 a2 a3 a4 a5 a6 akd asz alk ahm atg avl)) [2, 3, 4, 5, 6, 7, 8] rfl) (hD.sub (ws' := (wX1 cI a0 a1 a2 a3 a4 a5 a6 akd asz alk ahm atg avl)) [2, 3, 4, 5, 6, 7, 8] (by decide) rfl) rfl rfl) rfl rfl hl.1 rfl (lv_room (Nat.le_of_ble_eq_true rfl)) dX0_redo_103 ⟨Nat.le_of_ble_eq_true rfl, Nat.le_of_ble_eq_true rfl⟩) hS hP hD [2, 3, 4, 5, 6, 7, 8] rfl rfl rfl rfl rfl (fun H locs hP hD hS => ?_)
        refine lv_goto (tgt := 169) hx hb dX0_redo_106 (by decide) ?_
        cases hf
        exact retV hx hb hr hlocks hP hS dX0_redo_169
      have hf := it_f c63_0 hf
      by_cases c63_1 : v62 = 1
      · have hf := it_t c63_1 hf
        refine lv_tableIn (tgt := 109) hx hb dX0_redo_63 (by rw [c63_1]; decide) (by rw [c63_1]; decide) (off := 46) (by rw [c63_1]; decide) (by decide) ?_
        refine lv_aload_n hx hb dX0_redo_109 rfl (lv_at hl 7 rfl) ?_
        refine lv_iload hx hb dX0_redo_110 (lv_at hl 3 rfl) ?_
        refine lv_iload hx hb dX0_redo_112 (lv_at hl 2 rfl) ?_
        refine lv_iload hx hb dX0_redo_114 (lv_at hl 1 rfl) ?_
        obtain ⟨asz_116, alk_116, ahm_116, atg_116, hc116, hf⟩ := bn4_e hf
        refine callWv (wc := (wX1 cI a0 a1 a2 a3 a4 a5 a6 akd asz alk ahm atg avl)) (w1 := (wX1 cI a0 a1 a2 a3 a4 a5 a6 akd asz_116 alk_116 ahm_116 atg_116 avl)) (ws' := (wX0X1a cI g0 g1 a0 a1 a2 a3 a4 a5 a6 gln grw akd asz_116 alk_116 ahm_116 atg_116 avl)) (va_runV (As := [.int v24, .int v34, .int v44]) (rest := []) ⟨hx, hb, hml, hown, hts⟩ (cX1_addEntry_met l dC dI cI a0 a1 a2 a3 a4 a5 a6 akd asz alk ahm atg avl v24 v34 v44 asz_116 alk_116 ahm_116 atg_116 hc116) (cwV 3 hts gX0_redo_25 rfl rfl rfl (by decide +kernel) ⟨Nat.le_of_ble_eq_true rfl, Nat.le_of_ble_eq_true rfl⟩) (preWV (ci := 1) (q0 := 0) hK (hP.sub (ws' := (wX1 cI a0 a1 a2 a3 a4 a5 a6 akd asz alk ahm atg avl)) [2, 3, 4, 5, 6, 7, 8] rfl) (hD.sub (ws' := (wX1 cI a0 a1 a2 a3 a4 a5 a6 akd asz alk ahm atg avl)) [2, 3, 4, 5, 6, 7, 8] (by decide) rfl) rfl rfl) rfl rfl hl.1 rfl (lv_room (Nat.le_of_ble_eq_true rfl)) dX0_redo_116 ⟨Nat.le_of_ble_eq_true rfl, Nat.le_of_ble_eq_true rfl⟩) hS hP hD [2, 3, 4, 5, 6, 7, 8] rfl rfl rfl rfl rfl (fun H locs hP hD hS => ?_)
        refine lv_goto (tgt := 169) hx hb dX0_redo_119 (by decide) ?_
        cases hf
        exact retV hx hb hr hlocks hP hS dX0_redo_169
      have hf := it_f c63_1 hf
      by_cases c63_2 : v62 = 2
      · have hf := it_t c63_2 hf
        refine lv_tableIn (tgt := 122) hx hb dX0_redo_63 (by rw [c63_2]; decide) (by rw [c63_2]; decide) (off := 59) (by rw [c63_2]; decide) (by decide) ?_
        refine lv_aload_n hx hb dX0_redo_122 rfl (lv_at hl 7 rfl) ?_
        refine lv_iload hx hb dX0_redo_123 (lv_at hl 3 rfl) ?_
        refine lv_iload hx hb dX0_redo_125 (lv_at hl 2 rfl) ?_
        obtain ⟨akd_127, asz_127, alk_127, atg_127, hc127, hf⟩ := bn4_e hf
        refine callWv (wc := (wX1 cI a0 a1 a2 a3 a4 a5 a6 akd asz alk ahm atg avl)) (w1 := (wX1 cI a0 a1 a2 a3 a4 a5 a6 akd_127 asz_127 alk_127 ahm atg_127 avl)) (ws' := (wX0X1a cI g0 g1 a0 a1 a2 a3 a4 a5 a6 gln grw akd_127 asz_127 alk_127 ahm atg_127 avl)) (va_runV (As := [.int v24, .int v34]) (rest := []) ⟨hx, hb, hml, hown, hts⟩ (cX1_dropEntry_met l dC dI cI a0 a1 a2 a3 a4 a5 a6 akd asz alk ahm atg avl v24 v34 akd_127 asz_127 alk_127 atg_127 hc127) (cwV 2 hts gX0_redo_28 rfl rfl rfl (by decide +kernel) ⟨Nat.le_of_ble_eq_true rfl, Nat.le_of_ble_eq_true rfl⟩) (preWV (ci := 1) (q0 := 0) hK (hP.sub (ws' := (wX1 cI a0 a1 a2 a3 a4 a5 a6 akd asz alk ahm atg avl)) [2, 3, 4, 5, 6, 7, 8] rfl) (hD.sub (ws' := (wX1 cI a0 a1 a2 a3 a4 a5 a6 akd asz alk ahm atg avl)) [2, 3, 4, 5, 6, 7, 8] (by decide) rfl) rfl rfl) rfl rfl hl.1 rfl (lv_room (Nat.le_of_ble_eq_true rfl)) dX0_redo_127 ⟨Nat.le_of_ble_eq_true rfl, Nat.le_of_ble_eq_true rfl⟩) hS hP hD [2, 3, 4, 5, 6, 7, 8] rfl rfl rfl rfl rfl (fun H locs hP hD hS => ?_)
        refine lv_goto (tgt := 169) hx hb dX0_redo_130 (by decide) ?_
        cases hf
        exact retV hx hb hr hlocks hP hS dX0_redo_169
      have hf := it_f c63_2 hf
      by_cases c63_3 : v62 = 3
      · have hf := it_t c63_3 hf
        refine lv_tableIn (tgt := 133) hx hb dX0_redo_63 (by rw [c63_3]; decide) (by rw [c63_3]; decide) (off := 70) (by rw [c63_3]; decide) (by decide) ?_
        refine lv_aload_n hx hb dX0_redo_133 rfl (lv_at hl 7 rfl) ?_
        refine lv_iload hx hb dX0_redo_134 (lv_at hl 3 rfl) ?_
        refine lv_iload hx hb dX0_redo_136 (lv_at hl 2 rfl) ?_
        refine lv_iload hx hb dX0_redo_138 (lv_at hl 1 rfl) ?_
        refine lv_iload hx hb dX0_redo_140 (lv_at hl 0 rfl) ?_
        obtain ⟨asz_142, alk_142, ahm_142, atg_142, hc142, hf⟩ := bn4_e hf
        refine callWv (wc := (wX1 cI a0 a1 a2 a3 a4 a5 a6 akd asz alk ahm atg avl)) (w1 := (wX1 cI a0 a1 a2 a3 a4 a5 a6 akd asz_142 alk_142 ahm_142 atg_142 avl)) (ws' := (wX0X1a cI g0 g1 a0 a1 a2 a3 a4 a5 a6 gln grw akd asz_142 alk_142 ahm_142 atg_142 avl)) (va_runV (As := [.int v24, .int v34, .int v44, .int v54]) (rest := []) ⟨hx, hb, hml, hown, hts⟩ (cX1_moveEntry_met l dC dI cI a0 a1 a2 a3 a4 a5 a6 akd asz alk ahm atg avl v24 v34 v44 v54 asz_142 alk_142 ahm_142 atg_142 hc142) (cwV 4 hts gX0_redo_32 rfl rfl rfl (by decide +kernel) ⟨Nat.le_of_ble_eq_true rfl, Nat.le_of_ble_eq_true rfl⟩) (preWV (ci := 1) (q0 := 0) hK (hP.sub (ws' := (wX1 cI a0 a1 a2 a3 a4 a5 a6 akd asz alk ahm atg avl)) [2, 3, 4, 5, 6, 7, 8] rfl) (hD.sub (ws' := (wX1 cI a0 a1 a2 a3 a4 a5 a6 akd asz alk ahm atg avl)) [2, 3, 4, 5, 6, 7, 8] (by decide) rfl) rfl rfl) rfl rfl hl.1 rfl (lv_room (Nat.le_of_ble_eq_true rfl)) dX0_redo_142 ⟨Nat.le_of_ble_eq_true rfl, Nat.le_of_ble_eq_true rfl⟩) hS hP hD [2, 3, 4, 5, 6, 7, 8] rfl rfl rfl rfl rfl (fun H locs hP hD hS => ?_)
        refine lv_goto (tgt := 169) hx hb dX0_redo_145 (by decide) ?_
        cases hf
        exact retV hx hb hr hlocks hP hS dX0_redo_169
      have hf := it_f c63_3 hf
      by_cases c63_4 : v62 = 4
      · have hf := it_t c63_4 hf
        refine lv_tableIn (tgt := 148) hx hb dX0_redo_63 (by rw [c63_4]; decide) (by rw [c63_4]; decide) (off := 85) (by rw [c63_4]; decide) (by decide) ?_
        refine lv_aload_n hx hb dX0_redo_148 rfl (lv_at hl 7 rfl) ?_
        refine lv_iload hx hb dX0_redo_149 (lv_at hl 3 rfl) ?_
        refine lv_iload hx hb dX0_redo_151 (lv_at hl 2 rfl) ?_
        refine lv_iload hx hb dX0_redo_153 (lv_at hl 1 rfl) ?_
        obtain ⟨asz_155, avl_155, hc155, hf⟩ := bn2_e hf
        refine callWv (wc := (wX1 cI a0 a1 a2 a3 a4 a5 a6 akd asz alk ahm atg avl)) (w1 := (wX1 cI a0 a1 a2 a3 a4 a5 a6 akd asz_155 alk ahm atg avl_155)) (ws' := (wX0X1a cI g0 g1 a0 a1 a2 a3 a4 a5 a6 gln grw akd asz_155 alk ahm atg avl_155)) (va_runV (As := [.int v24, .int v34, .int v44]) (rest := []) ⟨hx, hb, hml, hown, hts⟩ (cX1_setInt_met l dC dI cI a0 a1 a2 a3 a4 a5 a6 akd asz alk ahm atg avl v24 v34 v44 asz_155 avl_155 hc155) (cwV 3 hts gX0_redo_36 rfl rfl rfl (by decide +kernel) ⟨Nat.le_of_ble_eq_true rfl, Nat.le_of_ble_eq_true rfl⟩) (preWV (ci := 1) (q0 := 0) hK (hP.sub (ws' := (wX1 cI a0 a1 a2 a3 a4 a5 a6 akd asz alk ahm atg avl)) [2, 3, 4, 5, 6, 7, 8] rfl) (hD.sub (ws' := (wX1 cI a0 a1 a2 a3 a4 a5 a6 akd asz alk ahm atg avl)) [2, 3, 4, 5, 6, 7, 8] (by decide) rfl) rfl rfl) rfl rfl hl.1 rfl (lv_room (Nat.le_of_ble_eq_true rfl)) dX0_redo_155 ⟨Nat.le_of_ble_eq_true rfl, Nat.le_of_ble_eq_true rfl⟩) hS hP hD [2, 3, 4, 5, 6, 7, 8] rfl rfl rfl rfl rfl (fun H locs hP hD hS => ?_)
        refine lv_goto (tgt := 169) hx hb dX0_redo_158 (by decide) ?_
        cases hf
        exact retV hx hb hr hlocks hP hS dX0_redo_169
      have hf := it_f c63_4 hf
      have t0 := lv_neT (a := 0) c63_0 (by decide)
      have t1 := lv_neT (a := 1) c63_1 (by decide)
      have t2 := lv_neT (a := 2) c63_2 (by decide)
      have t3 := lv_neT (a := 3) c63_3 (by decide)
      have t4 := lv_neT (a := 4) c63_4 (by decide)
      refine lv_tableOut (tgt := 161) hx hb dX0_redo_63 (by omega) (by decide) ?_
      refine lv_aload_n hx hb dX0_redo_161 rfl (lv_at hl 7 rfl) ?_
      refine lv_iload hx hb dX0_redo_162 (lv_at hl 3 rfl) ?_
      refine lv_iload hx hb dX0_redo_164 (lv_at hl 2 rfl) ?_
      obtain ⟨asz_166, hc166, hf⟩ := bn1_e hf
      refine callWv (wc := (wX1 cI a0 a1 a2 a3 a4 a5 a6 akd asz alk ahm atg avl)) (w1 := (wX1 cI a0 a1 a2 a3 a4 a5 a6 akd asz_166 alk ahm atg avl)) (ws' := (wX0X1a cI g0 g1 a0 a1 a2 a3 a4 a5 a6 gln grw akd asz_166 alk ahm atg avl)) (va_runV (As := [.int v24, .int v34]) (rest := []) ⟨hx, hb, hml, hown, hts⟩ (cX1_setSize_met l dC dI cI a0 a1 a2 a3 a4 a5 a6 akd asz alk ahm atg avl v24 v34 asz_166 hc166) (cwV 2 hts gX0_redo_39 rfl rfl rfl (by decide +kernel) ⟨Nat.le_of_ble_eq_true rfl, Nat.le_of_ble_eq_true rfl⟩) (preWV (ci := 1) (q0 := 0) hK (hP.sub (ws' := (wX1 cI a0 a1 a2 a3 a4 a5 a6 akd asz alk ahm atg avl)) [2, 3, 4, 5, 6, 7, 8] rfl) (hD.sub (ws' := (wX1 cI a0 a1 a2 a3 a4 a5 a6 akd asz alk ahm atg avl)) [2, 3, 4, 5, 6, 7, 8] (by decide) rfl) rfl rfl) rfl rfl hl.1 rfl (lv_room (Nat.le_of_ble_eq_true rfl)) dX0_redo_166 ⟨Nat.le_of_ble_eq_true rfl, Nat.le_of_ble_eq_true rfl⟩) hS hP hD [2, 3, 4, 5, 6, 7, 8] rfl rfl rfl rfl rfl (fun H locs hP hD hS => ?_)
      cases hf
      exact retV hx hb hr hlocks hP hS dX0_redo_169
    · have hf := it_f c9 hf
      cases hf
      exact retV hx hb hr hlocks hP hS dX0_redo_12
set_option maxHeartbeats 4000000 in
set_option maxRecDepth 100000 in
theorem cX1_links_met (l : Launch) (dC : Nat → ClassId) (dI : Nat → Nat → Nat) (cI : ClassId) (a0 a1 a2 a3 a4 a5 a6 : Nat) (akd : Nat → Int32) (asz : Nat → Int32) (alk : Nat → Int32) (ahm : Nat → Int32) (atg : Nat → Int32) (avl : Nat → Int32) (x1 : Int32) (r : Int32) (hf : fX1_links x1 alk = some r) : Met l yX1_links wsX1_links ({ frames := 0, cells := 0, slots := 0, locals := 0 } : Room) (pcR [.ref a0, .int x1] (dC, dI) vwCl [(cI, .int)] (wX1 cI a0 a1 a2 a3 a4 a5 a6 akd asz alk ahm atg avl)) (qI r pT aN) 0 0 aN := by
  refine Met.ofW (cc := cX1_links) (maxL := 2) (ret := (some .int)) (by decide) rfl ?_
  intro p e s m args below meth c s₁ B hml hv
  obtain ⟨rfl, hP, hK⟩ := hv
  have hx := B.exec
  have hb := B.bytes
  have hr := B.returns
  have hts := atoms_spec (ws := wsX1_links) B.pre
  have hown : s.vm.findClass RX1 = some m.cls := findClass_of_methodNamed B.named
  have hlocks := B.notSynchronized
  have hS : va_S aN s.heap s.heap [] := va_S.rf
  have hl := lv_entry ([.ref a0, .int x1]) (n := 2) (Nat.le_of_ble_eq_true rfl)
  rw [lg_entry_eq]
  generalize (lg_sl ([.ref a0, .int x1]) ++ List.replicate (2 - (lg_sl ([.ref a0, .int x1])).length) Slot.unset).toArray = ls at hl ⊢
  have hl : lv_has ls 2 [(0, .ref a0), (1, .int x1)] := hl
  unfold fX1_links at hf
  refine lv_aload_n hx hb dX1_links_0 rfl (lv_at hl 0 rfl) ?_
  refine va_get (D := (dC, dI)) (ci := 1) (v := .ref a3) (C := RX1) (T := TX1) (N := 6) hx hb hts (fun w h => mc (inX1 w h)) hown hK hP 0 rfl rfl 2 (by decide) (hts _ (mc q_29)) (fun _ h9 => h9) rfl dX1_links_1 ?_
  refine lv_iload_n hx hb dX1_links_4 rfl (lv_at hl 1 rfl) ?_
  obtain ⟨hiv5, v5, ev5, hf⟩ := ard_e hf
  refine rw_ald hx hb hK hP 3 0 rfl rfl hiv5 ev5 dX1_links_5 ?_
  cases hf
  exact retI hx hb hr hlocks trivial hS dX1_links_6
set_option maxHeartbeats 4000000 in
set_option maxRecDepth 100000 in
theorem wbX1_liesIn_5 {p : Program} {l : Launch} {e : Env} {s : State} {m : MethodId} {args : Array Value} {below : List Frame} {meth : Method} {c : Code} {dC : Nat → ClassId} {dI : Nat → Nat → Nat} {cI : ClassId} (hx : p.tables.exec = Jvm.exec) (hb : c.code = cX1_liesIn) (hml : c.maxLocals = 5) (hown : s.vm.findClass RX1 = some m.cls) (hts : ∀ w ∈ wsX1_liesIn, w.before args s = true) (hr : meth.sig.returnType = (some .boolean)) (hlocks : meth.locks = false) (hK : va_K (dC, dI) vwCl [(cI, .int)] s) (a0 a1 a2 a3 a4 a5 a6 : Nat) (akd : Nat → Int32) (asz : Nat → Int32) (alk : Nat → Int32) (ahm : Nat → Int32) (atg : Nat → Int32) (avl : Nat → Int32) (r : Int32) : ∀ (n : Nat), ∀ (x2 : Int32) (x3 : Int32) (x4 : Int32) (H : Heap) (locs : List Loc), va_P (dC, dI) vwCl (wX1 cI a0 a1 a2 a3 a4 a5 a6 akd asz alk ahm atg avl) H → va_S aN s.heap H locs → ∀ (ls : Array Slot), lv_has ls 5 [(0, .ref a0), (2, .int x2), (3, .int x3), (4, .int x4)] → fX1_liesIn_b5 ahm n x2 x3 x4 = some r → W p l e ({ frames := 0, cells := 0, slots := 0, locals := 0 } : Room) s m args below meth c H locs 0 0 (MQ below (qI r pT aN) args s 0 0 aN) (F0 m 5 ls []) := by
  intro n
  induction n with
  | zero =>
    intro x2 x3 x4 H locs hP hS ls hl hf
    cases hf
  | succ n ih =>
    intro x2 x3 x4 H locs hP hS ls hl hf
    rw [fX1_liesIn_b5] at hf
    refine lv_iload hx hb dX1_liesIn_5 (lv_at hl 3 rfl) ?_
    refine lv_bipush (v := 16) hx hb dX1_liesIn_7 (by decide) ?_
    refine lv_icmp_ge (tgt := 32) hx hb dX1_liesIn_9 (by decide) (fun c9 => ?_) (fun c9 => ?_)
    · have hf := it_t c9 hf
      refine lv_iconst (v := 0) hx hb dX1_liesIn_32 (by decide) ?_
      cases hf
      exact retZ hx hb hr hlocks (by decide) trivial hS dX1_liesIn_33
    · have hf := it_f c9 hf
      refine lv_iload_n hx hb dX1_liesIn_12 rfl (lv_at hl 2 rfl) ?_
      refine lv_iload_n hx hb dX1_liesIn_13 rfl (lv_at hl 1 rfl) ?_
      refine lv_icmp_ne (tgt := 19) hx hb dX1_liesIn_14 (by decide) (fun c14 => ?_) (fun c14 => ?_)
      · have hf := it_f c14 hf
        refine lv_aload_n hx hb dX1_liesIn_19 rfl (lv_at hl 0 rfl) ?_
        refine va_get (D := (dC, dI)) (ci := 1) (v := .ref a4) (C := RX1) (T := TX1) (N := 6) hx hb hts (fun w h => mc (inX1 w h)) hown hK hP 0 rfl rfl 3 (by decide) (hts _ (mc q_30)) (fun _ h9 => h9) rfl dX1_liesIn_20 ?_
        refine lv_iload_n hx hb dX1_liesIn_23 rfl (lv_at hl 2 rfl) ?_
        obtain ⟨hiv24, v24, ev24, hf⟩ := ard_e hf
        refine rw_ald hx hb hK hP 4 0 rfl rfl hiv24 ev24 dX1_liesIn_24 ?_
        refine lv_istore_n (lv' := [(3, .int v24), (0, .ref a0), (2, .int x2), (4, .int x4)]) hx hb dX1_liesIn_25 rfl hl (by decide) rfl (fun ls hl => ?_)
        obtain ⟨v26, ev26, hf⟩ := slet_e hf
        refine lv_iinc (v := v26) (lv' := [(4, .int v26), (3, .int v24), (0, .ref a0), (2, .int x2)]) hx hb dX1_liesIn_26 hl (k := 3) rfl (by rw [ev26]; rfl) (by decide) rfl (fun ls hl => ?_)
        refine lv_goto (tgt := 5) hx hb dX1_liesIn_29 (by decide) ?_
        exact ih x2 v24 v26 _ _ hP hS _ (lv_sub hl [2, 3, 1, 0] rfl) hf
      · have hf := it_t c14 hf
        refine lv_iconst (v := 1) hx hb dX1_liesIn_17 (by decide) ?_
        cases hf
        exact retZ hx hb hr hlocks (by decide) trivial hS dX1_liesIn_18
set_option maxHeartbeats 4000000 in
set_option maxRecDepth 100000 in
theorem cX1_liesIn_met (l : Launch) (dC : Nat → ClassId) (dI : Nat → Nat → Nat) (cI : ClassId) (a0 a1 a2 a3 a4 a5 a6 : Nat) (akd : Nat → Int32) (asz : Nat → Int32) (alk : Nat → Int32) (ahm : Nat → Int32) (atg : Nat → Int32) (avl : Nat → Int32) (x1 : Int32) (x2 : Int32) (r : Int32) (hf : fX1_liesIn x1 x2 ahm = some r) : Met l yX1_liesIn wsX1_liesIn ({ frames := 0, cells := 0, slots := 0, locals := 0 } : Room) (pcR [.ref a0, .int x1, .int x2] (dC, dI) vwCl [(cI, .int)] (wX1 cI a0 a1 a2 a3 a4 a5 a6 akd asz alk ahm atg avl)) (qI r pT aN) 0 0 aN := by
  refine Met.ofW (cc := cX1_liesIn) (maxL := 5) (ret := (some .boolean)) (by decide) rfl ?_
  intro p e s m args below meth c s₁ B hml hv
  obtain ⟨rfl, hP, hK⟩ := hv
  have hx := B.exec
  have hb := B.bytes
  have hr := B.returns
  have hts := atoms_spec (ws := wsX1_liesIn) B.pre
  have hown : s.vm.findClass RX1 = some m.cls := findClass_of_methodNamed B.named
  have hlocks := B.notSynchronized
  have hS : va_S aN s.heap s.heap [] := va_S.rf
  have hl := lv_entry ([.ref a0, .int x1, .int x2]) (n := 5) (Nat.le_of_ble_eq_true rfl)
  rw [lg_entry_eq]
  generalize (lg_sl ([.ref a0, .int x1, .int x2]) ++ List.replicate (5 - (lg_sl ([.ref a0, .int x1, .int x2])).length) Slot.unset).toArray = ls at hl ⊢
  have hl : lv_has ls 5 [(0, .ref a0), (1, .int x1), (2, .int x2)] := hl
  unfold fX1_liesIn at hf
  refine lv_iload_n hx hb dX1_liesIn_0 rfl (lv_at hl 1 rfl) ?_
  refine lv_istore_n (lv' := [(3, .int x1), (0, .ref a0), (1, .int x1), (2, .int x2)]) hx hb dX1_liesIn_1 rfl hl (by decide) rfl (fun ls hl => ?_)
  refine lv_iconst (v := 0) hx hb dX1_liesIn_2 (by decide) ?_
  refine lv_istore (lv' := [(4, .int 0), (3, .int x1), (0, .ref a0), (1, .int x1), (2, .int x2)]) hx hb dX1_liesIn_3 hl (by decide) rfl (fun ls hl => ?_)
  exact wbX1_liesIn_5 hx hb hml hown hts hr hlocks hK a0 a1 a2 a3 a4 a5 a6 akd asz alk ahm atg avl r 2000 x2 x1 0 _ _ hP hS _ (lv_sub hl [2, 4, 1, 0] rfl) hf
theorem gX1_nthName_36 : GoodIn wsX1_nthName (wsV RX1 36 RX1 yX1_target wsX1_target) := gIn (memV q_141 q_75 q_76 q_3 q_77)
set_option maxHeartbeats 4000000 in
set_option maxRecDepth 100000 in
theorem wbX1_nthName_5 {p : Program} {l : Launch} {e : Env} {s : State} {m : MethodId} {args : Array Value} {below : List Frame} {meth : Method} {c : Code} {dC : Nat → ClassId} {dI : Nat → Nat → Nat} {cI : ClassId} (hx : p.tables.exec = Jvm.exec) (hb : c.code = cX1_nthName) (hml : c.maxLocals = 5) (hown : s.vm.findClass RX1 = some m.cls) (hts : ∀ w ∈ wsX1_nthName, w.before args s = true) (hr : meth.sig.returnType = (some .int)) (hlocks : meth.locks = false) (hK : va_K (dC, dI) vwCl [(cI, .int)] s) (a0 a1 a2 a3 a4 a5 a6 : Nat) (akd : Nat → Int32) (asz : Nat → Int32) (alk : Nat → Int32) (ahm : Nat → Int32) (atg : Nat → Int32) (avl : Nat → Int32) (r : Int32) : ∀ (n : Nat), ∀ (x1 : Int32) (x2 : Int32) (x3 : Int32) (x4 : Int32) (H : Heap) (locs : List Loc), va_P (dC, dI) vwCl (wX1 cI a0 a1 a2 a3 a4 a5 a6 akd asz alk ahm atg avl) H → va_S aN s.heap H locs → ∀ (ls : Array Slot), lv_has ls 5 [(0, .ref a0), (1, .int x1), (2, .int x2), (3, .int x3), (4, .int x4)] → fX1_nthName_b5 atg n x1 x2 x3 x4 = some r → W p l e ({ frames := 1, cells := 0, slots := 0, locals := 22 } : Room) s m args below meth c H locs 0 0 (MQ below (qI r pT aN) args s 0 0 aN) (F0 m 5 ls []) := by
  intro n
  induction n with
  | zero =>
    intro x1 x2 x3 x4 H locs hP hS ls hl hf
    cases hf
  | succ n ih =>
    intro x1 x2 x3 x4 H locs hP hS ls hl hf
    rw [fX1_nthName_b5] at hf
    refine lv_iload hx hb dX1_nthName_5 (lv_at hl 4 rfl) ?_
    refine lv_bipush (v := 32) hx hb dX1_nthName_7 (by decide) ?_
    refine lv_icmp_ge (tgt := 39) hx hb dX1_nthName_9 (by decide) (fun c9 => ?_) (fun c9 => ?_)
    · have hf := it_t c9 hf
      refine lv_iconst (v := -1) hx hb dX1_nthName_39 (by decide) ?_
      cases hf
      exact retI hx hb hr hlocks trivial hS dX1_nthName_40
    · have hf := it_f c9 hf
      refine lv_aload_n hx hb dX1_nthName_12 rfl (lv_at hl 0 rfl) ?_
      refine lv_iload_n hx hb dX1_nthName_13 rfl (lv_at hl 1 rfl) ?_
      refine lv_iload hx hb dX1_nthName_14 (lv_at hl 4 rfl) ?_
      obtain ⟨r16, hc16, hf⟩ := bn1_e hf
      refine callRi (va_runV (As := [.int x1, .int x4]) (rest := []) ⟨hx, hb, hml, hown, hts⟩ (cX1_target_met l dC dI cI a0 a1 a2 a3 a4 a5 a6 akd asz alk ahm atg avl x1 x4 r16 hc16) (cwV 2 hts gX1_nthName_36 rfl rfl rfl (by decide +kernel) ⟨Nat.le_of_ble_eq_true rfl, Nat.le_of_ble_eq_true rfl⟩) (preRV (ci := 1) (q0 := 0) hK (hP.sub (ws' := (wX1 cI a0 a1 a2 a3 a4 a5 a6 akd asz alk ahm atg avl)) [0, 1, 2, 3, 4, 5, 6] rfl) rfl rfl) rfl rfl hl.1 rfl (lv_room (Nat.le_of_ble_eq_true rfl)) dX1_nthName_16 ⟨Nat.le_of_ble_eq_true rfl, Nat.le_of_ble_eq_true rfl⟩) hS hP (fun H locs hP hS => ?_)
      refine lv_if_eq (tgt := 33) hx hb dX1_nthName_19 (by decide) (fun c19 => ?_) (fun c19 => ?_)
      · have hf := it_t c19 hf
        obtain ⟨v33, ev33, hf⟩ := slet_e hf
        refine lv_iinc (v := v33) (lv' := [(4, .int v33), (0, .ref a0), (1, .int x1), (2, .int x2), (3, .int x3)]) hx hb dX1_nthName_33 hl (k := 4) rfl (by rw [ev33]; rfl) (by decide) rfl (fun ls hl => ?_)
        refine lv_goto (tgt := 5) hx hb dX1_nthName_36 (by decide) ?_
        exact ih x1 x2 x3 v33 _ _ hP hS _ (lv_sub hl [1, 2, 3, 4, 0] rfl) hf
      · have hf := it_f c19 hf
        refine lv_iload_n hx hb dX1_nthName_22 rfl (lv_at hl 3 rfl) ?_
        refine lv_iload_n hx hb dX1_nthName_23 rfl (lv_at hl 2 rfl) ?_
        refine lv_icmp_ne (tgt := 30) hx hb dX1_nthName_24 (by decide) (fun c24 => ?_) (fun c24 => ?_)
        · have hf := it_f c24 hf
          obtain ⟨v30, ev30, hf⟩ := slet_e hf
          refine lv_iinc (v := v30) (lv' := [(3, .int v30), (0, .ref a0), (1, .int x1), (2, .int x2), (4, .int x4)]) hx hb dX1_nthName_30 hl (k := 3) rfl (by rw [ev30]; rfl) (by decide) rfl (fun ls hl => ?_)
          obtain ⟨v33, ev33, hf⟩ := slet_e hf
          refine lv_iinc (v := v33) (lv' := [(4, .int v33), (3, .int v30), (0, .ref a0), (1, .int x1), (2, .int x2)]) hx hb dX1_nthName_33 hl (k := 4) rfl (by rw [ev33]; rfl) (by decide) rfl (fun ls hl => ?_)
          refine lv_goto (tgt := 5) hx hb dX1_nthName_36 (by decide) ?_
          exact ih x1 x2 v30 v33 _ _ hP hS _ (lv_sub hl [2, 3, 4, 1, 0] rfl) hf
        · have hf := it_t c24 hf
          refine lv_iload hx hb dX1_nthName_27 (lv_at hl 4 rfl) ?_
          cases hf
          exact retI hx hb hr hlocks trivial hS dX1_nthName_29
set_option maxHeartbeats 4000000 in
set_option maxRecDepth 100000 in
theorem cX1_nthName_met (l : Launch) (dC : Nat → ClassId) (dI : Nat → Nat → Nat) (cI : ClassId) (a0 a1 a2 a3 a4 a5 a6 : Nat) (akd : Nat → Int32) (asz : Nat → Int32) (alk : Nat → Int32) (ahm : Nat → Int32) (atg : Nat → Int32) (avl : Nat → Int32) (x1 : Int32) (x2 : Int32) (r : Int32) (hf : fX1_nthName x1 x2 atg = some r) : Met l yX1_nthName wsX1_nthName ({ frames := 1, cells := 0, slots := 0, locals := 22 } : Room) (pcR [.ref a0, .int x1, .int x2] (dC, dI) vwCl [(cI, .int)] (wX1 cI a0 a1 a2 a3 a4 a5 a6 akd asz alk ahm atg avl)) (qI r pT aN) 0 0 aN := by
  refine Met.ofW (cc := cX1_nthName) (maxL := 5) (ret := (some .int)) (by decide) rfl ?_
  intro p e s m args below meth c s₁ B hml hv
  obtain ⟨rfl, hP, hK⟩ := hv
  have hx := B.exec
  have hb := B.bytes
  have hr := B.returns
  have hts := atoms_spec (ws := wsX1_nthName) B.pre
  have hown : s.vm.findClass RX1 = some m.cls := findClass_of_methodNamed B.named
  have hlocks := B.notSynchronized
  have hS : va_S aN s.heap s.heap [] := va_S.rf
  have hl := lv_entry ([.ref a0, .int x1, .int x2]) (n := 5) (Nat.le_of_ble_eq_true rfl)
  rw [lg_entry_eq]
  generalize (lg_sl ([.ref a0, .int x1, .int x2]) ++ List.replicate (5 - (lg_sl ([.ref a0, .int x1, .int x2])).length) Slot.unset).toArray = ls at hl ⊢
  have hl : lv_has ls 5 [(0, .ref a0), (1, .int x1), (2, .int x2)] := hl
  unfold fX1_nthName at hf
  refine lv_iconst (v := 0) hx hb dX1_nthName_0 (by decide) ?_
  refine lv_istore_n (lv' := [(3, .int 0), (0, .ref a0), (1, .int x1), (2, .int x2)]) hx hb dX1_nthName_1 rfl hl (by decide) rfl (fun ls hl => ?_)
  refine lv_iconst (v := 0) hx hb dX1_nthName_2 (by decide) ?_
  refine lv_istore (lv' := [(4, .int 0), (3, .int 0), (0, .ref a0), (1, .int x1), (2, .int x2)]) hx hb dX1_nthName_3 hl (by decide) rfl (fun ls hl => ?_)
  exact wbX1_nthName_5 hx hb hml hown hts hr hlocks hK a0 a1 a2 a3 a4 a5 a6 akd asz alk ahm atg avl r 2000 x1 x2 0 0 _ _ hP hS _ (lv_sub hl [2, 3, 4, 1, 0] rfl) hf
set_option maxHeartbeats 4000000 in
set_option maxRecDepth 100000 in
theorem cX1_value_met (l : Launch) (dC : Nat → ClassId) (dI : Nat → Nat → Nat) (cI : ClassId) (a0 a1 a2 a3 a4 a5 a6 : Nat) (akd : Nat → Int32) (asz : Nat → Int32) (alk : Nat → Int32) (ahm : Nat → Int32) (atg : Nat → Int32) (avl : Nat → Int32) (x1 : Int32) (x2 : Int32) (r : Int32) (hf : fX1_value x1 x2 avl = some r) : Met l yX1_value wsX1_value ({ frames := 0, cells := 0, slots := 0, locals := 0 } : Room) (pcR [.ref a0, .int x1, .int x2] (dC, dI) vwCl [(cI, .int)] (wX1 cI a0 a1 a2 a3 a4 a5 a6 akd asz alk ahm atg avl)) (qI r pT aN) 0 0 aN := by
  refine Met.ofW (cc := cX1_value) (maxL := 3) (ret := (some .int)) (by decide) rfl ?_
  intro p e s m args below meth c s₁ B hml hv
  obtain ⟨rfl, hP, hK⟩ := hv
  have hx := B.exec
  have hb := B.bytes
  have hr := B.returns
  have hts := atoms_spec (ws := wsX1_value) B.pre
  have hown : s.vm.findClass RX1 = some m.cls := findClass_of_methodNamed B.named
  have hlocks := B.notSynchronized
  have hS : va_S aN s.heap s.heap [] := va_S.rf
  have hl := lv_entry ([.ref a0, .int x1, .int x2]) (n := 3) (Nat.le_of_ble_eq_true rfl)
  rw [lg_entry_eq]
  generalize (lg_sl ([.ref a0, .int x1, .int x2]) ++ List.replicate (3 - (lg_sl ([.ref a0, .int x1, .int x2])).length) Slot.unset).toArray = ls at hl ⊢
  have hl : lv_has ls 3 [(0, .ref a0), (1, .int x1), (2, .int x2)] := hl
  unfold fX1_value at hf
  refine lv_aload_n hx hb dX1_value_0 rfl (lv_at hl 0 rfl) ?_
  refine va_get (D := (dC, dI)) (ci := 1) (v := .ref a6) (C := RX1) (T := TX1) (N := 6) hx hb hts (fun w h => mc (inX1 w h)) hown hK hP 0 rfl rfl 5 (by decide) (hts _ (mc q_32)) (fun _ h9 => h9) rfl dX1_value_1 ?_
  refine lv_iload_n hx hb dX1_value_4 rfl (lv_at hl 1 rfl) ?_
  refine lv_bipush (v := 8) hx hb dX1_value_5 (by decide) ?_
  obtain ⟨v7, ev7, hf⟩ := slet_e hf
  refine lv_imul hx hb dX1_value_7 ?_
  refine rw_nm ev7 ?_
  refine lv_iload_n hx hb dX1_value_8 rfl (lv_at hl 2 rfl) ?_
  obtain ⟨v9, ev9, hf⟩ := slet_e hf
  refine lv_iadd hx hb dX1_value_9 ?_
  refine rw_nm ev9 ?_
  obtain ⟨hiv10, v10, ev10, hf⟩ := ard_e hf
  refine rw_ald hx hb hK hP 6 0 rfl rfl hiv10 ev10 dX1_value_10 ?_
  cases hf
  exact retI hx hb hr hlocks trivial hS dX1_value_11
set_option maxHeartbeats 4000000 in
set_option maxRecDepth 100000 in
theorem cX1_kind_met (l : Launch) (dC : Nat → ClassId) (dI : Nat → Nat → Nat) (cI : ClassId) (a0 a1 a2 a3 a4 a5 a6 : Nat) (akd : Nat → Int32) (asz : Nat → Int32) (alk : Nat → Int32) (ahm : Nat → Int32) (atg : Nat → Int32) (avl : Nat → Int32) (x1 : Int32) (r : Int32) (hf : fX1_kind x1 akd = some r) : Met l yX1_kind wsX1_kind ({ frames := 0, cells := 0, slots := 0, locals := 0 } : Room) (pcR [.ref a0, .int x1] (dC, dI) vwCl [(cI, .int)] (wX1 cI a0 a1 a2 a3 a4 a5 a6 akd asz alk ahm atg avl)) (qI r pT aN) 0 0 aN := by
  refine Met.ofW (cc := cX1_kind) (maxL := 2) (ret := (some .int)) (by decide) rfl ?_
  intro p e s m args below meth c s₁ B hml hv
  obtain ⟨rfl, hP, hK⟩ := hv
  have hx := B.exec
  have hb := B.bytes
  have hr := B.returns
  have hts := atoms_spec (ws := wsX1_kind) B.pre
  have hown : s.vm.findClass RX1 = some m.cls := findClass_of_methodNamed B.named
  have hlocks := B.notSynchronized
  have hS : va_S aN s.heap s.heap [] := va_S.rf
  have hl := lv_entry ([.ref a0, .int x1]) (n := 2) (Nat.le_of_ble_eq_true rfl)
  rw [lg_entry_eq]
  generalize (lg_sl ([.ref a0, .int x1]) ++ List.replicate (2 - (lg_sl ([.ref a0, .int x1])).length) Slot.unset).toArray = ls at hl ⊢
  have hl : lv_has ls 2 [(0, .ref a0), (1, .int x1)] := hl
  unfold fX1_kind at hf
  refine lv_aload_n hx hb dX1_kind_0 rfl (lv_at hl 0 rfl) ?_
  refine va_get (D := (dC, dI)) (ci := 1) (v := .ref a1) (C := RX1) (T := TX1) (N := 6) hx hb hts (fun w h => mc (inX1 w h)) hown hK hP 0 rfl rfl 0 (by decide) (hts _ (mc q_27)) (fun _ h9 => h9) rfl dX1_kind_1 ?_
  refine lv_iload_n hx hb dX1_kind_4 rfl (lv_at hl 1 rfl) ?_
  obtain ⟨hiv5, v5, ev5, hf⟩ := ard_e hf
  refine rw_ald hx hb hK hP 1 0 rfl rfl hiv5 ev5 dX1_kind_5 ?_
  cases hf
  exact retI hx hb hr hlocks trivial hS dX1_kind_6
set_option maxHeartbeats 4000000 in
set_option maxRecDepth 100000 in
theorem wbX1_nodesThere_4 {p : Program} {l : Launch} {e : Env} {s : State} {m : MethodId} {args : Array Value} {below : List Frame} {meth : Method} {c : Code} {dC : Nat → ClassId} {dI : Nat → Nat → Nat} {cI : ClassId} (hx : p.tables.exec = Jvm.exec) (hb : c.code = cX1_nodesThere) (hml : c.maxLocals = 3) (hown : s.vm.findClass RX1 = some m.cls) (hts : ∀ w ∈ wsX1_nodesThere, w.before args s = true) (hr : meth.sig.returnType = (some .int)) (hlocks : meth.locks = false) (hK : va_K (dC, dI) vwCl [(cI, .int)] s) (a0 a1 a2 a3 a4 a5 a6 : Nat) (akd : Nat → Int32) (asz : Nat → Int32) (alk : Nat → Int32) (ahm : Nat → Int32) (atg : Nat → Int32) (avl : Nat → Int32) (r : Int32) : ∀ (n : Nat), ∀ (x1 : Int32) (x2 : Int32) (H : Heap) (locs : List Loc), va_P (dC, dI) vwCl (wX1 cI a0 a1 a2 a3 a4 a5 a6 akd asz alk ahm atg avl) H → va_S aN s.heap H locs → ∀ (ls : Array Slot), lv_has ls 3 [(0, .ref a0), (1, .int x1), (2, .int x2)] → fX1_nodesThere_b4 akd n x1 x2 = some r → W p l e ({ frames := 0, cells := 0, slots := 0, locals := 0 } : Room) s m args below meth c H locs 0 0 (MQ below (qI r pT aN) args s 0 0 aN) (F0 m 4 ls []) := by
  intro n
  induction n with
  | zero =>
    intro x1 x2 H locs hP hS ls hl hf
    cases hf
  | succ n ih =>
    intro x1 x2 H locs hP hS ls hl hf
    rw [fX1_nodesThere_b4] at hf
    refine lv_iload_n hx hb dX1_nodesThere_4 rfl (lv_at hl 2 rfl) ?_
    refine lv_bipush (v := 16) hx hb dX1_nodesThere_5 (by decide) ?_
    refine lv_icmp_ge (tgt := 28) hx hb dX1_nodesThere_7 (by decide) (fun c7 => ?_) (fun c7 => ?_)
    · have hf := it_t c7 hf
      refine lv_iload_n hx hb dX1_nodesThere_28 rfl (lv_at hl 1 rfl) ?_
      cases hf
      exact retI hx hb hr hlocks trivial hS dX1_nodesThere_29
    · have hf := it_f c7 hf
      refine lv_aload_n hx hb dX1_nodesThere_10 rfl (lv_at hl 0 rfl) ?_
      refine va_get (D := (dC, dI)) (ci := 1) (v := .ref a1) (C := RX1) (T := TX1) (N := 6) hx hb hts (fun w h => mc (inX1 w h)) hown hK hP 0 rfl rfl 0 (by decide) (hts _ (mc q_27)) (fun _ h9 => h9) rfl dX1_nodesThere_11 ?_
      refine lv_iload_n hx hb dX1_nodesThere_14 rfl (lv_at hl 2 rfl) ?_
      obtain ⟨hiv15, v15, ev15, hf⟩ := ard_e hf
      refine rw_ald hx hb hK hP 1 0 rfl rfl hiv15 ev15 dX1_nodesThere_15 ?_
      refine lv_if_eq (tgt := 22) hx hb dX1_nodesThere_16 (by decide) (fun c16 => ?_) (fun c16 => ?_)
      · have hf := it_t c16 hf
        obtain ⟨v22, ev22, hf⟩ := slet_e hf
        refine lv_iinc (v := v22) (lv' := [(2, .int v22), (0, .ref a0), (1, .int x1)]) hx hb dX1_nodesThere_22 hl (k := 2) rfl (by rw [ev22]; rfl) (by decide) rfl (fun ls hl => ?_)
        refine lv_goto (tgt := 4) hx hb dX1_nodesThere_25 (by decide) ?_
        exact ih x1 v22 _ _ hP hS _ (lv_sub hl [1, 2, 0] rfl) hf
      · have hf := it_f c16 hf
        obtain ⟨v19, ev19, hf⟩ := slet_e hf
        refine lv_iinc (v := v19) (lv' := [(1, .int v19), (0, .ref a0), (2, .int x2)]) hx hb dX1_nodesThere_19 hl (k := 1) rfl (by rw [ev19]; rfl) (by decide) rfl (fun ls hl => ?_)
        obtain ⟨v22, ev22, hf⟩ := slet_e hf
        refine lv_iinc (v := v22) (lv' := [(2, .int v22), (1, .int v19), (0, .ref a0)]) hx hb dX1_nodesThere_22 hl (k := 2) rfl (by rw [ev22]; rfl) (by decide) rfl (fun ls hl => ?_)
        refine lv_goto (tgt := 4) hx hb dX1_nodesThere_25 (by decide) ?_
        exact ih v19 v22 _ _ hP hS _ (lv_sub hl [2, 1, 0] rfl) hf
set_option maxHeartbeats 4000000 in
set_option maxRecDepth 100000 in
theorem cX1_nodesThere_met (l : Launch) (dC : Nat → ClassId) (dI : Nat → Nat → Nat) (cI : ClassId) (a0 a1 a2 a3 a4 a5 a6 : Nat) (akd : Nat → Int32) (asz : Nat → Int32) (alk : Nat → Int32) (ahm : Nat → Int32) (atg : Nat → Int32) (avl : Nat → Int32) (r : Int32) (hf : fX1_nodesThere akd = some r) : Met l yX1_nodesThere wsX1_nodesThere ({ frames := 0, cells := 0, slots := 0, locals := 0 } : Room) (pcR [.ref a0] (dC, dI) vwCl [(cI, .int)] (wX1 cI a0 a1 a2 a3 a4 a5 a6 akd asz alk ahm atg avl)) (qI r pT aN) 0 0 aN := by
  refine Met.ofW (cc := cX1_nodesThere) (maxL := 3) (ret := (some .int)) (by decide) rfl ?_
  intro p e s m args below meth c s₁ B hml hv
  obtain ⟨rfl, hP, hK⟩ := hv
  have hx := B.exec
  have hb := B.bytes
  have hr := B.returns
  have hts := atoms_spec (ws := wsX1_nodesThere) B.pre
  have hown : s.vm.findClass RX1 = some m.cls := findClass_of_methodNamed B.named
  have hlocks := B.notSynchronized
  have hS : va_S aN s.heap s.heap [] := va_S.rf
  have hl := lv_entry ([.ref a0]) (n := 3) (Nat.le_of_ble_eq_true rfl)
  rw [lg_entry_eq]
  generalize (lg_sl ([.ref a0]) ++ List.replicate (3 - (lg_sl ([.ref a0])).length) Slot.unset).toArray = ls at hl ⊢
  have hl : lv_has ls 3 [(0, .ref a0)] := hl
  unfold fX1_nodesThere at hf
  refine lv_iconst (v := 0) hx hb dX1_nodesThere_0 (by decide) ?_
  refine lv_istore_n (lv' := [(1, .int 0), (0, .ref a0)]) hx hb dX1_nodesThere_1 rfl hl (by decide) rfl (fun ls hl => ?_)
  refine lv_iconst (v := 0) hx hb dX1_nodesThere_2 (by decide) ?_
  refine lv_istore_n (lv' := [(2, .int 0), (1, .int 0), (0, .ref a0)]) hx hb dX1_nodesThere_3 rfl hl (by decide) rfl (fun ls hl => ?_)
  exact wbX1_nodesThere_4 hx hb hml hown hts hr hlocks hK a0 a1 a2 a3 a4 a5 a6 akd asz alk ahm atg avl r 2000 0 0 _ _ hP hS _ (lv_sub hl [2, 1, 0] rfl) hf
end
section
set_option maxHeartbeats 4000000 in
set_option maxRecDepth 100000 in
theorem cX2_isNode_met (l : Launch) (dC : Nat → ClassId) (dI : Nat → Nat → Nat) (cI : ClassId) (x0 : Int32) (r : Int32) (hf : fX2_isNode x0 = some r) : Met l yX2_isNode wsX2_isNode ({ frames := 0, cells := 0, slots := 0, locals := 0 } : Room) (pcR [.int x0] (dC, dI) vwCl [(cI, .int)] []) (qI r pT aN) 0 0 aN := by
  refine Met.ofW (cc := cX2_isNode) (maxL := 1) (ret := (some .boolean)) (by decide) rfl ?_
  intro p e s m args below meth c s₁ B hml hv
  obtain ⟨rfl, hP, hK⟩ := hv
  have hx := B.exec
  have hb := B.bytes
  have hr := B.returns
  have hts := atoms_spec (ws := wsX2_isNode) B.pre
  have hown : s.vm.findClass RX2 = some m.cls := findClass_of_methodNamed B.named
  have hlocks := B.notSynchronized
  have hS : va_S aN s.heap s.heap [] := va_S.rf
  have hl := lv_entry ([.int x0]) (n := 1) (Nat.le_of_ble_eq_true rfl)
  rw [lg_entry_eq]
  generalize (lg_sl ([.int x0]) ++ List.replicate (1 - (lg_sl ([.int x0])).length) Slot.unset).toArray = ls at hl ⊢
  have hl : lv_has ls 1 [(0, .int x0)] := hl
  unfold fX2_isNode at hf
  refine lv_iload_n hx hb dX2_isNode_0 rfl (lv_at hl 0 rfl) ?_
  refine lv_if_lt (tgt := 14) hx hb dX2_isNode_1 (by decide) (fun c1 => ?_) (fun c1 => ?_)
  · have hf := it_t c1 hf
    refine lv_iconst (v := 0) hx hb dX2_isNode_14 (by decide) ?_
    cases hf
    exact retZ hx hb hr hlocks (by decide) trivial hS dX2_isNode_15
  · have hf := it_f c1 hf
    refine lv_iload_n hx hb dX2_isNode_4 rfl (lv_at hl 0 rfl) ?_
    refine lv_bipush (v := 16) hx hb dX2_isNode_5 (by decide) ?_
    refine lv_icmp_ge (tgt := 14) hx hb dX2_isNode_7 (by decide) (fun c7 => ?_) (fun c7 => ?_)
    · have hf := it_t c7 hf
      refine lv_iconst (v := 0) hx hb dX2_isNode_14 (by decide) ?_
      cases hf
      exact retZ hx hb hr hlocks (by decide) trivial hS dX2_isNode_15
    · have hf := it_f c7 hf
      refine lv_iconst (v := 1) hx hb dX2_isNode_10 (by decide) ?_
      refine lv_goto (tgt := 15) hx hb dX2_isNode_11 (by decide) ?_
      cases hf
      exact retZ hx hb hr hlocks (by decide) trivial hS dX2_isNode_15
set_option maxHeartbeats 4000000 in
set_option maxRecDepth 100000 in
theorem cX2_isName_met (l : Launch) (dC : Nat → ClassId) (dI : Nat → Nat → Nat) (cI : ClassId) (x0 : Int32) (r : Int32) (hf : fX2_isName x0 = some r) : Met l yX2_isName wsX2_isName ({ frames := 0, cells := 0, slots := 0, locals := 0 } : Room) (pcR [.int x0] (dC, dI) vwCl [(cI, .int)] []) (qI r pT aN) 0 0 aN := by
  refine Met.ofW (cc := cX2_isName) (maxL := 1) (ret := (some .boolean)) (by decide) rfl ?_
  intro p e s m args below meth c s₁ B hml hv
  obtain ⟨rfl, hP, hK⟩ := hv
  have hx := B.exec
  have hb := B.bytes
  have hr := B.returns
  have hts := atoms_spec (ws := wsX2_isName) B.pre
  have hown : s.vm.findClass RX2 = some m.cls := findClass_of_methodNamed B.named
  have hlocks := B.notSynchronized
  have hS : va_S aN s.heap s.heap [] := va_S.rf
  have hl := lv_entry ([.int x0]) (n := 1) (Nat.le_of_ble_eq_true rfl)
  rw [lg_entry_eq]
  generalize (lg_sl ([.int x0]) ++ List.replicate (1 - (lg_sl ([.int x0])).length) Slot.unset).toArray = ls at hl ⊢
  have hl : lv_has ls 1 [(0, .int x0)] := hl
  unfold fX2_isName at hf
  refine lv_iload_n hx hb dX2_isName_0 rfl (lv_at hl 0 rfl) ?_
  refine lv_if_lt (tgt := 14) hx hb dX2_isName_1 (by decide) (fun c1 => ?_) (fun c1 => ?_)
  · have hf := it_t c1 hf
    refine lv_iconst (v := 0) hx hb dX2_isName_14 (by decide) ?_
    cases hf
    exact retZ hx hb hr hlocks (by decide) trivial hS dX2_isName_15
  · have hf := it_f c1 hf
    refine lv_iload_n hx hb dX2_isName_4 rfl (lv_at hl 0 rfl) ?_
    refine lv_bipush (v := 32) hx hb dX2_isName_5 (by decide) ?_
    refine lv_icmp_ge (tgt := 14) hx hb dX2_isName_7 (by decide) (fun c7 => ?_) (fun c7 => ?_)
    · have hf := it_t c7 hf
      refine lv_iconst (v := 0) hx hb dX2_isName_14 (by decide) ?_
      cases hf
      exact retZ hx hb hr hlocks (by decide) trivial hS dX2_isName_15
    · have hf := it_f c7 hf
      refine lv_iconst (v := 1) hx hb dX2_isName_10 (by decide) ?_
      refine lv_goto (tgt := 15) hx hb dX2_isName_11 (by decide) ?_
      cases hf
      exact retZ hx hb hr hlocks (by decide) trivial hS dX2_isName_15
set_option maxHeartbeats 4000000 in
set_option maxRecDepth 100000 in
theorem cX2_costOf_met (l : Launch) (dC : Nat → ClassId) (dI : Nat → Nat → Nat) (cI : ClassId) (x0 : Int32) (x1 : Int32) (r : Int32) (hf : fX2_costOf x0 x1 = some r) : Met l yX2_costOf wsX2_costOf ({ frames := 0, cells := 0, slots := 0, locals := 0 } : Room) (pcR [.int x0, .int x1] (dC, dI) vwCl [(cI, .int)] []) (qI r pT aN) 0 0 aN := by
  refine Met.ofW (cc := cX2_costOf) (maxL := 2) (ret := (some .int)) (by decide) rfl ?_
  intro p e s m args below meth c s₁ B hml hv
  obtain ⟨rfl, hP, hK⟩ := hv
  have hx := B.exec
  have hb := B.bytes
  have hr := B.returns
  have hts := atoms_spec (ws := wsX2_costOf) B.pre
  have hown : s.vm.findClass RX2 = some m.cls := findClass_of_methodNamed B.named
  have hlocks := B.notSynchronized
  have hS : va_S aN s.heap s.heap [] := va_S.rf
  have hl := lv_entry ([.int x0, .int x1]) (n := 2) (Nat.le_of_ble_eq_true rfl)
  rw [lg_entry_eq]
  generalize (lg_sl ([.int x0, .int x1]) ++ List.replicate (2 - (lg_sl ([.int x0, .int x1])).length) Slot.unset).toArray = ls at hl ⊢
  have hl : lv_has ls 2 [(0, .int x0), (1, .int x1)] := hl
  unfold fX2_costOf at hf
  refine lv_iconst (v := 1) hx hb dX2_costOf_0 (by decide) ?_
  refine lv_iload_n hx hb dX2_costOf_1 rfl (lv_at hl 0 rfl) ?_
  obtain ⟨v2, ev2, hf⟩ := slet_e hf
  refine lv_iadd hx hb dX2_costOf_2 ?_
  refine rw_nm ev2 ?_
  refine lv_iload_n hx hb dX2_costOf_3 rfl (lv_at hl 1 rfl) ?_
  obtain ⟨v4, ev4, hf⟩ := slet_e hf
  refine lv_iadd hx hb dX2_costOf_4 ?_
  refine rw_nm ev4 ?_
  cases hf
  exact retI hx hb hr hlocks trivial hS dX2_costOf_5
theorem gX2_startAfresh_127 : GoodIn wsX2_startAfresh (wsV RX2 127 RX0 yX0_clear wsX0_clear) := gIn (memV q_105 q_106 q_107 q_4 q_108)
theorem gX2_startAfresh_39 : GoodIn wsX2_startAfresh (wsV RX2 39 RX1 yX1_live wsX1_live) := gIn (memV q_42 q_43 q_44 q_3 q_45)
set_option maxHeartbeats 4000000 in
set_option maxRecDepth 100000 in
theorem cX2_startAfresh_met (l : Launch) (dC : Nat → ClassId) (dI : Nat → Nat → Nat) (cI : ClassId) (h0 ht0 ht1 ht2 ht3 ht4 ht5 ht6 hu0 hu1 hu2 hu3 hu4 hu5 hu6 hg0 hg1 : Nat) (hlim : Int32) (hkpt : Int32) (hsyn : Int32) (htkd : Nat → Int32) (htsz : Nat → Int32) (htlk : Nat → Int32) (hthm : Nat → Int32) (httg : Nat → Int32) (htvl : Nat → Int32) (hukd : Nat → Int32) (husz : Nat → Int32) (hulk : Nat → Int32) (huhm : Nat → Int32) (hutg : Nat → Int32) (huvl : Nat → Int32) (hgln : Int32) (hgrw : Nat → Int32) (hkpt_o : Int32) (hgln_o : Int32) (hf : fX2_startAfresh htkd htsz hkpt hgln = some (hkpt_o, hgln_o)) : Met l yX2_startAfresh wsX2_startAfresh ({ frames := 3, cells := 0, slots := 0, locals := 64 } : Room) (pcW [.ref h0] (dC, dI) vwCl [(cI, .int)] (wX2 cI h0 ht0 ht1 ht2 ht3 ht4 ht5 ht6 hu0 hu1 hu2 hu3 hu4 hu5 hu6 hg0 hg1 hlim hkpt hsyn htkd htsz htlk hthm httg htvl hukd husz hulk huhm hutg huvl hgln hgrw)) (qV (va_P (dC, dI) vwCl (wX2 cI h0 ht0 ht1 ht2 ht3 ht4 ht5 ht6 hu0 hu1 hu2 hu3 hu4 hu5 hu6 hg0 hg1 hlim hkpt_o hsyn htkd htsz htlk hthm httg htvl hukd husz hulk huhm hutg huvl hgln_o hgrw)) (inA [h0, ht0, ht1, ht2, ht3, ht4, ht5, ht6, hu0, hu1, hu2, hu3, hu4, hu5, hu6, hg0, hg1])) 0 0 (inA [h0, ht0, ht1, ht2, ht3, ht4, ht5, ht6, hu0, hu1, hu2, hu3, hu4, hu5, hu6, hg0, hg1]) := by
  refine Met.ofW (cc := cX2_startAfresh) (maxL := 1) (ret := none) (by decide) rfl ?_
  intro p e s m args below meth c s₁ B hml hv
  obtain ⟨rfl, hP, hK, hD0⟩ := hv
  have hx := B.exec
  have hb := B.bytes
  have hr := B.returns
  have hts := atoms_spec (ws := wsX2_startAfresh) B.pre
  have hown : s.vm.findClass RX2 = some m.cls := findClass_of_methodNamed B.named
  have hlocks := B.notSynchronized
  have hD := my_self (as := [h0, ht0, ht1, ht2, ht3, ht4, ht5, ht6, hu0, hu1, hu2, hu3, hu4, hu5, hu6, hg0, hg1]) hD0 rfl
  have hS : va_S (inA [h0, ht0, ht1, ht2, ht3, ht4, ht5, ht6, hu0, hu1, hu2, hu3, hu4, hu5, hu6, hg0, hg1]) s.heap s.heap [] := va_S.rf
  have hl := lv_entry ([.ref h0]) (n := 1) (Nat.le_of_ble_eq_true rfl)
  rw [lg_entry_eq]
  generalize (lg_sl ([.ref h0]) ++ List.replicate (1 - (lg_sl ([.ref h0])).length) Slot.unset).toArray = ls at hl ⊢
  have hl : lv_has ls 1 [(0, .ref h0)] := hl
  unfold fX2_startAfresh at hf
  refine lv_aload_n hx hb dX2_startAfresh_0 rfl (lv_at hl 0 rfl) ?_
  refine va_get (D := (dC, dI)) (ci := 2) (v := .ref hg0) (C := RX2) (T := TX2) (N := 6) hx hb hts (fun w h => mc (inX2 w h)) hown hK hP 0 rfl rfl 3 (by decide) (hts _ (mc q_57)) (fun _ h9 => h9) rfl dX2_startAfresh_1 ?_
  obtain ⟨hgln_4, hc4, hf⟩ := bn1_e hf
  refine callWv (wc := (wX0 cI hg0 hg1 hgln hgrw)) (w1 := (wX0 cI hg0 hg1 hgln_4 hgrw)) (ws' := (wX2 cI h0 ht0 ht1 ht2 ht3 ht4 ht5 ht6 hu0 hu1 hu2 hu3 hu4 hu5 hu6 hg0 hg1 hlim hkpt hsyn htkd htsz htlk hthm httg htvl hukd husz hulk huhm hutg huvl hgln_4 hgrw)) (va_runV (As := []) (rest := []) ⟨hx, hb, hml, hown, hts⟩ (cX0_clear_met l dC dI cI hg0 hg1 hgln hgrw hgln_4 hc4) (cwV 0 hts gX2_startAfresh_127 rfl rfl rfl (by decide +kernel) ⟨Nat.le_of_ble_eq_true rfl, Nat.le_of_ble_eq_true rfl⟩) (preWV (ci := 0) (q0 := 0) hK (hP.sub (ws' := (wX0 cI hg0 hg1 hgln hgrw)) [15, 16] rfl) (hD.sub (ws' := (wX0 cI hg0 hg1 hgln hgrw)) [15, 16] (by decide) rfl) rfl rfl) rfl rfl hl.1 rfl (lv_room (Nat.le_of_ble_eq_true rfl)) dX2_startAfresh_4 ⟨Nat.le_of_ble_eq_true rfl, Nat.le_of_ble_eq_true rfl⟩) hS hP hD [15, 16] rfl rfl rfl rfl rfl (fun H locs hP hD hS => ?_)
  refine lv_aload_n hx hb dX2_startAfresh_7 rfl (lv_at hl 0 rfl) ?_
  refine lv_aload_n hx hb dX2_startAfresh_8 rfl (lv_at hl 0 rfl) ?_
  refine va_get (D := (dC, dI)) (ci := 2) (v := .ref ht0) (C := RX2) (T := TX2) (N := 6) hx hb hts (fun w h => mc (inX2 w h)) hown hK hP 0 rfl rfl 1 (by decide) (hts _ (mc q_55)) (fun _ h9 => h9) rfl dX2_startAfresh_9 ?_
  obtain ⟨r12, hc12, hf⟩ := bn1_e hf
  refine callRi (va_runV (As := []) (rest := [.ref h0]) ⟨hx, hb, hml, hown, hts⟩ (cX1_live_met l dC dI cI ht0 ht1 ht2 ht3 ht4 ht5 ht6 htkd htsz htlk hthm httg htvl r12 hc12) (cwV 0 hts gX2_startAfresh_39 rfl rfl rfl (by decide +kernel) ⟨Nat.le_of_ble_eq_true rfl, Nat.le_of_ble_eq_true rfl⟩) (preRV (ci := 1) (q0 := 0) hK (hP.sub (ws' := (wX1 cI ht0 ht1 ht2 ht3 ht4 ht5 ht6 htkd htsz htlk hthm httg htvl)) [1, 2, 3, 4, 5, 6, 7] rfl) rfl rfl) rfl rfl hl.1 rfl (lv_room (Nat.le_of_ble_eq_true rfl)) dX2_startAfresh_12 ⟨Nat.le_of_ble_eq_true rfl, Nat.le_of_ble_eq_true rfl⟩) hS hP (fun H locs hP hS => ?_)
  refine rw_put (D := (dC, dI)) (ci := 2) (v := .int r12) (ty := .int) (C := RX2) (T := TX2) (N := 6) (ws' := (wX2 cI h0 ht0 ht1 ht2 ht3 ht4 ht5 ht6 hu0 hu1 hu2 hu3 hu4 hu5 hu6 hg0 hg1 hlim r12 hsyn htkd htsz htlk hthm httg htvl hukd husz hulk huhm hutg huvl hgln_4 hgrw)) hx hb hts (fun w h => mc (inX2 w h)) tyX2 tyX2_ok nmX2 hown hK hP hD hS 0 rfl rfl 4 (by decide) (hts _ (mc q_58)) (fun _ h9 => h9) rfl (by decide +kernel) rfl rfl (Nat.le_of_ble_eq_true rfl) rfl dX2_startAfresh_15 (fun H locs hP hD hS => ?_)
  cases hf
  exact retV hx hb hr hlocks hP hS dX2_startAfresh_18
end
section
theorem gX2_countedSync_102 : GoodIn wsX2_countedSync (wsV RX2 102 RX1 yX1_copyFrom wsX1_copyFrom) := gIn (memV q_95 q_96 q_97 q_3 q_98)
theorem gX2_countedSync_106 : GoodIn wsX2_countedSync (wsV RX2 106 RX2 yX2_startAfresh wsX2_startAfresh) := gIn (memV q_102 q_103 q_346 q_1 q_104)
set_option maxHeartbeats 4000000 in
set_option maxRecDepth 100000 in
theorem cX2_countedSync_met (l : Launch) (dC : Nat → ClassId) (dI : Nat → Nat → Nat) (cI : ClassId) (h0 ht0 ht1 ht2 ht3 ht4 ht5 ht6 hu0 hu1 hu2 hu3 hu4 hu5 hu6 hg0 hg1 : Nat) (hlim : Int32) (hkpt : Int32) (hsyn : Int32) (htkd : Nat → Int32) (htsz : Nat → Int32) (htlk : Nat → Int32) (hthm : Nat → Int32) (httg : Nat → Int32) (htvl : Nat → Int32) (hukd : Nat → Int32) (husz : Nat → Int32) (hulk : Nat → Int32) (huhm : Nat → Int32) (hutg : Nat → Int32) (huvl : Nat → Int32) (hgln : Int32) (hgrw : Nat → Int32) (hkpt_o : Int32) (hsyn_o : Int32) (hukd_o : Nat → Int32) (husz_o : Nat → Int32) (hulk_o : Nat → Int32) (huhm_o : Nat → Int32) (hutg_o : Nat → Int32) (huvl_o : Nat → Int32) (hgln_o : Int32) (hf : fX2_countedSync htkd htsz htlk hthm httg htvl hkpt hsyn hukd husz hulk huhm hutg huvl hgln = some (hkpt_o, hsyn_o, hukd_o, husz_o, hulk_o, huhm_o, hutg_o, huvl_o, hgln_o)) : Met l yX2_countedSync wsX2_countedSync ({ frames := 4, cells := 0, slots := 0, locals := 84 } : Room) (pcW [.ref h0] (dC, dI) vwCl [(cI, .int)] (wX2 cI h0 ht0 ht1 ht2 ht3 ht4 ht5 ht6 hu0 hu1 hu2 hu3 hu4 hu5 hu6 hg0 hg1 hlim hkpt hsyn htkd htsz htlk hthm httg htvl hukd husz hulk huhm hutg huvl hgln hgrw)) (qV (va_P (dC, dI) vwCl (wX2 cI h0 ht0 ht1 ht2 ht3 ht4 ht5 ht6 hu0 hu1 hu2 hu3 hu4 hu5 hu6 hg0 hg1 hlim hkpt_o hsyn_o htkd htsz htlk hthm httg htvl hukd_o husz_o hulk_o huhm_o hutg_o huvl_o hgln_o hgrw)) (inA [h0, ht0, ht1, ht2, ht3, ht4, ht5, ht6, hu0, hu1, hu2, hu3, hu4, hu5, hu6, hg0, hg1])) 0 0 (inA [h0, ht0, ht1, ht2, ht3, ht4, ht5, ht6, hu0, hu1, hu2, hu3, hu4, hu5, hu6, hg0, hg1]) := by
  refine Met.ofW (cc := cX2_countedSync) (maxL := 1) (ret := none) (by decide) rfl ?_
  intro p e s m args below meth c s₁ B hml hv
  obtain ⟨rfl, hP, hK, hD0⟩ := hv
  have hx := B.exec
  have hb := B.bytes
  have hr := B.returns
  have hts := atoms_spec (ws := wsX2_countedSync) B.pre
  have hown : s.vm.findClass RX2 = some m.cls := findClass_of_methodNamed B.named
  have hlocks := B.notSynchronized
  have hD := my_self (as := [h0, ht0, ht1, ht2, ht3, ht4, ht5, ht6, hu0, hu1, hu2, hu3, hu4, hu5, hu6, hg0, hg1]) hD0 rfl
  have hS : va_S (inA [h0, ht0, ht1, ht2, ht3, ht4, ht5, ht6, hu0, hu1, hu2, hu3, hu4, hu5, hu6, hg0, hg1]) s.heap s.heap [] := va_S.rf
  have hl := lv_entry ([.ref h0]) (n := 1) (Nat.le_of_ble_eq_true rfl)
  rw [lg_entry_eq]
  generalize (lg_sl ([.ref h0]) ++ List.replicate (1 - (lg_sl ([.ref h0])).length) Slot.unset).toArray = ls at hl ⊢
  have hl : lv_has ls 1 [(0, .ref h0)] := hl
  unfold fX2_countedSync at hf
  refine lv_aload_n hx hb dX2_countedSync_0 rfl (lv_at hl 0 rfl) ?_
  refine va_get (D := (dC, dI)) (ci := 2) (v := .ref hu0) (C := RX2) (T := TX2) (N := 6) hx hb hts (fun w h => mc (inX2 w h)) hown hK hP 0 rfl rfl 2 (by decide) (hts _ (mc q_56)) (fun _ h9 => h9) rfl dX2_countedSync_1 ?_
  refine lv_aload_n hx hb dX2_countedSync_4 rfl (lv_at hl 0 rfl) ?_
  refine va_get (D := (dC, dI)) (ci := 2) (v := .ref ht0) (C := RX2) (T := TX2) (N := 6) hx hb hts (fun w h => mc (inX2 w h)) hown hK hP 0 rfl rfl 1 (by decide) (hts _ (mc q_55)) (fun _ h9 => h9) rfl dX2_countedSync_5 ?_
  obtain ⟨hukd_8, husz_8, hulk_8, huhm_8, hutg_8, huvl_8, hc8, hf⟩ := bn6_e hf
  refine callWv (wc := (wX1X1b cI hu0 hu1 hu2 hu3 hu4 hu5 hu6 ht0 ht1 ht2 ht3 ht4 ht5 ht6 hukd husz hulk huhm hutg huvl htkd htsz htlk hthm httg htvl)) (w1 := (wX1X1b cI hu0 hu1 hu2 hu3 hu4 hu5 hu6 ht0 ht1 ht2 ht3 ht4 ht5 ht6 hukd_8 husz_8 hulk_8 huhm_8 hutg_8 huvl_8 htkd htsz htlk hthm httg htvl)) (ws' := (wX2 cI h0 ht0 ht1 ht2 ht3 ht4 ht5 ht6 hu0 hu1 hu2 hu3 hu4 hu5 hu6 hg0 hg1 hlim hkpt hsyn htkd htsz htlk hthm httg htvl hukd_8 husz_8 hulk_8 huhm_8 hutg_8 huvl_8 hgln hgrw)) (va_runV (As := [.ref ht0]) (rest := []) ⟨hx, hb, hml, hown, hts⟩ (cX1_copyFrom_met l dC dI cI hu0 hu1 hu2 hu3 hu4 hu5 hu6 ht0 ht1 ht2 ht3 ht4 ht5 ht6 hukd husz hulk huhm hutg huvl htkd htsz htlk hthm httg htvl hukd_8 husz_8 hulk_8 huhm_8 hutg_8 huvl_8 hc8) (cwV 1 hts gX2_countedSync_102 rfl rfl rfl (by decide +kernel) ⟨Nat.le_of_ble_eq_true rfl, Nat.le_of_ble_eq_true rfl⟩) (preWV (ci := 1) (q0 := 0) hK (hP.sub (ws' := (wX1X1b cI hu0 hu1 hu2 hu3 hu4 hu5 hu6 ht0 ht1 ht2 ht3 ht4 ht5 ht6 hukd husz hulk huhm hutg huvl htkd htsz htlk hthm httg htvl)) [8, 9, 10, 11, 12, 13, 14, 1, 2, 3, 4, 5, 6, 7] rfl) (hD.sub (ws' := (wX1X1b cI hu0 hu1 hu2 hu3 hu4 hu5 hu6 ht0 ht1 ht2 ht3 ht4 ht5 ht6 hukd husz hulk huhm hutg huvl htkd htsz htlk hthm httg htvl)) [8, 9, 10, 11, 12, 13, 14, 1, 2, 3, 4, 5, 6, 7] (by decide) rfl) rfl rfl) rfl rfl hl.1 rfl (lv_room (Nat.le_of_ble_eq_true rfl)) dX2_countedSync_8 ⟨Nat.le_of_ble_eq_true rfl, Nat.le_of_ble_eq_true rfl⟩) hS hP hD [8, 9, 10, 11, 12, 13, 14, 1, 2, 3, 4, 5, 6, 7] rfl rfl rfl rfl rfl (fun H locs hP hD hS => ?_)
  refine lv_aload_n hx hb dX2_countedSync_11 rfl (lv_at hl 0 rfl) ?_
  obtain ⟨hkpt_12, hgln_12, hc12, hf⟩ := bn2_e hf
  refine callVv (w1 := (wX2 cI h0 ht0 ht1 ht2 ht3 ht4 ht5 ht6 hu0 hu1 hu2 hu3 hu4 hu5 hu6 hg0 hg1 hlim hkpt_12 hsyn htkd htsz htlk hthm httg htvl hukd_8 husz_8 hulk_8 huhm_8 hutg_8 huvl_8 hgln_12 hgrw)) (va_runV (As := []) (rest := []) ⟨hx, hb, hml, hown, hts⟩ (cX2_startAfresh_met l dC dI cI h0 ht0 ht1 ht2 ht3 ht4 ht5 ht6 hu0 hu1 hu2 hu3 hu4 hu5 hu6 hg0 hg1 hlim hkpt hsyn htkd htsz htlk hthm httg htvl hukd_8 husz_8 hulk_8 huhm_8 hutg_8 huvl_8 hgln hgrw hkpt_12 hgln_12 hc12) (cwV 0 hts gX2_countedSync_106 rfl rfl rfl (by decide +kernel) ⟨Nat.le_of_ble_eq_true rfl, Nat.le_of_ble_eq_true rfl⟩) (preWV (ci := 2) (q0 := 0) hK hP hD rfl rfl) rfl rfl hl.1 rfl (lv_room (Nat.le_of_ble_eq_true rfl)) dX2_countedSync_12 ⟨Nat.le_of_ble_eq_true rfl, Nat.le_of_ble_eq_true rfl⟩) hS hD rfl rfl (fun H locs hP hD hS => ?_)
  refine lv_aload_n hx hb dX2_countedSync_15 rfl (lv_at hl 0 rfl) ?_
  refine lv_dup hx hb dX2_countedSync_16 rfl ?_
  refine va_get (D := (dC, dI)) (ci := 2) (v := .int hsyn) (C := RX2) (T := TX2) (N := 6) hx hb hts (fun w h => mc (inX2 w h)) hown hK hP 0 rfl rfl 5 (by decide) (hts _ (mc q_59)) (fun _ h9 => h9) rfl dX2_countedSync_17 ?_
  refine lv_iconst (v := 1) hx hb dX2_countedSync_20 (by decide) ?_
  obtain ⟨v21, ev21, hf⟩ := slet_e hf
  refine lv_iadd hx hb dX2_countedSync_21 ?_
  refine rw_nm ev21 ?_
  refine rw_put (D := (dC, dI)) (ci := 2) (v := .int v21) (ty := .int) (C := RX2) (T := TX2) (N := 6) (ws' := (wX2 cI h0 ht0 ht1 ht2 ht3 ht4 ht5 ht6 hu0 hu1 hu2 hu3 hu4 hu5 hu6 hg0 hg1 hlim hkpt_12 v21 htkd htsz htlk hthm httg htvl hukd_8 husz_8 hulk_8 huhm_8 hutg_8 huvl_8 hgln_12 hgrw)) hx hb hts (fun w h => mc (inX2 w h)) tyX2 tyX2_ok nmX2 hown hK hP hD hS 0 rfl rfl 5 (by decide) (hts _ (mc q_59)) (fun _ h9 => h9) rfl (by decide +kernel) rfl rfl (Nat.le_of_ble_eq_true rfl) rfl dX2_countedSync_22 (fun H locs hP hD hS => ?_)
  cases hf
  exact retV hx hb hr hlocks hP hS dX2_countedSync_25
end
section
theorem gX2_makesRoom_92 : GoodIn wsX2_makesRoom (wsV RX2 92 RX2 yX2_countedSync wsX2_countedSync) := gIn (memV q_92 q_93 q_345 q_1 q_94)
theorem gX2_makesRoom_39 : GoodIn wsX2_makesRoom (wsV RX2 39 RX1 yX1_live wsX1_live) := gIn (memV q_42 q_43 q_44 q_3 q_45)
set_option maxHeartbeats 4000000 in
set_option maxRecDepth 100000 in
theorem wbX2_makesRoom_17 {p : Program} {l : Launch} {e : Env} {s : State} {m : MethodId} {args : Array Value} {below : List Frame} {meth : Method} {c : Code} {dC : Nat → ClassId} {dI : Nat → Nat → Nat} {cI : ClassId} (hx : p.tables.exec = Jvm.exec) (hb : c.code = cX2_makesRoom) (hml : c.maxLocals = 3) (hown : s.vm.findClass RX2 = some m.cls) (hts : ∀ w ∈ wsX2_makesRoom, w.before args s = true) (hr : meth.sig.returnType = (some .boolean)) (hlocks : meth.locks = false) (hK : va_K (dC, dI) vwCl [(cI, .int)] s) (h0 ht0 ht1 ht2 ht3 ht4 ht5 ht6 hu0 hu1 hu2 hu3 hu4 hu5 hu6 hg0 hg1 : Nat) (hlim : Int32) (htkd : Nat → Int32) (htsz : Nat → Int32) (htlk : Nat → Int32) (hthm : Nat → Int32) (httg : Nat → Int32) (htvl : Nat → Int32) (hgrw : Nat → Int32) (r : Int32) (hkpt_o : Int32) (hsyn_o : Int32) (hukd_o : Nat → Int32) (husz_o : Nat → Int32) (hulk_o : Nat → Int32) (huhm_o : Nat → Int32) (hutg_o : Nat → Int32) (huvl_o : Nat → Int32) (hgln_o : Int32) : ∀ (x2 : Int32) (hkpt : Int32) (hsyn : Int32) (hukd : Nat → Int32) (husz : Nat → Int32) (hulk : Nat → Int32) (huhm : Nat → Int32) (hutg : Nat → Int32) (huvl : Nat → Int32) (hgln : Int32) (H : Heap) (locs : List Loc), va_P (dC, dI) vwCl (wX2 cI h0 ht0 ht1 ht2 ht3 ht4 ht5 ht6 hu0 hu1 hu2 hu3 hu4 hu5 hu6 hg0 hg1 hlim hkpt hsyn htkd htsz htlk hthm httg htvl hukd husz hulk huhm hutg huvl hgln hgrw) H → va_D (inA [h0, ht0, ht1, ht2, ht3, ht4, ht5, ht6, hu0, hu1, hu2, hu3, hu4, hu5, hu6, hg0, hg1]) (wX2 cI h0 ht0 ht1 ht2 ht3 ht4 ht5 ht6 hu0 hu1 hu2 hu3 hu4 hu5 hu6 hg0 hg1 hlim hkpt hsyn htkd htsz htlk hthm httg htvl hukd husz hulk huhm hutg huvl hgln hgrw) → va_S (inA [h0, ht0, ht1, ht2, ht3, ht4, ht5, ht6, hu0, hu1, hu2, hu3, hu4, hu5, hu6, hg0, hg1]) s.heap H locs → ∀ (ls : Array Slot), lv_has ls 3 [(0, .ref h0), (2, .int x2)] → fX2_makesRoom_b17 hlim htkd htsz htlk hthm httg htvl x2 hkpt hsyn hukd husz hulk huhm hutg huvl hgln = some (r, hkpt_o, hsyn_o, hukd_o, husz_o, hulk_o, huhm_o, hutg_o, huvl_o, hgln_o) → W p l e ({ frames := 5, cells := 0, slots := 0, locals := 104 } : Room) s m args below meth c H locs 0 0 (MQ below (qI r (va_P (dC, dI) vwCl (wX2 cI h0 ht0 ht1 ht2 ht3 ht4 ht5 ht6 hu0 hu1 hu2 hu3 hu4 hu5 hu6 hg0 hg1 hlim hkpt_o hsyn_o htkd htsz htlk hthm httg htvl hukd_o husz_o hulk_o huhm_o hutg_o huvl_o hgln_o hgrw)) (inA [h0, ht0, ht1, ht2, ht3, ht4, ht5, ht6, hu0, hu1, hu2, hu3, hu4, hu5, hu6, hg0, hg1])) args s 0 0 (inA [h0, ht0, ht1, ht2, ht3, ht4, ht5, ht6, hu0, hu1, hu2, hu3, hu4, hu5, hu6, hg0, hg1])) (F0 m 17 ls []) := by
  intro x2 hkpt hsyn hukd husz hulk huhm hutg huvl hgln H locs hP hD hS ls hl hf
  unfold fX2_makesRoom_b17 at hf
  refine lv_aload_n hx hb dX2_makesRoom_17 rfl (lv_at hl 0 rfl) ?_
  refine va_get (D := (dC, dI)) (ci := 2) (v := .ref ht0) (C := RX2) (T := TX2) (N := 6) hx hb hts (fun w h => mc (inX2 w h)) hown hK hP 0 rfl rfl 1 (by decide) (hts _ (mc q_55)) (fun _ h9 => h9) rfl dX2_makesRoom_18 ?_
  obtain ⟨r21, hc21, hf⟩ := bn1_e hf
  refine callRi (va_runV (As := []) (rest := []) ⟨hx, hb, hml, hown, hts⟩ (cX1_live_met l dC dI cI ht0 ht1 ht2 ht3 ht4 ht5 ht6 htkd htsz htlk hthm httg htvl r21 hc21) (cwV 0 hts gX2_makesRoom_39 rfl rfl rfl (by decide +kernel) ⟨Nat.le_of_ble_eq_true rfl, Nat.le_of_ble_eq_true rfl⟩) (preRV (ci := 1) (q0 := 0) hK (hP.sub (ws' := (wX1 cI ht0 ht1 ht2 ht3 ht4 ht5 ht6 htkd htsz htlk hthm httg htvl)) [1, 2, 3, 4, 5, 6, 7] rfl) rfl rfl) rfl rfl hl.1 rfl (lv_room (Nat.le_of_ble_eq_true rfl)) dX2_makesRoom_21 ⟨Nat.le_of_ble_eq_true rfl, Nat.le_of_ble_eq_true rfl⟩) hS hP (fun H locs hP hS => ?_)
  refine lv_iload_n hx hb dX2_makesRoom_24 rfl (lv_at hl 1 rfl) ?_
  obtain ⟨v25, ev25, hf⟩ := slet_e hf
  refine lv_iadd hx hb dX2_makesRoom_25 ?_
  refine rw_nm ev25 ?_
  refine lv_aload_n hx hb dX2_makesRoom_26 rfl (lv_at hl 0 rfl) ?_
  refine va_get (D := (dC, dI)) (ci := 2) (v := .int hlim) (C := RX2) (T := TX2) (N := 6) hx hb hts (fun w h => mc (inX2 w h)) hown hK hP 0 rfl rfl 0 (by decide) (hts _ (mc q_54)) (fun _ h9 => h9) rfl dX2_makesRoom_27 ?_
  refine lv_bipush (v := 8) hx hb dX2_makesRoom_30 (by decide) ?_
  obtain ⟨v32, ev32, hf⟩ := slet_e hf
  refine lv_isub hx hb dX2_makesRoom_32 ?_
  refine rw_nm ev32 ?_
  refine lv_icmp_gt (tgt := 40) hx hb dX2_makesRoom_33 (by decide) (fun c33 => ?_) (fun c33 => ?_)
  · have hf := it_t c33 hf
    refine lv_iconst (v := 0) hx hb dX2_makesRoom_40 (by decide) ?_
    cases hf
    exact retZ hx hb hr hlocks (by decide) hP hS dX2_makesRoom_41
  · have hf := it_f c33 hf
    refine lv_iconst (v := 1) hx hb dX2_makesRoom_36 (by decide) ?_
    refine lv_goto (tgt := 41) hx hb dX2_makesRoom_37 (by decide) ?_
    cases hf
    exact retZ hx hb hr hlocks (by decide) hP hS dX2_makesRoom_41
set_option maxHeartbeats 4000000 in
set_option maxRecDepth 100000 in
theorem cX2_makesRoom_met (l : Launch) (dC : Nat → ClassId) (dI : Nat → Nat → Nat) (cI : ClassId) (h0 ht0 ht1 ht2 ht3 ht4 ht5 ht6 hu0 hu1 hu2 hu3 hu4 hu5 hu6 hg0 hg1 : Nat) (hlim : Int32) (hkpt : Int32) (hsyn : Int32) (htkd : Nat → Int32) (htsz : Nat → Int32) (htlk : Nat → Int32) (hthm : Nat → Int32) (httg : Nat → Int32) (htvl : Nat → Int32) (hukd : Nat → Int32) (husz : Nat → Int32) (hulk : Nat → Int32) (huhm : Nat → Int32) (hutg : Nat → Int32) (huvl : Nat → Int32) (hgln : Int32) (hgrw : Nat → Int32) (x1 : Int32) (x2 : Int32) (r : Int32) (hkpt_o : Int32) (hsyn_o : Int32) (hukd_o : Nat → Int32) (husz_o : Nat → Int32) (hulk_o : Nat → Int32) (huhm_o : Nat → Int32) (hutg_o : Nat → Int32) (huvl_o : Nat → Int32) (hgln_o : Int32) (hf : fX2_makesRoom x1 x2 hlim htkd htsz htlk hthm httg htvl hkpt hsyn hukd husz hulk huhm hutg huvl hgln = some (r, hkpt_o, hsyn_o, hukd_o, husz_o, hulk_o, huhm_o, hutg_o, huvl_o, hgln_o)) : Met l yX2_makesRoom wsX2_makesRoom ({ frames := 5, cells := 0, slots := 0, locals := 104 } : Room) (pcW [.ref h0, .int x1, .int x2] (dC, dI) vwCl [(cI, .int)] (wX2 cI h0 ht0 ht1 ht2 ht3 ht4 ht5 ht6 hu0 hu1 hu2 hu3 hu4 hu5 hu6 hg0 hg1 hlim hkpt hsyn htkd htsz htlk hthm httg htvl hukd husz hulk huhm hutg huvl hgln hgrw)) (qI r (va_P (dC, dI) vwCl (wX2 cI h0 ht0 ht1 ht2 ht3 ht4 ht5 ht6 hu0 hu1 hu2 hu3 hu4 hu5 hu6 hg0 hg1 hlim hkpt_o hsyn_o htkd htsz htlk hthm httg htvl hukd_o husz_o hulk_o huhm_o hutg_o huvl_o hgln_o hgrw)) (inA [h0, ht0, ht1, ht2, ht3, ht4, ht5, ht6, hu0, hu1, hu2, hu3, hu4, hu5, hu6, hg0, hg1])) 0 0 (inA [h0, ht0, ht1, ht2, ht3, ht4, ht5, ht6, hu0, hu1, hu2, hu3, hu4, hu5, hu6, hg0, hg1]) := by
  refine Met.ofW (cc := cX2_makesRoom) (maxL := 3) (ret := (some .boolean)) (by decide) rfl ?_
  intro p e s m args below meth c s₁ B hml hv
  obtain ⟨rfl, hP, hK, hD0⟩ := hv
  have hx := B.exec
  have hb := B.bytes
  have hr := B.returns
  have hts := atoms_spec (ws := wsX2_makesRoom) B.pre
  have hown : s.vm.findClass RX2 = some m.cls := findClass_of_methodNamed B.named
  have hlocks := B.notSynchronized
  have hD := my_self (as := [h0, ht0, ht1, ht2, ht3, ht4, ht5, ht6, hu0, hu1, hu2, hu3, hu4, hu5, hu6, hg0, hg1]) hD0 rfl
  have hS : va_S (inA [h0, ht0, ht1, ht2, ht3, ht4, ht5, ht6, hu0, hu1, hu2, hu3, hu4, hu5, hu6, hg0, hg1]) s.heap s.heap [] := va_S.rf
  have hl := lv_entry ([.ref h0, .int x1, .int x2]) (n := 3) (Nat.le_of_ble_eq_true rfl)
  rw [lg_entry_eq]
  generalize (lg_sl ([.ref h0, .int x1, .int x2]) ++ List.replicate (3 - (lg_sl ([.ref h0, .int x1, .int x2])).length) Slot.unset).toArray = ls at hl ⊢
  have hl : lv_has ls 3 [(0, .ref h0), (1, .int x1), (2, .int x2)] := hl
  unfold fX2_makesRoom at hf
  refine lv_aload_n hx hb dX2_makesRoom_0 rfl (lv_at hl 0 rfl) ?_
  refine va_get (D := (dC, dI)) (ci := 2) (v := .int hkpt) (C := RX2) (T := TX2) (N := 6) hx hb hts (fun w h => mc (inX2 w h)) hown hK hP 0 rfl rfl 4 (by decide) (hts _ (mc q_58)) (fun _ h9 => h9) rfl dX2_makesRoom_1 ?_
  refine lv_iload_n hx hb dX2_makesRoom_4 rfl (lv_at hl 1 rfl) ?_
  obtain ⟨v5, ev5, hf⟩ := slet_e hf
  refine lv_iadd hx hb dX2_makesRoom_5 ?_
  refine rw_nm ev5 ?_
  refine lv_aload_n hx hb dX2_makesRoom_6 rfl (lv_at hl 0 rfl) ?_
  refine va_get (D := (dC, dI)) (ci := 2) (v := .int hlim) (C := RX2) (T := TX2) (N := 6) hx hb hts (fun w h => mc (inX2 w h)) hown hK hP 0 rfl rfl 0 (by decide) (hts _ (mc q_54)) (fun _ h9 => h9) rfl dX2_makesRoom_7 ?_
  refine lv_icmp_le (tgt := 17) hx hb dX2_makesRoom_10 (by decide) (fun c10 => ?_) (fun c10 => ?_)
  · have hf := it_t c10 hf
    exact wbX2_makesRoom_17 hx hb hml hown hts hr hlocks hK h0 ht0 ht1 ht2 ht3 ht4 ht5 ht6 hu0 hu1 hu2 hu3 hu4 hu5 hu6 hg0 hg1 hlim htkd htsz htlk hthm httg htvl hgrw r hkpt_o hsyn_o hukd_o husz_o hulk_o huhm_o hutg_o huvl_o hgln_o x2 hkpt hsyn hukd husz hulk huhm hutg huvl hgln _ _ hP hD hS _ (lv_sub hl [0, 2] rfl) hf
  · have hf := it_f c10 hf
    refine lv_aload_n hx hb dX2_makesRoom_13 rfl (lv_at hl 0 rfl) ?_
    obtain ⟨hkpt_14, hsyn_14, hukd_14, husz_14, hulk_14, huhm_14, hutg_14, huvl_14, hgln_14, hc14, hf⟩ := bn9_e hf
    refine callVv (w1 := (wX2 cI h0 ht0 ht1 ht2 ht3 ht4 ht5 ht6 hu0 hu1 hu2 hu3 hu4 hu5 hu6 hg0 hg1 hlim hkpt_14 hsyn_14 htkd htsz htlk hthm httg htvl hukd_14 husz_14 hulk_14 huhm_14 hutg_14 huvl_14 hgln_14 hgrw)) (va_runV (As := []) (rest := []) ⟨hx, hb, hml, hown, hts⟩ (cX2_countedSync_met l dC dI cI h0 ht0 ht1 ht2 ht3 ht4 ht5 ht6 hu0 hu1 hu2 hu3 hu4 hu5 hu6 hg0 hg1 hlim hkpt hsyn htkd htsz htlk hthm httg htvl hukd husz hulk huhm hutg huvl hgln hgrw hkpt_14 hsyn_14 hukd_14 husz_14 hulk_14 huhm_14 hutg_14 huvl_14 hgln_14 hc14) (cwV 0 hts gX2_makesRoom_92 rfl rfl rfl (by decide +kernel) ⟨Nat.le_of_ble_eq_true rfl, Nat.le_of_ble_eq_true rfl⟩) (preWV (ci := 2) (q0 := 0) hK hP hD rfl rfl) rfl rfl hl.1 rfl (lv_room (Nat.le_of_ble_eq_true rfl)) dX2_makesRoom_14 ⟨Nat.le_of_ble_eq_true rfl, Nat.le_of_ble_eq_true rfl⟩) hS hD rfl rfl (fun H locs hP hD hS => ?_)
    exact wbX2_makesRoom_17 hx hb hml hown hts hr hlocks hK h0 ht0 ht1 ht2 ht3 ht4 ht5 ht6 hu0 hu1 hu2 hu3 hu4 hu5 hu6 hg0 hg1 hlim htkd htsz htlk hthm httg htvl hgrw r hkpt_o hsyn_o hukd_o husz_o hulk_o huhm_o hutg_o huvl_o hgln_o x2 hkpt_14 hsyn_14 hukd_14 husz_14 hulk_14 huhm_14 hutg_14 huvl_14 hgln_14 _ _ hP hD hS _ (lv_sub hl [0, 2] rfl) hf
end
section
theorem gX2_perform_123 : GoodIn wsX2_perform (wsV RX2 123 RX0 yX0_append wsX0_append) := gIn (memV q_112 q_113 q_114 q_4 q_115)
theorem gX2_perform_95 : GoodIn wsX2_perform (wsV RX2 95 RX0 yX0_length wsX0_length) := gIn (memV q_116 q_117 q_118 q_4 q_119)
theorem gX2_perform_98 : GoodIn wsX2_perform (wsV RX2 98 RX0 yX0_redo wsX0_redo) := gIn (memV q_120 q_121 q_122 q_4 q_123)
set_option maxHeartbeats 4000000 in
set_option maxRecDepth 100000 in
theorem cX2_perform_met (l : Launch) (dC : Nat → ClassId) (dI : Nat → Nat → Nat) (cI : ClassId) (h0 ht0 ht1 ht2 ht3 ht4 ht5 ht6 hu0 hu1 hu2 hu3 hu4 hu5 hu6 hg0 hg1 : Nat) (hlim : Int32) (hkpt : Int32) (hsyn : Int32) (htkd : Nat → Int32) (htsz : Nat → Int32) (htlk : Nat → Int32) (hthm : Nat → Int32) (httg : Nat → Int32) (htvl : Nat → Int32) (hukd : Nat → Int32) (husz : Nat → Int32) (hulk : Nat → Int32) (huhm : Nat → Int32) (hutg : Nat → Int32) (huvl : Nat → Int32) (hgln : Int32) (hgrw : Nat → Int32) (x1 : Int32) (x2 : Int32) (x3 : Int32) (x4 : Int32) (x5 : Int32) (x6 : Int32) (hkpt_o : Int32) (htkd_o : Nat → Int32) (htsz_o : Nat → Int32) (htlk_o : Nat → Int32) (hthm_o : Nat → Int32) (httg_o : Nat → Int32) (htvl_o : Nat → Int32) (hgln_o : Int32) (hgrw_o : Nat → Int32) (hf : fX2_perform x1 x2 x3 x4 x5 x6 hkpt htkd htsz htlk hthm httg htvl hgln hgrw = some (hkpt_o, htkd_o, htsz_o, htlk_o, hthm_o, httg_o, htvl_o, hgln_o, hgrw_o)) : Met l yX2_perform wsX2_perform ({ frames := 4, cells := 0, slots := 0, locals := 98 } : Room) (pcW [.ref h0, .int x1, .int x2, .int x3, .int x4, .int x5, .int x6] (dC, dI) vwCl [(cI, .int)] (wX2 cI h0 ht0 ht1 ht2 ht3 ht4 ht5 ht6 hu0 hu1 hu2 hu3 hu4 hu5 hu6 hg0 hg1 hlim hkpt hsyn htkd htsz htlk hthm httg htvl hukd husz hulk huhm hutg huvl hgln hgrw)) (qV (va_P (dC, dI) vwCl (wX2 cI h0 ht0 ht1 ht2 ht3 ht4 ht5 ht6 hu0 hu1 hu2 hu3 hu4 hu5 hu6 hg0 hg1 hlim hkpt_o hsyn htkd_o htsz_o htlk_o hthm_o httg_o htvl_o hukd husz hulk huhm hutg huvl hgln_o hgrw_o)) (inA [h0, ht0, ht1, ht2, ht3, ht4, ht5, ht6, hu0, hu1, hu2, hu3, hu4, hu5, hu6, hg0, hg1])) 0 0 (inA [h0, ht0, ht1, ht2, ht3, ht4, ht5, ht6, hu0, hu1, hu2, hu3, hu4, hu5, hu6, hg0, hg1]) := by
  refine Met.ofW (cc := cX2_perform) (maxL := 7) (ret := none) (by decide) rfl ?_
  intro p e s m args below meth c s₁ B hml hv
  obtain ⟨rfl, hP, hK, hD0⟩ := hv
  have hx := B.exec
  have hb := B.bytes
  have hr := B.returns
  have hts := atoms_spec (ws := wsX2_perform) B.pre
  have hown : s.vm.findClass RX2 = some m.cls := findClass_of_methodNamed B.named
  have hlocks := B.notSynchronized
  have hD := my_self (as := [h0, ht0, ht1, ht2, ht3, ht4, ht5, ht6, hu0, hu1, hu2, hu3, hu4, hu5, hu6, hg0, hg1]) hD0 rfl
  have hS : va_S (inA [h0, ht0, ht1, ht2, ht3, ht4, ht5, ht6, hu0, hu1, hu2, hu3, hu4, hu5, hu6, hg0, hg1]) s.heap s.heap [] := va_S.rf
  have hl := lv_entry ([.ref h0, .int x1, .int x2, .int x3, .int x4, .int x5, .int x6]) (n := 7) (Nat.le_of_ble_eq_true rfl)
  rw [lg_entry_eq]
  generalize (lg_sl ([.ref h0, .int x1, .int x2, .int x3, .int x4, .int x5, .int x6]) ++ List.replicate (7 - (lg_sl ([.ref h0, .int x1, .int x2, .int x3, .int x4, .int x5, .int x6])).length) Slot.unset).toArray = ls at hl ⊢
  have hl : lv_has ls 7 [(0, .ref h0), (1, .int x1), (2, .int x2), (3, .int x3), (4, .int x4), (5, .int x5), (6, .int x6)] := hl
  unfold fX2_perform at hf
  refine lv_aload_n hx hb dX2_perform_0 rfl (lv_at hl 0 rfl) ?_
  refine va_get (D := (dC, dI)) (ci := 2) (v := .ref hg0) (C := RX2) (T := TX2) (N := 6) hx hb hts (fun w h => mc (inX2 w h)) hown hK hP 0 rfl rfl 3 (by decide) (hts _ (mc q_57)) (fun _ h9 => h9) rfl dX2_perform_1 ?_
  refine lv_iload_n hx hb dX2_perform_4 rfl (lv_at hl 2 rfl) ?_
  refine lv_iload_n hx hb dX2_perform_5 rfl (lv_at hl 3 rfl) ?_
  refine lv_iload hx hb dX2_perform_6 (lv_at hl 4 rfl) ?_
  refine lv_iload hx hb dX2_perform_8 (lv_at hl 5 rfl) ?_
  refine lv_iload hx hb dX2_perform_10 (lv_at hl 6 rfl) ?_
  obtain ⟨hgln_12, hgrw_12, hc12, hf⟩ := bn2_e hf
  refine callWv (wc := (wX0 cI hg0 hg1 hgln hgrw)) (w1 := (wX0 cI hg0 hg1 hgln_12 hgrw_12)) (ws' := (wX2 cI h0 ht0 ht1 ht2 ht3 ht4 ht5 ht6 hu0 hu1 hu2 hu3 hu4 hu5 hu6 hg0 hg1 hlim hkpt hsyn htkd htsz htlk hthm httg htvl hukd husz hulk huhm hutg huvl hgln_12 hgrw_12)) (va_runV (As := [.int x2, .int x3, .int x4, .int x5, .int x6]) (rest := []) ⟨hx, hb, hml, hown, hts⟩ (cX0_append_met l dC dI cI hg0 hg1 hgln hgrw x2 x3 x4 x5 x6 hgln_12 hgrw_12 hc12) (cwV 5 hts gX2_perform_123 rfl rfl rfl (by decide +kernel) ⟨Nat.le_of_ble_eq_true rfl, Nat.le_of_ble_eq_true rfl⟩) (preWV (ci := 0) (q0 := 0) hK (hP.sub (ws' := (wX0 cI hg0 hg1 hgln hgrw)) [15, 16] rfl) (hD.sub (ws' := (wX0 cI hg0 hg1 hgln hgrw)) [15, 16] (by decide) rfl) rfl rfl) rfl rfl hl.1 rfl (lv_room (Nat.le_of_ble_eq_true rfl)) dX2_perform_12 ⟨Nat.le_of_ble_eq_true rfl, Nat.le_of_ble_eq_true rfl⟩) hS hP hD [15, 16] rfl rfl rfl rfl rfl (fun H locs hP hD hS => ?_)
  refine lv_aload_n hx hb dX2_perform_15 rfl (lv_at hl 0 rfl) ?_
  refine va_get (D := (dC, dI)) (ci := 2) (v := .ref hg0) (C := RX2) (T := TX2) (N := 6) hx hb hts (fun w h => mc (inX2 w h)) hown hK hP 0 rfl rfl 3 (by decide) (hts _ (mc q_57)) (fun _ h9 => h9) rfl dX2_perform_16 ?_
  refine lv_aload_n hx hb dX2_perform_19 rfl (lv_at hl 0 rfl) ?_
  refine va_get (D := (dC, dI)) (ci := 2) (v := .ref hg0) (C := RX2) (T := TX2) (N := 6) hx hb hts (fun w h => mc (inX2 w h)) hown hK hP 0 rfl rfl 3 (by decide) (hts _ (mc q_57)) (fun _ h9 => h9) rfl dX2_perform_20 ?_
  obtain ⟨r23, hc23, hf⟩ := bn1_e hf
  refine callRi (va_runV (As := []) (rest := [.ref hg0]) ⟨hx, hb, hml, hown, hts⟩ (cX0_length_met l dC dI cI hg0 hg1 hgln_12 hgrw_12 r23 hc23) (cwV 0 hts gX2_perform_95 rfl rfl rfl (by decide +kernel) ⟨Nat.le_of_ble_eq_true rfl, Nat.le_of_ble_eq_true rfl⟩) (preRV (ci := 0) (q0 := 0) hK (hP.sub (ws' := (wX0 cI hg0 hg1 hgln_12 hgrw_12)) [15, 16] rfl) rfl rfl) rfl rfl hl.1 rfl (lv_room (Nat.le_of_ble_eq_true rfl)) dX2_perform_23 ⟨Nat.le_of_ble_eq_true rfl, Nat.le_of_ble_eq_true rfl⟩) hS hP (fun H locs hP hS => ?_)
  refine lv_iconst (v := 1) hx hb dX2_perform_26 (by decide) ?_
  obtain ⟨v27, ev27, hf⟩ := slet_e hf
  refine lv_isub hx hb dX2_perform_27 ?_
  refine rw_nm ev27 ?_
  refine lv_aload_n hx hb dX2_perform_28 rfl (lv_at hl 0 rfl) ?_
  refine va_get (D := (dC, dI)) (ci := 2) (v := .ref ht0) (C := RX2) (T := TX2) (N := 6) hx hb hts (fun w h => mc (inX2 w h)) hown hK hP 0 rfl rfl 1 (by decide) (hts _ (mc q_55)) (fun _ h9 => h9) rfl dX2_perform_29 ?_
  obtain ⟨htkd_32, htsz_32, htlk_32, hthm_32, httg_32, htvl_32, hc32, hf⟩ := bn6_e hf
  refine callWv (wc := (wX0X1a cI hg0 hg1 ht0 ht1 ht2 ht3 ht4 ht5 ht6 hgln_12 hgrw_12 htkd htsz htlk hthm httg htvl)) (w1 := (wX0X1a cI hg0 hg1 ht0 ht1 ht2 ht3 ht4 ht5 ht6 hgln_12 hgrw_12 htkd_32 htsz_32 htlk_32 hthm_32 httg_32 htvl_32)) (ws' := (wX2 cI h0 ht0 ht1 ht2 ht3 ht4 ht5 ht6 hu0 hu1 hu2 hu3 hu4 hu5 hu6 hg0 hg1 hlim hkpt hsyn htkd_32 htsz_32 htlk_32 hthm_32 httg_32 htvl_32 hukd husz hulk huhm hutg huvl hgln_12 hgrw_12)) (va_runV (As := [.int v27, .ref ht0]) (rest := []) ⟨hx, hb, hml, hown, hts⟩ (cX0_redo_met l dC dI cI hg0 hg1 ht0 ht1 ht2 ht3 ht4 ht5 ht6 hgln_12 hgrw_12 htkd htsz htlk hthm httg htvl v27 htkd_32 htsz_32 htlk_32 hthm_32 httg_32 htvl_32 hc32) (cwV 2 hts gX2_perform_98 rfl rfl rfl (by decide +kernel) ⟨Nat.le_of_ble_eq_true rfl, Nat.le_of_ble_eq_true rfl⟩) (preWV (ci := 0) (q0 := 0) hK (hP.sub (ws' := (wX0X1a cI hg0 hg1 ht0 ht1 ht2 ht3 ht4 ht5 ht6 hgln_12 hgrw_12 htkd htsz htlk hthm httg htvl)) [15, 16, 1, 2, 3, 4, 5, 6, 7] rfl) (hD.sub (ws' := (wX0X1a cI hg0 hg1 ht0 ht1 ht2 ht3 ht4 ht5 ht6 hgln_12 hgrw_12 htkd htsz htlk hthm httg htvl)) [15, 16, 1, 2, 3, 4, 5, 6, 7] (by decide) rfl) rfl rfl) rfl rfl hl.1 rfl (lv_room (Nat.le_of_ble_eq_true rfl)) dX2_perform_32 ⟨Nat.le_of_ble_eq_true rfl, Nat.le_of_ble_eq_true rfl⟩) hS hP hD [15, 16, 1, 2, 3, 4, 5, 6, 7] rfl rfl rfl rfl rfl (fun H locs hP hD hS => ?_)
  refine lv_aload_n hx hb dX2_perform_35 rfl (lv_at hl 0 rfl) ?_
  refine lv_dup hx hb dX2_perform_36 rfl ?_
  refine va_get (D := (dC, dI)) (ci := 2) (v := .int hkpt) (C := RX2) (T := TX2) (N := 6) hx hb hts (fun w h => mc (inX2 w h)) hown hK hP 0 rfl rfl 4 (by decide) (hts _ (mc q_58)) (fun _ h9 => h9) rfl dX2_perform_37 ?_
  refine lv_iload_n hx hb dX2_perform_40 rfl (lv_at hl 1 rfl) ?_
  obtain ⟨v41, ev41, hf⟩ := slet_e hf
  refine lv_iadd hx hb dX2_perform_41 ?_
  refine rw_nm ev41 ?_
  refine rw_put (D := (dC, dI)) (ci := 2) (v := .int v41) (ty := .int) (C := RX2) (T := TX2) (N := 6) (ws' := (wX2 cI h0 ht0 ht1 ht2 ht3 ht4 ht5 ht6 hu0 hu1 hu2 hu3 hu4 hu5 hu6 hg0 hg1 hlim v41 hsyn htkd_32 htsz_32 htlk_32 hthm_32 httg_32 htvl_32 hukd husz hulk huhm hutg huvl hgln_12 hgrw_12)) hx hb hts (fun w h => mc (inX2 w h)) tyX2 tyX2_ok nmX2 hown hK hP hD hS 0 rfl rfl 4 (by decide) (hts _ (mc q_58)) (fun _ h9 => h9) rfl (by decide +kernel) rfl rfl (Nat.le_of_ble_eq_true rfl) rfl dX2_perform_42 (fun H locs hP hD hS => ?_)
  cases hf
  exact retV hx hb hr hlocks hP hS dX2_perform_45
end
section
theorem gX2_create_49 : GoodIn wsX2_create (wsS RX2 49 yX2_isNode wsX2_isNode) := gIn (memS q_64 q_65 q_1 q_66)
theorem gX2_create_53 : GoodIn wsX2_create (wsS RX2 53 yX2_isName wsX2_isName) := gIn (memS q_67 q_68 q_1 q_69)
theorem gX2_create_56 : GoodIn wsX2_create (wsV RX2 56 RX1 yX1_isDirectory wsX1_isDirectory) := gIn (memV q_70 q_71 q_72 q_3 q_73)
theorem gX2_create_59 : GoodIn wsX2_create (wsV RX2 59 RX1 yX1_target wsX1_target) := gIn (memV q_74 q_75 q_76 q_3 q_77)
theorem gX2_create_62 : GoodIn wsX2_create (wsV RX2 62 RX1 yX1_leastFreeNode wsX1_leastFreeNode) := gIn (memV q_78 q_79 q_80 q_3 q_81)
theorem gX2_create_65 : GoodIn wsX2_create (wsV RX2 65 RX1 yX1_size wsX1_size) := gIn (memV q_82 q_83 q_84 q_3 q_85)
theorem gX2_create_69 : GoodIn wsX2_create (wsS RX2 69 yX2_costOf wsX2_costOf) := gIn (memS q_86 q_87 q_1 q_88)
theorem gX2_create_72 : GoodIn wsX2_create (wsV RX2 72 RX2 yX2_makesRoom wsX2_makesRoom) := gIn (memV q_89 q_90 q_344 q_1 q_91)
theorem gX2_create_76 : GoodIn wsX2_create (wsV RX2 76 RX2 yX2_perform wsX2_perform) := gIn (memV q_109 q_110 q_347 q_1 q_111)
set_option maxHeartbeats 4000000 in
set_option maxRecDepth 100000 in
theorem cX2_create_met (l : Launch) (dC : Nat → ClassId) (dI : Nat → Nat → Nat) (cI : ClassId) (h0 ht0 ht1 ht2 ht3 ht4 ht5 ht6 hu0 hu1 hu2 hu3 hu4 hu5 hu6 hg0 hg1 : Nat) (hlim : Int32) (hkpt : Int32) (hsyn : Int32) (htkd : Nat → Int32) (htsz : Nat → Int32) (htlk : Nat → Int32) (hthm : Nat → Int32) (httg : Nat → Int32) (htvl : Nat → Int32) (hukd : Nat → Int32) (husz : Nat → Int32) (hulk : Nat → Int32) (huhm : Nat → Int32) (hutg : Nat → Int32) (huvl : Nat → Int32) (hgln : Int32) (hgrw : Nat → Int32) (x1 : Int32) (x2 : Int32) (x3 : Int32) (r : Int32) (hkpt_o : Int32) (hsyn_o : Int32) (htkd_o : Nat → Int32) (htsz_o : Nat → Int32) (htlk_o : Nat → Int32) (hthm_o : Nat → Int32) (httg_o : Nat → Int32) (htvl_o : Nat → Int32) (hukd_o : Nat → Int32) (husz_o : Nat → Int32) (hulk_o : Nat → Int32) (huhm_o : Nat → Int32) (hutg_o : Nat → Int32) (huvl_o : Nat → Int32) (hgln_o : Int32) (hgrw_o : Nat → Int32) (hf : fX2_create x1 x2 x3 hlim hkpt hsyn htkd htsz htlk hthm httg htvl hukd husz hulk huhm hutg huvl hgln hgrw = some (r, hkpt_o, hsyn_o, htkd_o, htsz_o, htlk_o, hthm_o, httg_o, htvl_o, hukd_o, husz_o, hulk_o, huhm_o, hutg_o, huvl_o, hgln_o, hgrw_o)) : Met l yX2_create wsX2_create ({ frames := 6, cells := 0, slots := 0, locals := 126 } : Room) (pcW [.ref h0, .int x1, .int x2, .int x3] (dC, dI) vwCl [(cI, .int)] (wX2 cI h0 ht0 ht1 ht2 ht3 ht4 ht5 ht6 hu0 hu1 hu2 hu3 hu4 hu5 hu6 hg0 hg1 hlim hkpt hsyn htkd htsz htlk hthm httg htvl hukd husz hulk huhm hutg huvl hgln hgrw)) (qI r (va_P (dC, dI) vwCl (wX2 cI h0 ht0 ht1 ht2 ht3 ht4 ht5 ht6 hu0 hu1 hu2 hu3 hu4 hu5 hu6 hg0 hg1 hlim hkpt_o hsyn_o htkd_o htsz_o htlk_o hthm_o httg_o htvl_o hukd_o husz_o hulk_o huhm_o hutg_o huvl_o hgln_o hgrw_o)) (inA [h0, ht0, ht1, ht2, ht3, ht4, ht5, ht6, hu0, hu1, hu2, hu3, hu4, hu5, hu6, hg0, hg1])) 0 0 (inA [h0, ht0, ht1, ht2, ht3, ht4, ht5, ht6, hu0, hu1, hu2, hu3, hu4, hu5, hu6, hg0, hg1]) := by
  refine Met.ofW (cc := cX2_create) (maxL := 6) (ret := (some .int)) (by decide) rfl ?_
  intro p e s m args below meth c s₁ B hml hv
  obtain ⟨rfl, hP, hK, hD0⟩ := hv
  have hx := B.exec
  have hb := B.bytes
  have hr := B.returns
  have hts := atoms_spec (ws := wsX2_create) B.pre
  have hown : s.vm.findClass RX2 = some m.cls := findClass_of_methodNamed B.named
  have hlocks := B.notSynchronized
  have hD := my_self (as := [h0, ht0, ht1, ht2, ht3, ht4, ht5, ht6, hu0, hu1, hu2, hu3, hu4, hu5, hu6, hg0, hg1]) hD0 rfl
  have hS : va_S (inA [h0, ht0, ht1, ht2, ht3, ht4, ht5, ht6, hu0, hu1, hu2, hu3, hu4, hu5, hu6, hg0, hg1]) s.heap s.heap [] := va_S.rf
  have hl := lv_entry ([.ref h0, .int x1, .int x2, .int x3]) (n := 6) (Nat.le_of_ble_eq_true rfl)
  rw [lg_entry_eq]
  generalize (lg_sl ([.ref h0, .int x1, .int x2, .int x3]) ++ List.replicate (6 - (lg_sl ([.ref h0, .int x1, .int x2, .int x3])).length) Slot.unset).toArray = ls at hl ⊢
  have hl : lv_has ls 6 [(0, .ref h0), (1, .int x1), (2, .int x2), (3, .int x3)] := hl
  unfold fX2_create at hf
  refine lv_iload_n hx hb dX2_create_0 rfl (lv_at hl 1 rfl) ?_
  obtain ⟨r1, hc1, hf⟩ := bn1_e hf
  refine callRi (va_runS (As := [.int x1]) (rest := []) ⟨hx, hb, hml, hown, hts⟩ (cX2_isNode_met l dC dI cI x1 r1 hc1) (cwS 1 hts gX2_create_49 rfl rfl rfl (by decide +kernel) ⟨Nat.le_of_ble_eq_true rfl, Nat.le_of_ble_eq_true rfl⟩) (preRS hK (hP.sub (ws' := []) [] rfl)) rfl rfl hl.1 rfl (lv_room (Nat.le_of_ble_eq_true rfl)) dX2_create_1 ⟨Nat.le_of_ble_eq_true rfl, Nat.le_of_ble_eq_true rfl⟩) hS hP (fun H locs hP hS => ?_)
  refine lv_if_eq (tgt := 14) hx hb dX2_create_4 (by decide) (fun c4 => ?_) (fun c4 => ?_)
  · have hf := it_t c4 hf
    refine lv_iconst (v := -1) hx hb dX2_create_14 (by decide) ?_
    cases hf
    exact retI hx hb hr hlocks hP hS dX2_create_15
  · have hf := it_f c4 hf
    refine lv_iload_n hx hb dX2_create_7 rfl (lv_at hl 2 rfl) ?_
    obtain ⟨r8, hc8, hf⟩ := bn1_e hf
    refine callRi (va_runS (As := [.int x2]) (rest := []) ⟨hx, hb, hml, hown, hts⟩ (cX2_isName_met l dC dI cI x2 r8 hc8) (cwS 1 hts gX2_create_53 rfl rfl rfl (by decide +kernel) ⟨Nat.le_of_ble_eq_true rfl, Nat.le_of_ble_eq_true rfl⟩) (preRS hK (hP.sub (ws' := []) [] rfl)) rfl rfl hl.1 rfl (lv_room (Nat.le_of_ble_eq_true rfl)) dX2_create_8 ⟨Nat.le_of_ble_eq_true rfl, Nat.le_of_ble_eq_true rfl⟩) hS hP (fun H locs hP hS => ?_)
    refine lv_if_ne (tgt := 16) hx hb dX2_create_11 (by decide) (fun c11 => ?_) (fun c11 => ?_)
    · have hf := it_f c11 hf
      refine lv_aload_n hx hb dX2_create_16 rfl (lv_at hl 0 rfl) ?_
      refine va_get (D := (dC, dI)) (ci := 2) (v := .ref ht0) (C := RX2) (T := TX2) (N := 6) hx hb hts (fun w h => mc (inX2 w h)) hown hK hP 0 rfl rfl 1 (by decide) (hts _ (mc q_55)) (fun _ h9 => h9) rfl dX2_create_17 ?_
      refine lv_iload_n hx hb dX2_create_20 rfl (lv_at hl 1 rfl) ?_
      obtain ⟨r21, hc21, hf⟩ := bn1_e hf
      refine callRi (va_runV (As := [.int x1]) (rest := []) ⟨hx, hb, hml, hown, hts⟩ (cX1_isDirectory_met l dC dI cI ht0 ht1 ht2 ht3 ht4 ht5 ht6 htkd htsz htlk hthm httg htvl x1 r21 hc21) (cwV 1 hts gX2_create_56 rfl rfl rfl (by decide +kernel) ⟨Nat.le_of_ble_eq_true rfl, Nat.le_of_ble_eq_true rfl⟩) (preRV (ci := 1) (q0 := 0) hK (hP.sub (ws' := (wX1 cI ht0 ht1 ht2 ht3 ht4 ht5 ht6 htkd htsz htlk hthm httg htvl)) [1, 2, 3, 4, 5, 6, 7] rfl) rfl rfl) rfl rfl hl.1 rfl (lv_room (Nat.le_of_ble_eq_true rfl)) dX2_create_21 ⟨Nat.le_of_ble_eq_true rfl, Nat.le_of_ble_eq_true rfl⟩) hS hP (fun H locs hP hS => ?_)
      refine lv_if_ne (tgt := 30) hx hb dX2_create_24 (by decide) (fun c24 => ?_) (fun c24 => ?_)
      · have hf := it_f c24 hf
        refine lv_aload_n hx hb dX2_create_30 rfl (lv_at hl 0 rfl) ?_
        refine va_get (D := (dC, dI)) (ci := 2) (v := .ref ht0) (C := RX2) (T := TX2) (N := 6) hx hb hts (fun w h => mc (inX2 w h)) hown hK hP 0 rfl rfl 1 (by decide) (hts _ (mc q_55)) (fun _ h9 => h9) rfl dX2_create_31 ?_
        refine lv_iload_n hx hb dX2_create_34 rfl (lv_at hl 1 rfl) ?_
        refine lv_iload_n hx hb dX2_create_35 rfl (lv_at hl 2 rfl) ?_
        obtain ⟨r36, hc36, hf⟩ := bn1_e hf
        refine callRi (va_runV (As := [.int x1, .int x2]) (rest := []) ⟨hx, hb, hml, hown, hts⟩ (cX1_target_met l dC dI cI ht0 ht1 ht2 ht3 ht4 ht5 ht6 htkd htsz htlk hthm httg htvl x1 x2 r36 hc36) (cwV 2 hts gX2_create_59 rfl rfl rfl (by decide +kernel) ⟨Nat.le_of_ble_eq_true rfl, Nat.le_of_ble_eq_true rfl⟩) (preRV (ci := 1) (q0 := 0) hK (hP.sub (ws' := (wX1 cI ht0 ht1 ht2 ht3 ht4 ht5 ht6 htkd htsz htlk hthm httg htvl)) [1, 2, 3, 4, 5, 6, 7] rfl) rfl rfl) rfl rfl hl.1 rfl (lv_room (Nat.le_of_ble_eq_true rfl)) dX2_create_36 ⟨Nat.le_of_ble_eq_true rfl, Nat.le_of_ble_eq_true rfl⟩) hS hP (fun H locs hP hS => ?_)
        refine lv_if_eq (tgt := 45) hx hb dX2_create_39 (by decide) (fun c39 => ?_) (fun c39 => ?_)
        · have hf := it_t c39 hf
          refine lv_aload_n hx hb dX2_create_45 rfl (lv_at hl 0 rfl) ?_
          refine va_get (D := (dC, dI)) (ci := 2) (v := .ref ht0) (C := RX2) (T := TX2) (N := 6) hx hb hts (fun w h => mc (inX2 w h)) hown hK hP 0 rfl rfl 1 (by decide) (hts _ (mc q_55)) (fun _ h9 => h9) rfl dX2_create_46 ?_
          obtain ⟨r49, hc49, hf⟩ := bn1_e hf
          refine callRi (va_runV (As := []) (rest := []) ⟨hx, hb, hml, hown, hts⟩ (cX1_leastFreeNode_met l dC dI cI ht0 ht1 ht2 ht3 ht4 ht5 ht6 htkd htsz htlk hthm httg htvl r49 hc49) (cwV 0 hts gX2_create_62 rfl rfl rfl (by decide +kernel) ⟨Nat.le_of_ble_eq_true rfl, Nat.le_of_ble_eq_true rfl⟩) (preRV (ci := 1) (q0 := 0) hK (hP.sub (ws' := (wX1 cI ht0 ht1 ht2 ht3 ht4 ht5 ht6 htkd htsz htlk hthm httg htvl)) [1, 2, 3, 4, 5, 6, 7] rfl) rfl rfl) rfl rfl hl.1 rfl (lv_room (Nat.le_of_ble_eq_true rfl)) dX2_create_49 ⟨Nat.le_of_ble_eq_true rfl, Nat.le_of_ble_eq_true rfl⟩) hS hP (fun H locs hP hS => ?_)
          refine lv_istore (lv' := [(4, .int r49), (0, .ref h0), (1, .int x1), (2, .int x2), (3, .int x3)]) hx hb dX2_create_52 hl (by decide) rfl (fun ls hl => ?_)
          refine lv_aload_n hx hb dX2_create_54 rfl (lv_at hl 1 rfl) ?_
          refine va_get (D := (dC, dI)) (ci := 2) (v := .ref ht0) (C := RX2) (T := TX2) (N := 6) hx hb hts (fun w h => mc (inX2 w h)) hown hK hP 0 rfl rfl 1 (by decide) (hts _ (mc q_55)) (fun _ h9 => h9) rfl dX2_create_55 ?_
          refine lv_iload_n hx hb dX2_create_58 rfl (lv_at hl 2 rfl) ?_
          obtain ⟨r59, hc59, hf⟩ := bn1_e hf
          refine callRi (va_runV (As := [.int x1]) (rest := []) ⟨hx, hb, hml, hown, hts⟩ (cX1_size_met l dC dI cI ht0 ht1 ht2 ht3 ht4 ht5 ht6 htkd htsz htlk hthm httg htvl x1 r59 hc59) (cwV 1 hts gX2_create_65 rfl rfl rfl (by decide +kernel) ⟨Nat.le_of_ble_eq_true rfl, Nat.le_of_ble_eq_true rfl⟩) (preRV (ci := 1) (q0 := 0) hK (hP.sub (ws' := (wX1 cI ht0 ht1 ht2 ht3 ht4 ht5 ht6 htkd htsz htlk hthm httg htvl)) [1, 2, 3, 4, 5, 6, 7] rfl) rfl rfl) rfl rfl hl.1 rfl (lv_room (Nat.le_of_ble_eq_true rfl)) dX2_create_59 ⟨Nat.le_of_ble_eq_true rfl, Nat.le_of_ble_eq_true rfl⟩) hS hP (fun H locs hP hS => ?_)
          refine lv_bipush (v := 8) hx hb dX2_create_62 (by decide) ?_
          refine lv_icmp_ge (tgt := 72) hx hb dX2_create_64 (by decide) (fun c64 => ?_) (fun c64 => ?_)
          · have hf := it_t c64 hf
            refine lv_bipush (v := -5) hx hb dX2_create_72 (by decide) ?_
            cases hf
            exact retI hx hb hr hlocks hP hS dX2_create_74
          · have hf := it_f c64 hf
            refine lv_iload hx hb dX2_create_67 (lv_at hl 0 rfl) ?_
            refine lv_if_ne (tgt := 75) hx hb dX2_create_69 (by decide) (fun c69 => ?_) (fun c69 => ?_)
            · have hf := it_f c69 hf
              refine lv_iconst (v := 2) hx hb dX2_create_75 (by decide) ?_
              refine lv_iconst (v := 0) hx hb dX2_create_76 (by decide) ?_
              obtain ⟨r77, hc77, hf⟩ := bn1_e hf
              refine callRi (va_runS (As := [.int 2, .int 0]) (rest := []) ⟨hx, hb, hml, hown, hts⟩ (cX2_costOf_met l dC dI cI 2 0 r77 hc77) (cwS 2 hts gX2_create_69 rfl rfl rfl (by decide +kernel) ⟨Nat.le_of_ble_eq_true rfl, Nat.le_of_ble_eq_true rfl⟩) (preRS hK (hP.sub (ws' := []) [] rfl)) rfl rfl hl.1 rfl (lv_room (Nat.le_of_ble_eq_true rfl)) dX2_create_77 ⟨Nat.le_of_ble_eq_true rfl, Nat.le_of_ble_eq_true rfl⟩) hS hP (fun H locs hP hS => ?_)
              refine lv_istore (lv' := [(5, .int r77), (4, .int r49), (0, .ref h0), (1, .int x1), (2, .int x2), (3, .int x3)]) hx hb dX2_create_80 hl (by decide) rfl (fun ls hl => ?_)
              refine lv_aload_n hx hb dX2_create_82 rfl (lv_at hl 2 rfl) ?_
              refine lv_iload hx hb dX2_create_83 (lv_at hl 0 rfl) ?_
              refine lv_iconst (v := 1) hx hb dX2_create_85 (by decide) ?_
              obtain ⟨r86, hkpt_86, hsyn_86, hukd_86, husz_86, hulk_86, huhm_86, hutg_86, huvl_86, hgln_86, hc86, hf⟩ := bn10_e hf
              refine callVi (w1 := (wX2 cI h0 ht0 ht1 ht2 ht3 ht4 ht5 ht6 hu0 hu1 hu2 hu3 hu4 hu5 hu6 hg0 hg1 hlim hkpt_86 hsyn_86 htkd htsz htlk hthm httg htvl hukd_86 husz_86 hulk_86 huhm_86 hutg_86 huvl_86 hgln_86 hgrw)) (va_runV (As := [.int r77, .int 1]) (rest := []) ⟨hx, hb, hml, hown, hts⟩ (cX2_makesRoom_met l dC dI cI h0 ht0 ht1 ht2 ht3 ht4 ht5 ht6 hu0 hu1 hu2 hu3 hu4 hu5 hu6 hg0 hg1 hlim hkpt hsyn htkd htsz htlk hthm httg htvl hukd husz hulk huhm hutg huvl hgln hgrw r77 1 r86 hkpt_86 hsyn_86 hukd_86 husz_86 hulk_86 huhm_86 hutg_86 huvl_86 hgln_86 hc86) (cwV 2 hts gX2_create_72 rfl rfl rfl (by decide +kernel) ⟨Nat.le_of_ble_eq_true rfl, Nat.le_of_ble_eq_true rfl⟩) (preWV (ci := 2) (q0 := 0) hK hP hD rfl rfl) rfl rfl hl.1 rfl (lv_room (Nat.le_of_ble_eq_true rfl)) dX2_create_86 ⟨Nat.le_of_ble_eq_true rfl, Nat.le_of_ble_eq_true rfl⟩) hS hD rfl rfl (fun H locs hP hD hS => ?_)
              refine lv_if_ne (tgt := 95) hx hb dX2_create_89 (by decide) (fun c89 => ?_) (fun c89 => ?_)
              · have hf := it_f c89 hf
                refine lv_aload_n hx hb dX2_create_95 rfl (lv_at hl 2 rfl) ?_
                refine lv_iload hx hb dX2_create_96 (lv_at hl 0 rfl) ?_
                refine lv_iconst (v := 0) hx hb dX2_create_98 (by decide) ?_
                refine lv_iload_n hx hb dX2_create_99 rfl (lv_at hl 3 rfl) ?_
                refine lv_iload_n hx hb dX2_create_100 rfl (lv_at hl 4 rfl) ?_
                refine lv_iload_n hx hb dX2_create_101 rfl (lv_at hl 5 rfl) ?_
                refine lv_if_eq (tgt := 109) hx hb dX2_create_102 (by decide) (fun c102 => ?_) (fun c102 => ?_)
                · have hf := it_t c102 hf
                  refine lv_iconst (v := 1) hx hb dX2_create_109 (by decide) ?_
                  refine lv_iconst (v := 0) hx hb dX2_create_110 (by decide) ?_
                  obtain ⟨hkpt_111, htkd_111, htsz_111, htlk_111, hthm_111, httg_111, htvl_111, hgln_111, hgrw_111, hc111, hf⟩ := bn9_e hf
                  refine callVv (w1 := (wX2 cI h0 ht0 ht1 ht2 ht3 ht4 ht5 ht6 hu0 hu1 hu2 hu3 hu4 hu5 hu6 hg0 hg1 hlim hkpt_111 hsyn_86 htkd_111 htsz_111 htlk_111 hthm_111 httg_111 htvl_111 hukd_86 husz_86 hulk_86 huhm_86 hutg_86 huvl_86 hgln_111 hgrw_111)) (va_runV (As := [.int r77, .int 0, .int x1, .int x2, .int 1, .int 0]) (rest := []) ⟨hx, hb, hml, hown, hts⟩ (cX2_perform_met l dC dI cI h0 ht0 ht1 ht2 ht3 ht4 ht5 ht6 hu0 hu1 hu2 hu3 hu4 hu5 hu6 hg0 hg1 hlim hkpt_86 hsyn_86 htkd htsz htlk hthm httg htvl hukd_86 husz_86 hulk_86 huhm_86 hutg_86 huvl_86 hgln_86 hgrw r77 0 x1 x2 1 0 hkpt_111 htkd_111 htsz_111 htlk_111 hthm_111 httg_111 htvl_111 hgln_111 hgrw_111 hc111) (cwV 6 hts gX2_create_76 rfl rfl rfl (by decide +kernel) ⟨Nat.le_of_ble_eq_true rfl, Nat.le_of_ble_eq_true rfl⟩) (preWV (ci := 2) (q0 := 0) hK hP hD rfl rfl) rfl rfl hl.1 rfl (lv_room (Nat.le_of_ble_eq_true rfl)) dX2_create_111 ⟨Nat.le_of_ble_eq_true rfl, Nat.le_of_ble_eq_true rfl⟩) hS hD rfl rfl (fun H locs hP hD hS => ?_)
                  refine lv_iload hx hb dX2_create_114 (lv_at hl 1 rfl) ?_
                  cases hf
                  exact retI hx hb hr hlocks hP hS dX2_create_116
                · have hf := it_f c102 hf
                  refine lv_iconst (v := 2) hx hb dX2_create_105 (by decide) ?_
                  refine lv_goto (tgt := 110) hx hb dX2_create_106 (by decide) ?_
                  refine lv_iconst (v := 0) hx hb dX2_create_110 (by decide) ?_
                  obtain ⟨hkpt_111, htkd_111, htsz_111, htlk_111, hthm_111, httg_111, htvl_111, hgln_111, hgrw_111, hc111, hf⟩ := bn9_e hf
                  refine callVv (w1 := (wX2 cI h0 ht0 ht1 ht2 ht3 ht4 ht5 ht6 hu0 hu1 hu2 hu3 hu4 hu5 hu6 hg0 hg1 hlim hkpt_111 hsyn_86 htkd_111 htsz_111 htlk_111 hthm_111 httg_111 htvl_111 hukd_86 husz_86 hulk_86 huhm_86 hutg_86 huvl_86 hgln_111 hgrw_111)) (va_runV (As := [.int r77, .int 0, .int x1, .int x2, .int 2, .int 0]) (rest := []) ⟨hx, hb, hml, hown, hts⟩ (cX2_perform_met l dC dI cI h0 ht0 ht1 ht2 ht3 ht4 ht5 ht6 hu0 hu1 hu2 hu3 hu4 hu5 hu6 hg0 hg1 hlim hkpt_86 hsyn_86 htkd htsz htlk hthm httg htvl hukd_86 husz_86 hulk_86 huhm_86 hutg_86 huvl_86 hgln_86 hgrw r77 0 x1 x2 2 0 hkpt_111 htkd_111 htsz_111 htlk_111 hthm_111 httg_111 htvl_111 hgln_111 hgrw_111 hc111) (cwV 6 hts gX2_create_76 rfl rfl rfl (by decide +kernel) ⟨Nat.le_of_ble_eq_true rfl, Nat.le_of_ble_eq_true rfl⟩) (preWV (ci := 2) (q0 := 0) hK hP hD rfl rfl) rfl rfl hl.1 rfl (lv_room (Nat.le_of_ble_eq_true rfl)) dX2_create_111 ⟨Nat.le_of_ble_eq_true rfl, Nat.le_of_ble_eq_true rfl⟩) hS hD rfl rfl (fun H locs hP hD hS => ?_)
                  refine lv_iload hx hb dX2_create_114 (lv_at hl 1 rfl) ?_
                  cases hf
                  exact retI hx hb hr hlocks hP hS dX2_create_116
              · have hf := it_t c89 hf
                refine lv_bipush (v := -6) hx hb dX2_create_92 (by decide) ?_
                cases hf
                exact retI hx hb hr hlocks hP hS dX2_create_94
            · have hf := it_t c69 hf
              refine lv_bipush (v := -5) hx hb dX2_create_72 (by decide) ?_
              cases hf
              exact retI hx hb hr hlocks hP hS dX2_create_74
        · have hf := it_f c39 hf
          refine lv_bipush (v := -3) hx hb dX2_create_42 (by decide) ?_
          cases hf
          exact retI hx hb hr hlocks hP hS dX2_create_44
      · have hf := it_t c24 hf
        refine lv_bipush (v := -2) hx hb dX2_create_27 (by decide) ?_
        cases hf
        exact retI hx hb hr hlocks hP hS dX2_create_29
    · have hf := it_t c11 hf
      refine lv_iconst (v := -1) hx hb dX2_create_14 (by decide) ?_
      cases hf
      exact retI hx hb hr hlocks hP hS dX2_create_15
end
section
theorem gX2_link_49 : GoodIn wsX2_link (wsS RX2 49 yX2_isNode wsX2_isNode) := gIn (memS q_64 q_65 q_1 q_66)
theorem gX2_link_53 : GoodIn wsX2_link (wsS RX2 53 yX2_isName wsX2_isName) := gIn (memS q_67 q_68 q_1 q_69)
theorem gX2_link_56 : GoodIn wsX2_link (wsV RX2 56 RX1 yX1_isDirectory wsX1_isDirectory) := gIn (memV q_70 q_71 q_72 q_3 q_73)
theorem gX2_link_80 : GoodIn wsX2_link (wsV RX2 80 RX1 yX1_isFile wsX1_isFile) := gIn (memV q_159 q_51 q_52 q_3 q_53)
theorem gX2_link_59 : GoodIn wsX2_link (wsV RX2 59 RX1 yX1_target wsX1_target) := gIn (memV q_74 q_75 q_76 q_3 q_77)
theorem gX2_link_65 : GoodIn wsX2_link (wsV RX2 65 RX1 yX1_size wsX1_size) := gIn (memV q_82 q_83 q_84 q_3 q_85)
theorem gX2_link_69 : GoodIn wsX2_link (wsS RX2 69 yX2_costOf wsX2_costOf) := gIn (memS q_86 q_87 q_1 q_88)
theorem gX2_link_72 : GoodIn wsX2_link (wsV RX2 72 RX2 yX2_makesRoom wsX2_makesRoom) := gIn (memV q_89 q_90 q_344 q_1 q_91)
theorem gX2_link_76 : GoodIn wsX2_link (wsV RX2 76 RX2 yX2_perform wsX2_perform) := gIn (memV q_109 q_110 q_347 q_1 q_111)
set_option maxHeartbeats 4000000 in
set_option maxRecDepth 100000 in
theorem cX2_link_met (l : Launch) (dC : Nat → ClassId) (dI : Nat → Nat → Nat) (cI : ClassId) (h0 ht0 ht1 ht2 ht3 ht4 ht5 ht6 hu0 hu1 hu2 hu3 hu4 hu5 hu6 hg0 hg1 : Nat) (hlim : Int32) (hkpt : Int32) (hsyn : Int32) (htkd : Nat → Int32) (htsz : Nat → Int32) (htlk : Nat → Int32) (hthm : Nat → Int32) (httg : Nat → Int32) (htvl : Nat → Int32) (hukd : Nat → Int32) (husz : Nat → Int32) (hulk : Nat → Int32) (huhm : Nat → Int32) (hutg : Nat → Int32) (huvl : Nat → Int32) (hgln : Int32) (hgrw : Nat → Int32) (x1 : Int32) (x2 : Int32) (x3 : Int32) (r : Int32) (hkpt_o : Int32) (hsyn_o : Int32) (htkd_o : Nat → Int32) (htsz_o : Nat → Int32) (htlk_o : Nat → Int32) (hthm_o : Nat → Int32) (httg_o : Nat → Int32) (htvl_o : Nat → Int32) (hukd_o : Nat → Int32) (husz_o : Nat → Int32) (hulk_o : Nat → Int32) (huhm_o : Nat → Int32) (hutg_o : Nat → Int32) (huvl_o : Nat → Int32) (hgln_o : Int32) (hgrw_o : Nat → Int32) (hf : fX2_link x1 x2 x3 hlim hkpt hsyn htkd htsz htlk hthm httg htvl hukd husz hulk huhm hutg huvl hgln hgrw = some (r, hkpt_o, hsyn_o, htkd_o, htsz_o, htlk_o, hthm_o, httg_o, htvl_o, hukd_o, husz_o, hulk_o, huhm_o, hutg_o, huvl_o, hgln_o, hgrw_o)) : Met l yX2_link wsX2_link ({ frames := 6, cells := 0, slots := 0, locals := 126 } : Room) (pcW [.ref h0, .int x1, .int x2, .int x3] (dC, dI) vwCl [(cI, .int)] (wX2 cI h0 ht0 ht1 ht2 ht3 ht4 ht5 ht6 hu0 hu1 hu2 hu3 hu4 hu5 hu6 hg0 hg1 hlim hkpt hsyn htkd htsz htlk hthm httg htvl hukd husz hulk huhm hutg huvl hgln hgrw)) (qI r (va_P (dC, dI) vwCl (wX2 cI h0 ht0 ht1 ht2 ht3 ht4 ht5 ht6 hu0 hu1 hu2 hu3 hu4 hu5 hu6 hg0 hg1 hlim hkpt_o hsyn_o htkd_o htsz_o htlk_o hthm_o httg_o htvl_o hukd_o husz_o hulk_o huhm_o hutg_o huvl_o hgln_o hgrw_o)) (inA [h0, ht0, ht1, ht2, ht3, ht4, ht5, ht6, hu0, hu1, hu2, hu3, hu4, hu5, hu6, hg0, hg1])) 0 0 (inA [h0, ht0, ht1, ht2, ht3, ht4, ht5, ht6, hu0, hu1, hu2, hu3, hu4, hu5, hu6, hg0, hg1]) := by
  refine Met.ofW (cc := cX2_link) (maxL := 5) (ret := (some .int)) (by decide) rfl ?_
  intro p e s m args below meth c s₁ B hml hv
  obtain ⟨rfl, hP, hK, hD0⟩ := hv
  have hx := B.exec
  have hb := B.bytes
  have hr := B.returns
  have hts := atoms_spec (ws := wsX2_link) B.pre
  have hown : s.vm.findClass RX2 = some m.cls := findClass_of_methodNamed B.named
  have hlocks := B.notSynchronized
  have hD := my_self (as := [h0, ht0, ht1, ht2, ht3, ht4, ht5, ht6, hu0, hu1, hu2, hu3, hu4, hu5, hu6, hg0, hg1]) hD0 rfl
  have hS : va_S (inA [h0, ht0, ht1, ht2, ht3, ht4, ht5, ht6, hu0, hu1, hu2, hu3, hu4, hu5, hu6, hg0, hg1]) s.heap s.heap [] := va_S.rf
  have hl := lv_entry ([.ref h0, .int x1, .int x2, .int x3]) (n := 5) (Nat.le_of_ble_eq_true rfl)
  rw [lg_entry_eq]
  generalize (lg_sl ([.ref h0, .int x1, .int x2, .int x3]) ++ List.replicate (5 - (lg_sl ([.ref h0, .int x1, .int x2, .int x3])).length) Slot.unset).toArray = ls at hl ⊢
  have hl : lv_has ls 5 [(0, .ref h0), (1, .int x1), (2, .int x2), (3, .int x3)] := hl
  unfold fX2_link at hf
  refine lv_iload_n hx hb dX2_link_0 rfl (lv_at hl 1 rfl) ?_
  obtain ⟨r1, hc1, hf⟩ := bn1_e hf
  refine callRi (va_runS (As := [.int x1]) (rest := []) ⟨hx, hb, hml, hown, hts⟩ (cX2_isNode_met l dC dI cI x1 r1 hc1) (cwS 1 hts gX2_link_49 rfl rfl rfl (by decide +kernel) ⟨Nat.le_of_ble_eq_true rfl, Nat.le_of_ble_eq_true rfl⟩) (preRS hK (hP.sub (ws' := []) [] rfl)) rfl rfl hl.1 rfl (lv_room (Nat.le_of_ble_eq_true rfl)) dX2_link_1 ⟨Nat.le_of_ble_eq_true rfl, Nat.le_of_ble_eq_true rfl⟩) hS hP (fun H locs hP hS => ?_)
  refine lv_if_eq (tgt := 21) hx hb dX2_link_4 (by decide) (fun c4 => ?_) (fun c4 => ?_)
  · have hf := it_t c4 hf
    refine lv_iconst (v := -1) hx hb dX2_link_21 (by decide) ?_
    cases hf
    exact retI hx hb hr hlocks hP hS dX2_link_22
  · have hf := it_f c4 hf
    refine lv_iload_n hx hb dX2_link_7 rfl (lv_at hl 2 rfl) ?_
    obtain ⟨r8, hc8, hf⟩ := bn1_e hf
    refine callRi (va_runS (As := [.int x2]) (rest := []) ⟨hx, hb, hml, hown, hts⟩ (cX2_isName_met l dC dI cI x2 r8 hc8) (cwS 1 hts gX2_link_53 rfl rfl rfl (by decide +kernel) ⟨Nat.le_of_ble_eq_true rfl, Nat.le_of_ble_eq_true rfl⟩) (preRS hK (hP.sub (ws' := []) [] rfl)) rfl rfl hl.1 rfl (lv_room (Nat.le_of_ble_eq_true rfl)) dX2_link_8 ⟨Nat.le_of_ble_eq_true rfl, Nat.le_of_ble_eq_true rfl⟩) hS hP (fun H locs hP hS => ?_)
    refine lv_if_eq (tgt := 21) hx hb dX2_link_11 (by decide) (fun c11 => ?_) (fun c11 => ?_)
    · have hf := it_t c11 hf
      refine lv_iconst (v := -1) hx hb dX2_link_21 (by decide) ?_
      cases hf
      exact retI hx hb hr hlocks hP hS dX2_link_22
    · have hf := it_f c11 hf
      refine lv_iload_n hx hb dX2_link_14 rfl (lv_at hl 3 rfl) ?_
      obtain ⟨r15, hc15, hf⟩ := bn1_e hf
      refine callRi (va_runS (As := [.int x3]) (rest := []) ⟨hx, hb, hml, hown, hts⟩ (cX2_isNode_met l dC dI cI x3 r15 hc15) (cwS 1 hts gX2_link_49 rfl rfl rfl (by decide +kernel) ⟨Nat.le_of_ble_eq_true rfl, Nat.le_of_ble_eq_true rfl⟩) (preRS hK (hP.sub (ws' := []) [] rfl)) rfl rfl hl.1 rfl (lv_room (Nat.le_of_ble_eq_true rfl)) dX2_link_15 ⟨Nat.le_of_ble_eq_true rfl, Nat.le_of_ble_eq_true rfl⟩) hS hP (fun H locs hP hS => ?_)
      refine lv_if_ne (tgt := 23) hx hb dX2_link_18 (by decide) (fun c18 => ?_) (fun c18 => ?_)
      · have hf := it_f c18 hf
        refine lv_aload_n hx hb dX2_link_23 rfl (lv_at hl 0 rfl) ?_
        refine va_get (D := (dC, dI)) (ci := 2) (v := .ref ht0) (C := RX2) (T := TX2) (N := 6) hx hb hts (fun w h => mc (inX2 w h)) hown hK hP 0 rfl rfl 1 (by decide) (hts _ (mc q_55)) (fun _ h9 => h9) rfl dX2_link_24 ?_
        refine lv_iload_n hx hb dX2_link_27 rfl (lv_at hl 1 rfl) ?_
        obtain ⟨r28, hc28, hf⟩ := bn1_e hf
        refine callRi (va_runV (As := [.int x1]) (rest := []) ⟨hx, hb, hml, hown, hts⟩ (cX1_isDirectory_met l dC dI cI ht0 ht1 ht2 ht3 ht4 ht5 ht6 htkd htsz htlk hthm httg htvl x1 r28 hc28) (cwV 1 hts gX2_link_56 rfl rfl rfl (by decide +kernel) ⟨Nat.le_of_ble_eq_true rfl, Nat.le_of_ble_eq_true rfl⟩) (preRV (ci := 1) (q0 := 0) hK (hP.sub (ws' := (wX1 cI ht0 ht1 ht2 ht3 ht4 ht5 ht6 htkd htsz htlk hthm httg htvl)) [1, 2, 3, 4, 5, 6, 7] rfl) rfl rfl) rfl rfl hl.1 rfl (lv_room (Nat.le_of_ble_eq_true rfl)) dX2_link_28 ⟨Nat.le_of_ble_eq_true rfl, Nat.le_of_ble_eq_true rfl⟩) hS hP (fun H locs hP hS => ?_)
        refine lv_if_eq (tgt := 45) hx hb dX2_link_31 (by decide) (fun c31 => ?_) (fun c31 => ?_)
        · have hf := it_t c31 hf
          refine lv_bipush (v := -2) hx hb dX2_link_45 (by decide) ?_
          cases hf
          exact retI hx hb hr hlocks hP hS dX2_link_47
        · have hf := it_f c31 hf
          refine lv_aload_n hx hb dX2_link_34 rfl (lv_at hl 0 rfl) ?_
          refine va_get (D := (dC, dI)) (ci := 2) (v := .ref ht0) (C := RX2) (T := TX2) (N := 6) hx hb hts (fun w h => mc (inX2 w h)) hown hK hP 0 rfl rfl 1 (by decide) (hts _ (mc q_55)) (fun _ h9 => h9) rfl dX2_link_35 ?_
          refine lv_iload_n hx hb dX2_link_38 rfl (lv_at hl 3 rfl) ?_
          obtain ⟨r39, hc39, hf⟩ := bn1_e hf
          refine callRi (va_runV (As := [.int x3]) (rest := []) ⟨hx, hb, hml, hown, hts⟩ (cX1_isFile_met l dC dI cI ht0 ht1 ht2 ht3 ht4 ht5 ht6 htkd htsz htlk hthm httg htvl x3 r39 hc39) (cwV 1 hts gX2_link_80 rfl rfl rfl (by decide +kernel) ⟨Nat.le_of_ble_eq_true rfl, Nat.le_of_ble_eq_true rfl⟩) (preRV (ci := 1) (q0 := 0) hK (hP.sub (ws' := (wX1 cI ht0 ht1 ht2 ht3 ht4 ht5 ht6 htkd htsz htlk hthm httg htvl)) [1, 2, 3, 4, 5, 6, 7] rfl) rfl rfl) rfl rfl hl.1 rfl (lv_room (Nat.le_of_ble_eq_true rfl)) dX2_link_39 ⟨Nat.le_of_ble_eq_true rfl, Nat.le_of_ble_eq_true rfl⟩) hS hP (fun H locs hP hS => ?_)
          refine lv_if_ne (tgt := 48) hx hb dX2_link_42 (by decide) (fun c42 => ?_) (fun c42 => ?_)
          · have hf := it_f c42 hf
            refine lv_aload_n hx hb dX2_link_48 rfl (lv_at hl 0 rfl) ?_
            refine va_get (D := (dC, dI)) (ci := 2) (v := .ref ht0) (C := RX2) (T := TX2) (N := 6) hx hb hts (fun w h => mc (inX2 w h)) hown hK hP 0 rfl rfl 1 (by decide) (hts _ (mc q_55)) (fun _ h9 => h9) rfl dX2_link_49 ?_
            refine lv_iload_n hx hb dX2_link_52 rfl (lv_at hl 1 rfl) ?_
            refine lv_iload_n hx hb dX2_link_53 rfl (lv_at hl 2 rfl) ?_
            obtain ⟨r54, hc54, hf⟩ := bn1_e hf
            refine callRi (va_runV (As := [.int x1, .int x2]) (rest := []) ⟨hx, hb, hml, hown, hts⟩ (cX1_target_met l dC dI cI ht0 ht1 ht2 ht3 ht4 ht5 ht6 htkd htsz htlk hthm httg htvl x1 x2 r54 hc54) (cwV 2 hts gX2_link_59 rfl rfl rfl (by decide +kernel) ⟨Nat.le_of_ble_eq_true rfl, Nat.le_of_ble_eq_true rfl⟩) (preRV (ci := 1) (q0 := 0) hK (hP.sub (ws' := (wX1 cI ht0 ht1 ht2 ht3 ht4 ht5 ht6 htkd htsz htlk hthm httg htvl)) [1, 2, 3, 4, 5, 6, 7] rfl) rfl rfl) rfl rfl hl.1 rfl (lv_room (Nat.le_of_ble_eq_true rfl)) dX2_link_54 ⟨Nat.le_of_ble_eq_true rfl, Nat.le_of_ble_eq_true rfl⟩) hS hP (fun H locs hP hS => ?_)
            refine lv_if_eq (tgt := 63) hx hb dX2_link_57 (by decide) (fun c57 => ?_) (fun c57 => ?_)
            · have hf := it_t c57 hf
              refine lv_aload_n hx hb dX2_link_63 rfl (lv_at hl 0 rfl) ?_
              refine va_get (D := (dC, dI)) (ci := 2) (v := .ref ht0) (C := RX2) (T := TX2) (N := 6) hx hb hts (fun w h => mc (inX2 w h)) hown hK hP 0 rfl rfl 1 (by decide) (hts _ (mc q_55)) (fun _ h9 => h9) rfl dX2_link_64 ?_
              refine lv_iload_n hx hb dX2_link_67 rfl (lv_at hl 1 rfl) ?_
              obtain ⟨r68, hc68, hf⟩ := bn1_e hf
              refine callRi (va_runV (As := [.int x1]) (rest := []) ⟨hx, hb, hml, hown, hts⟩ (cX1_size_met l dC dI cI ht0 ht1 ht2 ht3 ht4 ht5 ht6 htkd htsz htlk hthm httg htvl x1 r68 hc68) (cwV 1 hts gX2_link_65 rfl rfl rfl (by decide +kernel) ⟨Nat.le_of_ble_eq_true rfl, Nat.le_of_ble_eq_true rfl⟩) (preRV (ci := 1) (q0 := 0) hK (hP.sub (ws' := (wX1 cI ht0 ht1 ht2 ht3 ht4 ht5 ht6 htkd htsz htlk hthm httg htvl)) [1, 2, 3, 4, 5, 6, 7] rfl) rfl rfl) rfl rfl hl.1 rfl (lv_room (Nat.le_of_ble_eq_true rfl)) dX2_link_68 ⟨Nat.le_of_ble_eq_true rfl, Nat.le_of_ble_eq_true rfl⟩) hS hP (fun H locs hP hS => ?_)
              refine lv_bipush (v := 8) hx hb dX2_link_71 (by decide) ?_
              refine lv_icmp_lt (tgt := 79) hx hb dX2_link_73 (by decide) (fun c73 => ?_) (fun c73 => ?_)
              · have hf := it_t c73 hf
                refine lv_iconst (v := 2) hx hb dX2_link_79 (by decide) ?_
                refine lv_iconst (v := 0) hx hb dX2_link_80 (by decide) ?_
                obtain ⟨r81, hc81, hf⟩ := bn1_e hf
                refine callRi (va_runS (As := [.int 2, .int 0]) (rest := []) ⟨hx, hb, hml, hown, hts⟩ (cX2_costOf_met l dC dI cI 2 0 r81 hc81) (cwS 2 hts gX2_link_69 rfl rfl rfl (by decide +kernel) ⟨Nat.le_of_ble_eq_true rfl, Nat.le_of_ble_eq_true rfl⟩) (preRS hK (hP.sub (ws' := []) [] rfl)) rfl rfl hl.1 rfl (lv_room (Nat.le_of_ble_eq_true rfl)) dX2_link_81 ⟨Nat.le_of_ble_eq_true rfl, Nat.le_of_ble_eq_true rfl⟩) hS hP (fun H locs hP hS => ?_)
                refine lv_istore (lv' := [(4, .int r81), (0, .ref h0), (1, .int x1), (2, .int x2), (3, .int x3)]) hx hb dX2_link_84 hl (by decide) rfl (fun ls hl => ?_)
                refine lv_aload_n hx hb dX2_link_86 rfl (lv_at hl 1 rfl) ?_
                refine lv_iload hx hb dX2_link_87 (lv_at hl 0 rfl) ?_
                refine lv_iconst (v := 0) hx hb dX2_link_89 (by decide) ?_
                obtain ⟨r90, hkpt_90, hsyn_90, hukd_90, husz_90, hulk_90, huhm_90, hutg_90, huvl_90, hgln_90, hc90, hf⟩ := bn10_e hf
                refine callVi (w1 := (wX2 cI h0 ht0 ht1 ht2 ht3 ht4 ht5 ht6 hu0 hu1 hu2 hu3 hu4 hu5 hu6 hg0 hg1 hlim hkpt_90 hsyn_90 htkd htsz htlk hthm httg htvl hukd_90 husz_90 hulk_90 huhm_90 hutg_90 huvl_90 hgln_90 hgrw)) (va_runV (As := [.int r81, .int 0]) (rest := []) ⟨hx, hb, hml, hown, hts⟩ (cX2_makesRoom_met l dC dI cI h0 ht0 ht1 ht2 ht3 ht4 ht5 ht6 hu0 hu1 hu2 hu3 hu4 hu5 hu6 hg0 hg1 hlim hkpt hsyn htkd htsz htlk hthm httg htvl hukd husz hulk huhm hutg huvl hgln hgrw r81 0 r90 hkpt_90 hsyn_90 hukd_90 husz_90 hulk_90 huhm_90 hutg_90 huvl_90 hgln_90 hc90) (cwV 2 hts gX2_link_72 rfl rfl rfl (by decide +kernel) ⟨Nat.le_of_ble_eq_true rfl, Nat.le_of_ble_eq_true rfl⟩) (preWV (ci := 2) (q0 := 0) hK hP hD rfl rfl) rfl rfl hl.1 rfl (lv_room (Nat.le_of_ble_eq_true rfl)) dX2_link_90 ⟨Nat.le_of_ble_eq_true rfl, Nat.le_of_ble_eq_true rfl⟩) hS hD rfl rfl (fun H locs hP hD hS => ?_)
                refine lv_if_ne (tgt := 99) hx hb dX2_link_93 (by decide) (fun c93 => ?_) (fun c93 => ?_)
                · have hf := it_f c93 hf
                  refine lv_aload_n hx hb dX2_link_99 rfl (lv_at hl 1 rfl) ?_
                  refine lv_iload hx hb dX2_link_100 (lv_at hl 0 rfl) ?_
                  refine lv_iconst (v := 1) hx hb dX2_link_102 (by decide) ?_
                  refine lv_iload_n hx hb dX2_link_103 rfl (lv_at hl 2 rfl) ?_
                  refine lv_iload_n hx hb dX2_link_104 rfl (lv_at hl 3 rfl) ?_
                  refine lv_iload_n hx hb dX2_link_105 rfl (lv_at hl 4 rfl) ?_
                  refine lv_iconst (v := 0) hx hb dX2_link_106 (by decide) ?_
                  obtain ⟨hkpt_107, htkd_107, htsz_107, htlk_107, hthm_107, httg_107, htvl_107, hgln_107, hgrw_107, hc107, hf⟩ := bn9_e hf
                  refine callVv (w1 := (wX2 cI h0 ht0 ht1 ht2 ht3 ht4 ht5 ht6 hu0 hu1 hu2 hu3 hu4 hu5 hu6 hg0 hg1 hlim hkpt_107 hsyn_90 htkd_107 htsz_107 htlk_107 hthm_107 httg_107 htvl_107 hukd_90 husz_90 hulk_90 huhm_90 hutg_90 huvl_90 hgln_107 hgrw_107)) (va_runV (As := [.int r81, .int 1, .int x1, .int x2, .int x3, .int 0]) (rest := []) ⟨hx, hb, hml, hown, hts⟩ (cX2_perform_met l dC dI cI h0 ht0 ht1 ht2 ht3 ht4 ht5 ht6 hu0 hu1 hu2 hu3 hu4 hu5 hu6 hg0 hg1 hlim hkpt_90 hsyn_90 htkd htsz htlk hthm httg htvl hukd_90 husz_90 hulk_90 huhm_90 hutg_90 huvl_90 hgln_90 hgrw r81 1 x1 x2 x3 0 hkpt_107 htkd_107 htsz_107 htlk_107 hthm_107 httg_107 htvl_107 hgln_107 hgrw_107 hc107) (cwV 6 hts gX2_link_76 rfl rfl rfl (by decide +kernel) ⟨Nat.le_of_ble_eq_true rfl, Nat.le_of_ble_eq_true rfl⟩) (preWV (ci := 2) (q0 := 0) hK hP hD rfl rfl) rfl rfl hl.1 rfl (lv_room (Nat.le_of_ble_eq_true rfl)) dX2_link_107 ⟨Nat.le_of_ble_eq_true rfl, Nat.le_of_ble_eq_true rfl⟩) hS hD rfl rfl (fun H locs hP hD hS => ?_)
                  refine lv_iconst (v := 0) hx hb dX2_link_110 (by decide) ?_
                  cases hf
                  exact retI hx hb hr hlocks hP hS dX2_link_111
                · have hf := it_t c93 hf
                  refine lv_bipush (v := -6) hx hb dX2_link_96 (by decide) ?_
                  cases hf
                  exact retI hx hb hr hlocks hP hS dX2_link_98
              · have hf := it_f c73 hf
                refine lv_bipush (v := -5) hx hb dX2_link_76 (by decide) ?_
                cases hf
                exact retI hx hb hr hlocks hP hS dX2_link_78
            · have hf := it_f c57 hf
              refine lv_bipush (v := -3) hx hb dX2_link_60 (by decide) ?_
              cases hf
              exact retI hx hb hr hlocks hP hS dX2_link_62
          · have hf := it_t c42 hf
            refine lv_bipush (v := -2) hx hb dX2_link_45 (by decide) ?_
            cases hf
            exact retI hx hb hr hlocks hP hS dX2_link_47
      · have hf := it_t c18 hf
        refine lv_iconst (v := -1) hx hb dX2_link_21 (by decide) ?_
        cases hf
        exact retI hx hb hr hlocks hP hS dX2_link_22
end
section
theorem gX2_remove_49 : GoodIn wsX2_remove (wsS RX2 49 yX2_isNode wsX2_isNode) := gIn (memS q_64 q_65 q_1 q_66)
theorem gX2_remove_53 : GoodIn wsX2_remove (wsS RX2 53 yX2_isName wsX2_isName) := gIn (memS q_67 q_68 q_1 q_69)
theorem gX2_remove_56 : GoodIn wsX2_remove (wsV RX2 56 RX1 yX1_isDirectory wsX1_isDirectory) := gIn (memV q_70 q_71 q_72 q_3 q_73)
theorem gX2_remove_59 : GoodIn wsX2_remove (wsV RX2 59 RX1 yX1_target wsX1_target) := gIn (memV q_74 q_75 q_76 q_3 q_77)
theorem gX2_remove_65 : GoodIn wsX2_remove (wsV RX2 65 RX1 yX1_size wsX1_size) := gIn (memV q_82 q_83 q_84 q_3 q_85)
theorem gX2_remove_83 : GoodIn wsX2_remove (wsV RX2 83 RX1 yX1_links wsX1_links) := gIn (memV q_164 q_165 q_166 q_3 q_167)
theorem gX2_remove_69 : GoodIn wsX2_remove (wsS RX2 69 yX2_costOf wsX2_costOf) := gIn (memS q_86 q_87 q_1 q_88)
theorem gX2_remove_86 : GoodIn wsX2_remove (wsV RX2 86 RX1 yX1_blocks wsX1_blocks) := gIn (memV q_168 q_47 q_48 q_3 q_49)
theorem gX2_remove_72 : GoodIn wsX2_remove (wsV RX2 72 RX2 yX2_makesRoom wsX2_makesRoom) := gIn (memV q_89 q_90 q_344 q_1 q_91)
theorem gX2_remove_76 : GoodIn wsX2_remove (wsV RX2 76 RX2 yX2_perform wsX2_perform) := gIn (memV q_109 q_110 q_347 q_1 q_111)
set_option maxHeartbeats 4000000 in
set_option maxRecDepth 100000 in
theorem wbX2_remove_133 {p : Program} {l : Launch} {e : Env} {s : State} {m : MethodId} {args : Array Value} {below : List Frame} {meth : Method} {c : Code} {dC : Nat → ClassId} {dI : Nat → Nat → Nat} {cI : ClassId} (hx : p.tables.exec = Jvm.exec) (hb : c.code = cX2_remove) (hml : c.maxLocals = 6) (hown : s.vm.findClass RX2 = some m.cls) (hts : ∀ w ∈ wsX2_remove, w.before args s = true) (hr : meth.sig.returnType = (some .int)) (hlocks : meth.locks = false) (hK : va_K (dC, dI) vwCl [(cI, .int)] s) (h0 ht0 ht1 ht2 ht3 ht4 ht5 ht6 hu0 hu1 hu2 hu3 hu4 hu5 hu6 hg0 hg1 : Nat) (hlim : Int32) (r : Int32) (hkpt_o : Int32) (hsyn_o : Int32) (htkd_o : Nat → Int32) (htsz_o : Nat → Int32) (htlk_o : Nat → Int32) (hthm_o : Nat → Int32) (httg_o : Nat → Int32) (htvl_o : Nat → Int32) (hukd_o : Nat → Int32) (husz_o : Nat → Int32) (hulk_o : Nat → Int32) (huhm_o : Nat → Int32) (hutg_o : Nat → Int32) (huvl_o : Nat → Int32) (hgln_o : Int32) (hgrw_o : Nat → Int32) : ∀ (x1 : Int32) (x2 : Int32) (x5 : Int32) (z0 : Int32) (z1 : Int32) (hkpt : Int32) (hsyn : Int32) (htkd : Nat → Int32) (htsz : Nat → Int32) (htlk : Nat → Int32) (hthm : Nat → Int32) (httg : Nat → Int32) (htvl : Nat → Int32) (hukd : Nat → Int32) (husz : Nat → Int32) (hulk : Nat → Int32) (huhm : Nat → Int32) (hutg : Nat → Int32) (huvl : Nat → Int32) (hgln : Int32) (hgrw : Nat → Int32) (H : Heap) (locs : List Loc), va_P (dC, dI) vwCl (wX2 cI h0 ht0 ht1 ht2 ht3 ht4 ht5 ht6 hu0 hu1 hu2 hu3 hu4 hu5 hu6 hg0 hg1 hlim hkpt hsyn htkd htsz htlk hthm httg htvl hukd husz hulk huhm hutg huvl hgln hgrw) H → va_D (inA [h0, ht0, ht1, ht2, ht3, ht4, ht5, ht6, hu0, hu1, hu2, hu3, hu4, hu5, hu6, hg0, hg1]) (wX2 cI h0 ht0 ht1 ht2 ht3 ht4 ht5 ht6 hu0 hu1 hu2 hu3 hu4 hu5 hu6 hg0 hg1 hlim hkpt hsyn htkd htsz htlk hthm httg htvl hukd husz hulk huhm hutg huvl hgln hgrw) → va_S (inA [h0, ht0, ht1, ht2, ht3, ht4, ht5, ht6, hu0, hu1, hu2, hu3, hu4, hu5, hu6, hg0, hg1]) s.heap H locs → ∀ (ls : Array Slot), lv_has ls 6 [(0, .ref h0), (1, .int x1), (2, .int x2), (5, .int x5)] → fX2_remove_b133 hlim x1 x2 x5 z0 z1 hkpt hsyn htkd htsz htlk hthm httg htvl hukd husz hulk huhm hutg huvl hgln hgrw = some (r, hkpt_o, hsyn_o, htkd_o, htsz_o, htlk_o, hthm_o, httg_o, htvl_o, hukd_o, husz_o, hulk_o, huhm_o, hutg_o, huvl_o, hgln_o, hgrw_o) → W p l e ({ frames := 6, cells := 0, slots := 0, locals := 126 } : Room) s m args below meth c H locs 0 0 (MQ below (qI r (va_P (dC, dI) vwCl (wX2 cI h0 ht0 ht1 ht2 ht3 ht4 ht5 ht6 hu0 hu1 hu2 hu3 hu4 hu5 hu6 hg0 hg1 hlim hkpt_o hsyn_o htkd_o htsz_o htlk_o hthm_o httg_o htvl_o hukd_o husz_o hulk_o huhm_o hutg_o huvl_o hgln_o hgrw_o)) (inA [h0, ht0, ht1, ht2, ht3, ht4, ht5, ht6, hu0, hu1, hu2, hu3, hu4, hu5, hu6, hg0, hg1])) args s 0 0 (inA [h0, ht0, ht1, ht2, ht3, ht4, ht5, ht6, hu0, hu1, hu2, hu3, hu4, hu5, hu6, hg0, hg1])) (F0 m 133 ls [.int z0, .int z1, .ref h0]) := by
  intro x1 x2 x5 z0 z1 hkpt hsyn htkd htsz htlk hthm httg htvl hukd husz hulk huhm hutg huvl hgln hgrw H locs hP hD hS ls hl hf
  unfold fX2_remove_b133 at hf
  obtain ⟨r133, hkpt_133, hsyn_133, hukd_133, husz_133, hulk_133, huhm_133, hutg_133, huvl_133, hgln_133, hc133, hf⟩ := bn10_e hf
  refine callVi (w1 := (wX2 cI h0 ht0 ht1 ht2 ht3 ht4 ht5 ht6 hu0 hu1 hu2 hu3 hu4 hu5 hu6 hg0 hg1 hlim hkpt_133 hsyn_133 htkd htsz htlk hthm httg htvl hukd_133 husz_133 hulk_133 huhm_133 hutg_133 huvl_133 hgln_133 hgrw)) (va_runV (As := [.int z1, .int z0]) (rest := []) ⟨hx, hb, hml, hown, hts⟩ (cX2_makesRoom_met l dC dI cI h0 ht0 ht1 ht2 ht3 ht4 ht5 ht6 hu0 hu1 hu2 hu3 hu4 hu5 hu6 hg0 hg1 hlim hkpt hsyn htkd htsz htlk hthm httg htvl hukd husz hulk huhm hutg huvl hgln hgrw z1 z0 r133 hkpt_133 hsyn_133 hukd_133 husz_133 hulk_133 huhm_133 hutg_133 huvl_133 hgln_133 hc133) (cwV 2 hts gX2_remove_72 rfl rfl rfl (by decide +kernel) ⟨Nat.le_of_ble_eq_true rfl, Nat.le_of_ble_eq_true rfl⟩) (preWV (ci := 2) (q0 := 0) hK hP hD rfl rfl) rfl rfl hl.1 rfl (lv_room (Nat.le_of_ble_eq_true rfl)) dX2_remove_133 ⟨Nat.le_of_ble_eq_true rfl, Nat.le_of_ble_eq_true rfl⟩) hS hD rfl rfl (fun H locs hP hD hS => ?_)
  refine lv_if_ne (tgt := 142) hx hb dX2_remove_136 (by decide) (fun c136 => ?_) (fun c136 => ?_)
  · have hf := it_f c136 hf
    refine lv_aload_n hx hb dX2_remove_142 rfl (lv_at hl 0 rfl) ?_
    refine lv_iload hx hb dX2_remove_143 (lv_at hl 3 rfl) ?_
    refine lv_iconst (v := 2) hx hb dX2_remove_145 (by decide) ?_
    refine lv_iload_n hx hb dX2_remove_146 rfl (lv_at hl 1 rfl) ?_
    refine lv_iload_n hx hb dX2_remove_147 rfl (lv_at hl 2 rfl) ?_
    refine lv_iconst (v := 0) hx hb dX2_remove_148 (by decide) ?_
    refine lv_iconst (v := 0) hx hb dX2_remove_149 (by decide) ?_
    obtain ⟨hkpt_150, htkd_150, htsz_150, htlk_150, hthm_150, httg_150, htvl_150, hgln_150, hgrw_150, hc150, hf⟩ := bn9_e hf
    refine callVv (w1 := (wX2 cI h0 ht0 ht1 ht2 ht3 ht4 ht5 ht6 hu0 hu1 hu2 hu3 hu4 hu5 hu6 hg0 hg1 hlim hkpt_150 hsyn_133 htkd_150 htsz_150 htlk_150 hthm_150 httg_150 htvl_150 hukd_133 husz_133 hulk_133 huhm_133 hutg_133 huvl_133 hgln_150 hgrw_150)) (va_runV (As := [.int x5, .int 2, .int x1, .int x2, .int 0, .int 0]) (rest := []) ⟨hx, hb, hml, hown, hts⟩ (cX2_perform_met l dC dI cI h0 ht0 ht1 ht2 ht3 ht4 ht5 ht6 hu0 hu1 hu2 hu3 hu4 hu5 hu6 hg0 hg1 hlim hkpt_133 hsyn_133 htkd htsz htlk hthm httg htvl hukd_133 husz_133 hulk_133 huhm_133 hutg_133 huvl_133 hgln_133 hgrw x5 2 x1 x2 0 0 hkpt_150 htkd_150 htsz_150 htlk_150 hthm_150 httg_150 htvl_150 hgln_150 hgrw_150 hc150) (cwV 6 hts gX2_remove_76 rfl rfl rfl (by decide +kernel) ⟨Nat.le_of_ble_eq_true rfl, Nat.le_of_ble_eq_true rfl⟩) (preWV (ci := 2) (q0 := 0) hK hP hD rfl rfl) rfl rfl hl.1 rfl (lv_room (Nat.le_of_ble_eq_true rfl)) dX2_remove_150 ⟨Nat.le_of_ble_eq_true rfl, Nat.le_of_ble_eq_true rfl⟩) hS hD rfl rfl (fun H locs hP hD hS => ?_)
    refine lv_iconst (v := 0) hx hb dX2_remove_153 (by decide) ?_
    cases hf
    exact retI hx hb hr hlocks hP hS dX2_remove_154
  · have hf := it_t c136 hf
    refine lv_bipush (v := -6) hx hb dX2_remove_139 (by decide) ?_
    cases hf
    exact retI hx hb hr hlocks hP hS dX2_remove_141
set_option maxHeartbeats 4000000 in
set_option maxRecDepth 100000 in
theorem wbX2_remove_106 {p : Program} {l : Launch} {e : Env} {s : State} {m : MethodId} {args : Array Value} {below : List Frame} {meth : Method} {c : Code} {dC : Nat → ClassId} {dI : Nat → Nat → Nat} {cI : ClassId} (hx : p.tables.exec = Jvm.exec) (hb : c.code = cX2_remove) (hml : c.maxLocals = 6) (hown : s.vm.findClass RX2 = some m.cls) (hts : ∀ w ∈ wsX2_remove, w.before args s = true) (hr : meth.sig.returnType = (some .int)) (hlocks : meth.locks = false) (hK : va_K (dC, dI) vwCl [(cI, .int)] s) (h0 ht0 ht1 ht2 ht3 ht4 ht5 ht6 hu0 hu1 hu2 hu3 hu4 hu5 hu6 hg0 hg1 : Nat) (hlim : Int32) (r : Int32) (hkpt_o : Int32) (hsyn_o : Int32) (htkd_o : Nat → Int32) (htsz_o : Nat → Int32) (htlk_o : Nat → Int32) (hthm_o : Nat → Int32) (httg_o : Nat → Int32) (htvl_o : Nat → Int32) (hukd_o : Nat → Int32) (husz_o : Nat → Int32) (hulk_o : Nat → Int32) (huhm_o : Nat → Int32) (hutg_o : Nat → Int32) (huvl_o : Nat → Int32) (hgln_o : Int32) (hgrw_o : Nat → Int32) : ∀ (x1 : Int32) (x2 : Int32) (x3 : Int32) (x4 : Int32) (z0 : Int32) (hkpt : Int32) (hsyn : Int32) (htkd : Nat → Int32) (htsz : Nat → Int32) (htlk : Nat → Int32) (hthm : Nat → Int32) (httg : Nat → Int32) (htvl : Nat → Int32) (hukd : Nat → Int32) (husz : Nat → Int32) (hulk : Nat → Int32) (huhm : Nat → Int32) (hutg : Nat → Int32) (huvl : Nat → Int32) (hgln : Int32) (hgrw : Nat → Int32) (H : Heap) (locs : List Loc), va_P (dC, dI) vwCl (wX2 cI h0 ht0 ht1 ht2 ht3 ht4 ht5 ht6 hu0 hu1 hu2 hu3 hu4 hu5 hu6 hg0 hg1 hlim hkpt hsyn htkd htsz htlk hthm httg htvl hukd husz hulk huhm hutg huvl hgln hgrw) H → va_D (inA [h0, ht0, ht1, ht2, ht3, ht4, ht5, ht6, hu0, hu1, hu2, hu3, hu4, hu5, hu6, hg0, hg1]) (wX2 cI h0 ht0 ht1 ht2 ht3 ht4 ht5 ht6 hu0 hu1 hu2 hu3 hu4 hu5 hu6 hg0 hg1 hlim hkpt hsyn htkd htsz htlk hthm httg htvl hukd husz hulk huhm hutg huvl hgln hgrw) → va_S (inA [h0, ht0, ht1, ht2, ht3, ht4, ht5, ht6, hu0, hu1, hu2, hu3, hu4, hu5, hu6, hg0, hg1]) s.heap H locs → ∀ (ls : Array Slot), lv_has ls 6 [(0, .ref h0), (1, .int x1), (2, .int x2), (3, .int x3), (4, .int x4)] → fX2_remove_b106 hlim x1 x2 x3 x4 z0 hkpt hsyn htkd htsz htlk hthm httg htvl hukd husz hulk huhm hutg huvl hgln hgrw = some (r, hkpt_o, hsyn_o, htkd_o, htsz_o, htlk_o, hthm_o, httg_o, htvl_o, hukd_o, husz_o, hulk_o, huhm_o, hutg_o, huvl_o, hgln_o, hgrw_o) → W p l e ({ frames := 6, cells := 0, slots := 0, locals := 126 } : Room) s m args below meth c H locs 0 0 (MQ below (qI r (va_P (dC, dI) vwCl (wX2 cI h0 ht0 ht1 ht2 ht3 ht4 ht5 ht6 hu0 hu1 hu2 hu3 hu4 hu5 hu6 hg0 hg1 hlim hkpt_o hsyn_o htkd_o htsz_o htlk_o hthm_o httg_o htvl_o hukd_o husz_o hulk_o huhm_o hutg_o huvl_o hgln_o hgrw_o)) (inA [h0, ht0, ht1, ht2, ht3, ht4, ht5, ht6, hu0, hu1, hu2, hu3, hu4, hu5, hu6, hg0, hg1])) args s 0 0 (inA [h0, ht0, ht1, ht2, ht3, ht4, ht5, ht6, hu0, hu1, hu2, hu3, hu4, hu5, hu6, hg0, hg1])) (F0 m 106 ls [.int z0]) := by
  intro x1 x2 x3 x4 z0 hkpt hsyn htkd htsz htlk hthm httg htvl hukd husz hulk huhm hutg huvl hgln hgrw H locs hP hD hS ls hl hf
  unfold fX2_remove_b106 at hf
  refine lv_iconst (v := 0) hx hb dX2_remove_106 (by decide) ?_
  obtain ⟨r107, hc107, hf⟩ := bn1_e hf
  refine callRi (va_runS (As := [.int z0, .int 0]) (rest := []) ⟨hx, hb, hml, hown, hts⟩ (cX2_costOf_met l dC dI cI z0 0 r107 hc107) (cwS 2 hts gX2_remove_69 rfl rfl rfl (by decide +kernel) ⟨Nat.le_of_ble_eq_true rfl, Nat.le_of_ble_eq_true rfl⟩) (preRS hK (hP.sub (ws' := []) [] rfl)) rfl rfl hl.1 rfl (lv_room (Nat.le_of_ble_eq_true rfl)) dX2_remove_107 ⟨Nat.le_of_ble_eq_true rfl, Nat.le_of_ble_eq_true rfl⟩) hS hP (fun H locs hP hS => ?_)
  refine lv_istore (lv' := [(5, .int r107), (0, .ref h0), (1, .int x1), (2, .int x2), (3, .int x3), (4, .int x4)]) hx hb dX2_remove_110 hl (by decide) rfl (fun ls hl => ?_)
  refine lv_aload_n hx hb dX2_remove_112 rfl (lv_at hl 1 rfl) ?_
  refine lv_iload hx hb dX2_remove_113 (lv_at hl 0 rfl) ?_
  refine lv_iload hx hb dX2_remove_115 (lv_at hl 5 rfl) ?_
  refine lv_if_eq (tgt := 124) hx hb dX2_remove_117 (by decide) (fun c117 => ?_) (fun c117 => ?_)
  · have hf := it_t c117 hf
    refine lv_aload_n hx hb dX2_remove_124 rfl (lv_at hl 1 rfl) ?_
    refine va_get (D := (dC, dI)) (ci := 2) (v := .ref ht0) (C := RX2) (T := TX2) (N := 6) hx hb hts (fun w h => mc (inX2 w h)) hown hK hP 0 rfl rfl 1 (by decide) (hts _ (mc q_55)) (fun _ h9 => h9) rfl dX2_remove_125 ?_
    refine lv_iload_n hx hb dX2_remove_128 rfl (lv_at hl 4 rfl) ?_
    obtain ⟨r129, hc129, hf⟩ := bn1_e hf
    refine callRi (va_runV (As := [.int x3]) (rest := [.int r107, .ref h0]) ⟨hx, hb, hml, hown, hts⟩ (cX1_blocks_met l dC dI cI ht0 ht1 ht2 ht3 ht4 ht5 ht6 htkd htsz htlk hthm httg htvl x3 r129 hc129) (cwV 1 hts gX2_remove_86 rfl rfl rfl (by decide +kernel) ⟨Nat.le_of_ble_eq_true rfl, Nat.le_of_ble_eq_true rfl⟩) (preRV (ci := 1) (q0 := 0) hK (hP.sub (ws' := (wX1 cI ht0 ht1 ht2 ht3 ht4 ht5 ht6 htkd htsz htlk hthm httg htvl)) [1, 2, 3, 4, 5, 6, 7] rfl) rfl rfl) rfl rfl hl.1 rfl (lv_room (Nat.le_of_ble_eq_true rfl)) dX2_remove_129 ⟨Nat.le_of_ble_eq_true rfl, Nat.le_of_ble_eq_true rfl⟩) hS hP (fun H locs hP hS => ?_)
    obtain ⟨v132, ev132, hf⟩ := slet_e hf
    refine lv_ineg hx hb dX2_remove_132 ?_
    refine rw_nm ev132 ?_
    exact wbX2_remove_133 hx hb hml hown hts hr hlocks hK h0 ht0 ht1 ht2 ht3 ht4 ht5 ht6 hu0 hu1 hu2 hu3 hu4 hu5 hu6 hg0 hg1 hlim r hkpt_o hsyn_o htkd_o htsz_o htlk_o hthm_o httg_o htvl_o hukd_o husz_o hulk_o huhm_o hutg_o huvl_o hgln_o hgrw_o x1 x2 r107 v132 r107 hkpt hsyn htkd htsz htlk hthm httg htvl hukd husz hulk huhm hutg huvl hgln hgrw _ _ hP hD hS _ (lv_sub hl [1, 2, 3, 0] rfl) hf
  · have hf := it_f c117 hf
    refine lv_iconst (v := 0) hx hb dX2_remove_120 (by decide) ?_
    refine lv_goto (tgt := 133) hx hb dX2_remove_121 (by decide) ?_
    exact wbX2_remove_133 hx hb hml hown hts hr hlocks hK h0 ht0 ht1 ht2 ht3 ht4 ht5 ht6 hu0 hu1 hu2 hu3 hu4 hu5 hu6 hg0 hg1 hlim r hkpt_o hsyn_o htkd_o htsz_o htlk_o hthm_o httg_o htvl_o hukd_o husz_o hulk_o huhm_o hutg_o huvl_o hgln_o hgrw_o x1 x2 r107 0 r107 hkpt hsyn htkd htsz htlk hthm httg htvl hukd husz hulk huhm hutg huvl hgln hgrw _ _ hP hD hS _ (lv_sub hl [1, 2, 3, 0] rfl) hf
set_option maxHeartbeats 4000000 in
set_option maxRecDepth 100000 in
theorem wbX2_remove_94 {p : Program} {l : Launch} {e : Env} {s : State} {m : MethodId} {args : Array Value} {below : List Frame} {meth : Method} {c : Code} {dC : Nat → ClassId} {dI : Nat → Nat → Nat} {cI : ClassId} (hx : p.tables.exec = Jvm.exec) (hb : c.code = cX2_remove) (hml : c.maxLocals = 6) (hown : s.vm.findClass RX2 = some m.cls) (hts : ∀ w ∈ wsX2_remove, w.before args s = true) (hr : meth.sig.returnType = (some .int)) (hlocks : meth.locks = false) (hK : va_K (dC, dI) vwCl [(cI, .int)] s) (h0 ht0 ht1 ht2 ht3 ht4 ht5 ht6 hu0 hu1 hu2 hu3 hu4 hu5 hu6 hg0 hg1 : Nat) (hlim : Int32) (r : Int32) (hkpt_o : Int32) (hsyn_o : Int32) (htkd_o : Nat → Int32) (htsz_o : Nat → Int32) (htlk_o : Nat → Int32) (hthm_o : Nat → Int32) (httg_o : Nat → Int32) (htvl_o : Nat → Int32) (hukd_o : Nat → Int32) (husz_o : Nat → Int32) (hulk_o : Nat → Int32) (huhm_o : Nat → Int32) (hutg_o : Nat → Int32) (huvl_o : Nat → Int32) (hgln_o : Int32) (hgrw_o : Nat → Int32) : ∀ (x1 : Int32) (x2 : Int32) (x3 : Int32) (z0 : Int32) (hkpt : Int32) (hsyn : Int32) (htkd : Nat → Int32) (htsz : Nat → Int32) (htlk : Nat → Int32) (hthm : Nat → Int32) (httg : Nat → Int32) (htvl : Nat → Int32) (hukd : Nat → Int32) (husz : Nat → Int32) (hulk : Nat → Int32) (huhm : Nat → Int32) (hutg : Nat → Int32) (huvl : Nat → Int32) (hgln : Int32) (hgrw : Nat → Int32) (H : Heap) (locs : List Loc), va_P (dC, dI) vwCl (wX2 cI h0 ht0 ht1 ht2 ht3 ht4 ht5 ht6 hu0 hu1 hu2 hu3 hu4 hu5 hu6 hg0 hg1 hlim hkpt hsyn htkd htsz htlk hthm httg htvl hukd husz hulk huhm hutg huvl hgln hgrw) H → va_D (inA [h0, ht0, ht1, ht2, ht3, ht4, ht5, ht6, hu0, hu1, hu2, hu3, hu4, hu5, hu6, hg0, hg1]) (wX2 cI h0 ht0 ht1 ht2 ht3 ht4 ht5 ht6 hu0 hu1 hu2 hu3 hu4 hu5 hu6 hg0 hg1 hlim hkpt hsyn htkd htsz htlk hthm httg htvl hukd husz hulk huhm hutg huvl hgln hgrw) → va_S (inA [h0, ht0, ht1, ht2, ht3, ht4, ht5, ht6, hu0, hu1, hu2, hu3, hu4, hu5, hu6, hg0, hg1]) s.heap H locs → ∀ (ls : Array Slot), lv_has ls 6 [(0, .ref h0), (1, .int x1), (2, .int x2), (3, .int x3)] → fX2_remove_b94 hlim x1 x2 x3 z0 hkpt hsyn htkd htsz htlk hthm httg htvl hukd husz hulk huhm hutg huvl hgln hgrw = some (r, hkpt_o, hsyn_o, htkd_o, htsz_o, htlk_o, hthm_o, httg_o, htvl_o, hukd_o, husz_o, hulk_o, huhm_o, hutg_o, huvl_o, hgln_o, hgrw_o) → W p l e ({ frames := 6, cells := 0, slots := 0, locals := 126 } : Room) s m args below meth c H locs 0 0 (MQ below (qI r (va_P (dC, dI) vwCl (wX2 cI h0 ht0 ht1 ht2 ht3 ht4 ht5 ht6 hu0 hu1 hu2 hu3 hu4 hu5 hu6 hg0 hg1 hlim hkpt_o hsyn_o htkd_o htsz_o htlk_o hthm_o httg_o htvl_o hukd_o husz_o hulk_o huhm_o hutg_o huvl_o hgln_o hgrw_o)) (inA [h0, ht0, ht1, ht2, ht3, ht4, ht5, ht6, hu0, hu1, hu2, hu3, hu4, hu5, hu6, hg0, hg1])) args s 0 0 (inA [h0, ht0, ht1, ht2, ht3, ht4, ht5, ht6, hu0, hu1, hu2, hu3, hu4, hu5, hu6, hg0, hg1])) (F0 m 94 ls [.int z0]) := by
  intro x1 x2 x3 z0 hkpt hsyn htkd htsz htlk hthm httg htvl hukd husz hulk huhm hutg huvl hgln hgrw H locs hP hD hS ls hl hf
  unfold fX2_remove_b94 at hf
  refine lv_istore (lv' := [(4, .int z0), (0, .ref h0), (1, .int x1), (2, .int x2), (3, .int x3)]) hx hb dX2_remove_94 hl (by decide) rfl (fun ls hl => ?_)
  refine lv_iload hx hb dX2_remove_96 (lv_at hl 0 rfl) ?_
  refine lv_if_eq (tgt := 105) hx hb dX2_remove_98 (by decide) (fun c98 => ?_) (fun c98 => ?_)
  · have hf := it_t c98 hf
    refine lv_iconst (v := 1) hx hb dX2_remove_105 (by decide) ?_
    exact wbX2_remove_106 hx hb hml hown hts hr hlocks hK h0 ht0 ht1 ht2 ht3 ht4 ht5 ht6 hu0 hu1 hu2 hu3 hu4 hu5 hu6 hg0 hg1 hlim r hkpt_o hsyn_o htkd_o htsz_o htlk_o hthm_o httg_o htvl_o hukd_o husz_o hulk_o huhm_o hutg_o huvl_o hgln_o hgrw_o x1 x2 x3 z0 1 hkpt hsyn htkd htsz htlk hthm httg htvl hukd husz hulk huhm hutg huvl hgln hgrw _ _ hP hD hS _ (lv_sub hl [1, 2, 3, 4, 0] rfl) hf
  · have hf := it_f c98 hf
    refine lv_iconst (v := 2) hx hb dX2_remove_101 (by decide) ?_
    refine lv_goto (tgt := 106) hx hb dX2_remove_102 (by decide) ?_
    exact wbX2_remove_106 hx hb hml hown hts hr hlocks hK h0 ht0 ht1 ht2 ht3 ht4 ht5 ht6 hu0 hu1 hu2 hu3 hu4 hu5 hu6 hg0 hg1 hlim r hkpt_o hsyn_o htkd_o htsz_o htlk_o hthm_o httg_o htvl_o hukd_o husz_o hulk_o huhm_o hutg_o huvl_o hgln_o hgrw_o x1 x2 x3 z0 2 hkpt hsyn htkd htsz htlk hthm httg htvl hukd husz hulk huhm hutg huvl hgln hgrw _ _ hP hD hS _ (lv_sub hl [1, 2, 3, 4, 0] rfl) hf
set_option maxHeartbeats 4000000 in
set_option maxRecDepth 100000 in
theorem wbX2_remove_77 {p : Program} {l : Launch} {e : Env} {s : State} {m : MethodId} {args : Array Value} {below : List Frame} {meth : Method} {c : Code} {dC : Nat → ClassId} {dI : Nat → Nat → Nat} {cI : ClassId} (hx : p.tables.exec = Jvm.exec) (hb : c.code = cX2_remove) (hml : c.maxLocals = 6) (hown : s.vm.findClass RX2 = some m.cls) (hts : ∀ w ∈ wsX2_remove, w.before args s = true) (hr : meth.sig.returnType = (some .int)) (hlocks : meth.locks = false) (hK : va_K (dC, dI) vwCl [(cI, .int)] s) (h0 ht0 ht1 ht2 ht3 ht4 ht5 ht6 hu0 hu1 hu2 hu3 hu4 hu5 hu6 hg0 hg1 : Nat) (hlim : Int32) (r : Int32) (hkpt_o : Int32) (hsyn_o : Int32) (htkd_o : Nat → Int32) (htsz_o : Nat → Int32) (htlk_o : Nat → Int32) (hthm_o : Nat → Int32) (httg_o : Nat → Int32) (htvl_o : Nat → Int32) (hukd_o : Nat → Int32) (husz_o : Nat → Int32) (hulk_o : Nat → Int32) (huhm_o : Nat → Int32) (hutg_o : Nat → Int32) (huvl_o : Nat → Int32) (hgln_o : Int32) (hgrw_o : Nat → Int32) : ∀ (x1 : Int32) (x2 : Int32) (x3 : Int32) (hkpt : Int32) (hsyn : Int32) (htkd : Nat → Int32) (htsz : Nat → Int32) (htlk : Nat → Int32) (hthm : Nat → Int32) (httg : Nat → Int32) (htvl : Nat → Int32) (hukd : Nat → Int32) (husz : Nat → Int32) (hulk : Nat → Int32) (huhm : Nat → Int32) (hutg : Nat → Int32) (huvl : Nat → Int32) (hgln : Int32) (hgrw : Nat → Int32) (H : Heap) (locs : List Loc), va_P (dC, dI) vwCl (wX2 cI h0 ht0 ht1 ht2 ht3 ht4 ht5 ht6 hu0 hu1 hu2 hu3 hu4 hu5 hu6 hg0 hg1 hlim hkpt hsyn htkd htsz htlk hthm httg htvl hukd husz hulk huhm hutg huvl hgln hgrw) H → va_D (inA [h0, ht0, ht1, ht2, ht3, ht4, ht5, ht6, hu0, hu1, hu2, hu3, hu4, hu5, hu6, hg0, hg1]) (wX2 cI h0 ht0 ht1 ht2 ht3 ht4 ht5 ht6 hu0 hu1 hu2 hu3 hu4 hu5 hu6 hg0 hg1 hlim hkpt hsyn htkd htsz htlk hthm httg htvl hukd husz hulk huhm hutg huvl hgln hgrw) → va_S (inA [h0, ht0, ht1, ht2, ht3, ht4, ht5, ht6, hu0, hu1, hu2, hu3, hu4, hu5, hu6, hg0, hg1]) s.heap H locs → ∀ (ls : Array Slot), lv_has ls 6 [(0, .ref h0), (1, .int x1), (2, .int x2), (3, .int x3)] → fX2_remove_b77 hlim x1 x2 x3 hkpt hsyn htkd htsz htlk hthm httg htvl hukd husz hulk huhm hutg huvl hgln hgrw = some (r, hkpt_o, hsyn_o, htkd_o, htsz_o, htlk_o, hthm_o, httg_o, htvl_o, hukd_o, husz_o, hulk_o, huhm_o, hutg_o, huvl_o, hgln_o, hgrw_o) → W p l e ({ frames := 6, cells := 0, slots := 0, locals := 126 } : Room) s m args below meth c H locs 0 0 (MQ below (qI r (va_P (dC, dI) vwCl (wX2 cI h0 ht0 ht1 ht2 ht3 ht4 ht5 ht6 hu0 hu1 hu2 hu3 hu4 hu5 hu6 hg0 hg1 hlim hkpt_o hsyn_o htkd_o htsz_o htlk_o hthm_o httg_o htvl_o hukd_o husz_o hulk_o huhm_o hutg_o huvl_o hgln_o hgrw_o)) (inA [h0, ht0, ht1, ht2, ht3, ht4, ht5, ht6, hu0, hu1, hu2, hu3, hu4, hu5, hu6, hg0, hg1])) args s 0 0 (inA [h0, ht0, ht1, ht2, ht3, ht4, ht5, ht6, hu0, hu1, hu2, hu3, hu4, hu5, hu6, hg0, hg1])) (F0 m 77 ls []) := by
  intro x1 x2 x3 hkpt hsyn htkd htsz htlk hthm httg htvl hukd husz hulk huhm hutg huvl hgln hgrw H locs hP hD hS ls hl hf
  unfold fX2_remove_b77 at hf
  refine lv_aload_n hx hb dX2_remove_77 rfl (lv_at hl 0 rfl) ?_
  refine va_get (D := (dC, dI)) (ci := 2) (v := .ref ht0) (C := RX2) (T := TX2) (N := 6) hx hb hts (fun w h => mc (inX2 w h)) hown hK hP 0 rfl rfl 1 (by decide) (hts _ (mc q_55)) (fun _ h9 => h9) rfl dX2_remove_78 ?_
  refine lv_iload_n hx hb dX2_remove_81 rfl (lv_at hl 3 rfl) ?_
  obtain ⟨r82, hc82, hf⟩ := bn1_e hf
  refine callRi (va_runV (As := [.int x3]) (rest := []) ⟨hx, hb, hml, hown, hts⟩ (cX1_links_met l dC dI cI ht0 ht1 ht2 ht3 ht4 ht5 ht6 htkd htsz htlk hthm httg htvl x3 r82 hc82) (cwV 1 hts gX2_remove_83 rfl rfl rfl (by decide +kernel) ⟨Nat.le_of_ble_eq_true rfl, Nat.le_of_ble_eq_true rfl⟩) (preRV (ci := 1) (q0 := 0) hK (hP.sub (ws' := (wX1 cI ht0 ht1 ht2 ht3 ht4 ht5 ht6 htkd htsz htlk hthm httg htvl)) [1, 2, 3, 4, 5, 6, 7] rfl) rfl rfl) rfl rfl hl.1 rfl (lv_room (Nat.le_of_ble_eq_true rfl)) dX2_remove_82 ⟨Nat.le_of_ble_eq_true rfl, Nat.le_of_ble_eq_true rfl⟩) hS hP (fun H locs hP hS => ?_)
  refine lv_iconst (v := 1) hx hb dX2_remove_85 (by decide) ?_
  refine lv_icmp_le (tgt := 93) hx hb dX2_remove_86 (by decide) (fun c86 => ?_) (fun c86 => ?_)
  · have hf := it_t c86 hf
    refine lv_iconst (v := 0) hx hb dX2_remove_93 (by decide) ?_
    exact wbX2_remove_94 hx hb hml hown hts hr hlocks hK h0 ht0 ht1 ht2 ht3 ht4 ht5 ht6 hu0 hu1 hu2 hu3 hu4 hu5 hu6 hg0 hg1 hlim r hkpt_o hsyn_o htkd_o htsz_o htlk_o hthm_o httg_o htvl_o hukd_o husz_o hulk_o huhm_o hutg_o huvl_o hgln_o hgrw_o x1 x2 x3 0 hkpt hsyn htkd htsz htlk hthm httg htvl hukd husz hulk huhm hutg huvl hgln hgrw _ _ hP hD hS _ (lv_sub hl [0, 1, 2, 3] rfl) hf
  · have hf := it_f c86 hf
    refine lv_iconst (v := 1) hx hb dX2_remove_89 (by decide) ?_
    refine lv_goto (tgt := 94) hx hb dX2_remove_90 (by decide) ?_
    exact wbX2_remove_94 hx hb hml hown hts hr hlocks hK h0 ht0 ht1 ht2 ht3 ht4 ht5 ht6 hu0 hu1 hu2 hu3 hu4 hu5 hu6 hg0 hg1 hlim r hkpt_o hsyn_o htkd_o htsz_o htlk_o hthm_o httg_o htvl_o hukd_o husz_o hulk_o huhm_o hutg_o huvl_o hgln_o hgrw_o x1 x2 x3 1 hkpt hsyn htkd htsz htlk hthm httg htvl hukd husz hulk huhm hutg huvl hgln hgrw _ _ hP hD hS _ (lv_sub hl [0, 1, 2, 3] rfl) hf
set_option maxHeartbeats 4000000 in
set_option maxRecDepth 100000 in
theorem cX2_remove_met (l : Launch) (dC : Nat → ClassId) (dI : Nat → Nat → Nat) (cI : ClassId) (h0 ht0 ht1 ht2 ht3 ht4 ht5 ht6 hu0 hu1 hu2 hu3 hu4 hu5 hu6 hg0 hg1 : Nat) (hlim : Int32) (hkpt : Int32) (hsyn : Int32) (htkd : Nat → Int32) (htsz : Nat → Int32) (htlk : Nat → Int32) (hthm : Nat → Int32) (httg : Nat → Int32) (htvl : Nat → Int32) (hukd : Nat → Int32) (husz : Nat → Int32) (hulk : Nat → Int32) (huhm : Nat → Int32) (hutg : Nat → Int32) (huvl : Nat → Int32) (hgln : Int32) (hgrw : Nat → Int32) (x1 : Int32) (x2 : Int32) (r : Int32) (hkpt_o : Int32) (hsyn_o : Int32) (htkd_o : Nat → Int32) (htsz_o : Nat → Int32) (htlk_o : Nat → Int32) (hthm_o : Nat → Int32) (httg_o : Nat → Int32) (htvl_o : Nat → Int32) (hukd_o : Nat → Int32) (husz_o : Nat → Int32) (hulk_o : Nat → Int32) (huhm_o : Nat → Int32) (hutg_o : Nat → Int32) (huvl_o : Nat → Int32) (hgln_o : Int32) (hgrw_o : Nat → Int32) (hf : fX2_remove x1 x2 hlim hkpt hsyn htkd htsz htlk hthm httg htvl hukd husz hulk huhm hutg huvl hgln hgrw = some (r, hkpt_o, hsyn_o, htkd_o, htsz_o, htlk_o, hthm_o, httg_o, htvl_o, hukd_o, husz_o, hulk_o, huhm_o, hutg_o, huvl_o, hgln_o, hgrw_o)) : Met l yX2_remove wsX2_remove ({ frames := 6, cells := 0, slots := 0, locals := 126 } : Room) (pcW [.ref h0, .int x1, .int x2] (dC, dI) vwCl [(cI, .int)] (wX2 cI h0 ht0 ht1 ht2 ht3 ht4 ht5 ht6 hu0 hu1 hu2 hu3 hu4 hu5 hu6 hg0 hg1 hlim hkpt hsyn htkd htsz htlk hthm httg htvl hukd husz hulk huhm hutg huvl hgln hgrw)) (qI r (va_P (dC, dI) vwCl (wX2 cI h0 ht0 ht1 ht2 ht3 ht4 ht5 ht6 hu0 hu1 hu2 hu3 hu4 hu5 hu6 hg0 hg1 hlim hkpt_o hsyn_o htkd_o htsz_o htlk_o hthm_o httg_o htvl_o hukd_o husz_o hulk_o huhm_o hutg_o huvl_o hgln_o hgrw_o)) (inA [h0, ht0, ht1, ht2, ht3, ht4, ht5, ht6, hu0, hu1, hu2, hu3, hu4, hu5, hu6, hg0, hg1])) 0 0 (inA [h0, ht0, ht1, ht2, ht3, ht4, ht5, ht6, hu0, hu1, hu2, hu3, hu4, hu5, hu6, hg0, hg1]) := by
  refine Met.ofW (cc := cX2_remove) (maxL := 6) (ret := (some .int)) (by decide) rfl ?_
  intro p e s m args below meth c s₁ B hml hv
  obtain ⟨rfl, hP, hK, hD0⟩ := hv
  have hx := B.exec
  have hb := B.bytes
  have hr := B.returns
  have hts := atoms_spec (ws := wsX2_remove) B.pre
  have hown : s.vm.findClass RX2 = some m.cls := findClass_of_methodNamed B.named
  have hlocks := B.notSynchronized
  have hD := my_self (as := [h0, ht0, ht1, ht2, ht3, ht4, ht5, ht6, hu0, hu1, hu2, hu3, hu4, hu5, hu6, hg0, hg1]) hD0 rfl
  have hS : va_S (inA [h0, ht0, ht1, ht2, ht3, ht4, ht5, ht6, hu0, hu1, hu2, hu3, hu4, hu5, hu6, hg0, hg1]) s.heap s.heap [] := va_S.rf
  have hl := lv_entry ([.ref h0, .int x1, .int x2]) (n := 6) (Nat.le_of_ble_eq_true rfl)
  rw [lg_entry_eq]
  generalize (lg_sl ([.ref h0, .int x1, .int x2]) ++ List.replicate (6 - (lg_sl ([.ref h0, .int x1, .int x2])).length) Slot.unset).toArray = ls at hl ⊢
  have hl : lv_has ls 6 [(0, .ref h0), (1, .int x1), (2, .int x2)] := hl
  unfold fX2_remove at hf
  refine lv_iload_n hx hb dX2_remove_0 rfl (lv_at hl 1 rfl) ?_
  obtain ⟨r1, hc1, hf⟩ := bn1_e hf
  refine callRi (va_runS (As := [.int x1]) (rest := []) ⟨hx, hb, hml, hown, hts⟩ (cX2_isNode_met l dC dI cI x1 r1 hc1) (cwS 1 hts gX2_remove_49 rfl rfl rfl (by decide +kernel) ⟨Nat.le_of_ble_eq_true rfl, Nat.le_of_ble_eq_true rfl⟩) (preRS hK (hP.sub (ws' := []) [] rfl)) rfl rfl hl.1 rfl (lv_room (Nat.le_of_ble_eq_true rfl)) dX2_remove_1 ⟨Nat.le_of_ble_eq_true rfl, Nat.le_of_ble_eq_true rfl⟩) hS hP (fun H locs hP hS => ?_)
  refine lv_if_eq (tgt := 14) hx hb dX2_remove_4 (by decide) (fun c4 => ?_) (fun c4 => ?_)
  · have hf := it_t c4 hf
    refine lv_iconst (v := -1) hx hb dX2_remove_14 (by decide) ?_
    cases hf
    exact retI hx hb hr hlocks hP hS dX2_remove_15
  · have hf := it_f c4 hf
    refine lv_iload_n hx hb dX2_remove_7 rfl (lv_at hl 2 rfl) ?_
    obtain ⟨r8, hc8, hf⟩ := bn1_e hf
    refine callRi (va_runS (As := [.int x2]) (rest := []) ⟨hx, hb, hml, hown, hts⟩ (cX2_isName_met l dC dI cI x2 r8 hc8) (cwS 1 hts gX2_remove_53 rfl rfl rfl (by decide +kernel) ⟨Nat.le_of_ble_eq_true rfl, Nat.le_of_ble_eq_true rfl⟩) (preRS hK (hP.sub (ws' := []) [] rfl)) rfl rfl hl.1 rfl (lv_room (Nat.le_of_ble_eq_true rfl)) dX2_remove_8 ⟨Nat.le_of_ble_eq_true rfl, Nat.le_of_ble_eq_true rfl⟩) hS hP (fun H locs hP hS => ?_)
    refine lv_if_ne (tgt := 16) hx hb dX2_remove_11 (by decide) (fun c11 => ?_) (fun c11 => ?_)
    · have hf := it_f c11 hf
      refine lv_aload_n hx hb dX2_remove_16 rfl (lv_at hl 0 rfl) ?_
      refine va_get (D := (dC, dI)) (ci := 2) (v := .ref ht0) (C := RX2) (T := TX2) (N := 6) hx hb hts (fun w h => mc (inX2 w h)) hown hK hP 0 rfl rfl 1 (by decide) (hts _ (mc q_55)) (fun _ h9 => h9) rfl dX2_remove_17 ?_
      refine lv_iload_n hx hb dX2_remove_20 rfl (lv_at hl 1 rfl) ?_
      obtain ⟨r21, hc21, hf⟩ := bn1_e hf
      refine callRi (va_runV (As := [.int x1]) (rest := []) ⟨hx, hb, hml, hown, hts⟩ (cX1_isDirectory_met l dC dI cI ht0 ht1 ht2 ht3 ht4 ht5 ht6 htkd htsz htlk hthm httg htvl x1 r21 hc21) (cwV 1 hts gX2_remove_56 rfl rfl rfl (by decide +kernel) ⟨Nat.le_of_ble_eq_true rfl, Nat.le_of_ble_eq_true rfl⟩) (preRV (ci := 1) (q0 := 0) hK (hP.sub (ws' := (wX1 cI ht0 ht1 ht2 ht3 ht4 ht5 ht6 htkd htsz htlk hthm httg htvl)) [1, 2, 3, 4, 5, 6, 7] rfl) rfl rfl) rfl rfl hl.1 rfl (lv_room (Nat.le_of_ble_eq_true rfl)) dX2_remove_21 ⟨Nat.le_of_ble_eq_true rfl, Nat.le_of_ble_eq_true rfl⟩) hS hP (fun H locs hP hS => ?_)
      refine lv_if_eq (tgt := 39) hx hb dX2_remove_24 (by decide) (fun c24 => ?_) (fun c24 => ?_)
      · have hf := it_t c24 hf
        refine lv_bipush (v := -2) hx hb dX2_remove_39 (by decide) ?_
        cases hf
        exact retI hx hb hr hlocks hP hS dX2_remove_41
      · have hf := it_f c24 hf
        refine lv_aload_n hx hb dX2_remove_27 rfl (lv_at hl 0 rfl) ?_
        refine va_get (D := (dC, dI)) (ci := 2) (v := .ref ht0) (C := RX2) (T := TX2) (N := 6) hx hb hts (fun w h => mc (inX2 w h)) hown hK hP 0 rfl rfl 1 (by decide) (hts _ (mc q_55)) (fun _ h9 => h9) rfl dX2_remove_28 ?_
        refine lv_iload_n hx hb dX2_remove_31 rfl (lv_at hl 1 rfl) ?_
        refine lv_iload_n hx hb dX2_remove_32 rfl (lv_at hl 2 rfl) ?_
        obtain ⟨r33, hc33, hf⟩ := bn1_e hf
        refine callRi (va_runV (As := [.int x1, .int x2]) (rest := []) ⟨hx, hb, hml, hown, hts⟩ (cX1_target_met l dC dI cI ht0 ht1 ht2 ht3 ht4 ht5 ht6 htkd htsz htlk hthm httg htvl x1 x2 r33 hc33) (cwV 2 hts gX2_remove_59 rfl rfl rfl (by decide +kernel) ⟨Nat.le_of_ble_eq_true rfl, Nat.le_of_ble_eq_true rfl⟩) (preRV (ci := 1) (q0 := 0) hK (hP.sub (ws' := (wX1 cI ht0 ht1 ht2 ht3 ht4 ht5 ht6 htkd htsz htlk hthm httg htvl)) [1, 2, 3, 4, 5, 6, 7] rfl) rfl rfl) rfl rfl hl.1 rfl (lv_room (Nat.le_of_ble_eq_true rfl)) dX2_remove_33 ⟨Nat.le_of_ble_eq_true rfl, Nat.le_of_ble_eq_true rfl⟩) hS hP (fun H locs hP hS => ?_)
        refine lv_if_ne (tgt := 42) hx hb dX2_remove_36 (by decide) (fun c36 => ?_) (fun c36 => ?_)
        · have hf := it_f c36 hf
          refine lv_aload_n hx hb dX2_remove_42 rfl (lv_at hl 0 rfl) ?_
          refine va_get (D := (dC, dI)) (ci := 2) (v := .ref ht0) (C := RX2) (T := TX2) (N := 6) hx hb hts (fun w h => mc (inX2 w h)) hown hK hP 0 rfl rfl 1 (by decide) (hts _ (mc q_55)) (fun _ h9 => h9) rfl dX2_remove_43 ?_
          refine lv_iload_n hx hb dX2_remove_46 rfl (lv_at hl 1 rfl) ?_
          refine lv_iload_n hx hb dX2_remove_47 rfl (lv_at hl 2 rfl) ?_
          obtain ⟨r48, hc48, hf⟩ := bn1_e hf
          refine callRi (va_runV (As := [.int x1, .int x2]) (rest := []) ⟨hx, hb, hml, hown, hts⟩ (cX1_target_met l dC dI cI ht0 ht1 ht2 ht3 ht4 ht5 ht6 htkd htsz htlk hthm httg htvl x1 x2 r48 hc48) (cwV 2 hts gX2_remove_59 rfl rfl rfl (by decide +kernel) ⟨Nat.le_of_ble_eq_true rfl, Nat.le_of_ble_eq_true rfl⟩) (preRV (ci := 1) (q0 := 0) hK (hP.sub (ws' := (wX1 cI ht0 ht1 ht2 ht3 ht4 ht5 ht6 htkd htsz htlk hthm httg htvl)) [1, 2, 3, 4, 5, 6, 7] rfl) rfl rfl) rfl rfl hl.1 rfl (lv_room (Nat.le_of_ble_eq_true rfl)) dX2_remove_48 ⟨Nat.le_of_ble_eq_true rfl, Nat.le_of_ble_eq_true rfl⟩) hS hP (fun H locs hP hS => ?_)
          refine lv_istore_n (lv' := [(3, .int r48), (0, .ref h0), (1, .int x1), (2, .int x2)]) hx hb dX2_remove_51 rfl hl (by decide) rfl (fun ls hl => ?_)
          refine lv_aload_n hx hb dX2_remove_52 rfl (lv_at hl 1 rfl) ?_
          refine va_get (D := (dC, dI)) (ci := 2) (v := .ref ht0) (C := RX2) (T := TX2) (N := 6) hx hb hts (fun w h => mc (inX2 w h)) hown hK hP 0 rfl rfl 1 (by decide) (hts _ (mc q_55)) (fun _ h9 => h9) rfl dX2_remove_53 ?_
          refine lv_iload_n hx hb dX2_remove_56 rfl (lv_at hl 0 rfl) ?_
          obtain ⟨r57, hc57, hf⟩ := bn1_e hf
          refine callRi (va_runV (As := [.int r48]) (rest := []) ⟨hx, hb, hml, hown, hts⟩ (cX1_isDirectory_met l dC dI cI ht0 ht1 ht2 ht3 ht4 ht5 ht6 htkd htsz htlk hthm httg htvl r48 r57 hc57) (cwV 1 hts gX2_remove_56 rfl rfl rfl (by decide +kernel) ⟨Nat.le_of_ble_eq_true rfl, Nat.le_of_ble_eq_true rfl⟩) (preRV (ci := 1) (q0 := 0) hK (hP.sub (ws' := (wX1 cI ht0 ht1 ht2 ht3 ht4 ht5 ht6 htkd htsz htlk hthm httg htvl)) [1, 2, 3, 4, 5, 6, 7] rfl) rfl rfl) rfl rfl hl.1 rfl (lv_room (Nat.le_of_ble_eq_true rfl)) dX2_remove_57 ⟨Nat.le_of_ble_eq_true rfl, Nat.le_of_ble_eq_true rfl⟩) hS hP (fun H locs hP hS => ?_)
          refine lv_if_eq (tgt := 77) hx hb dX2_remove_60 (by decide) (fun c60 => ?_) (fun c60 => ?_)
          · have hf := it_t c60 hf
            exact wbX2_remove_77 hx hb hml hown hts hr hlocks hK h0 ht0 ht1 ht2 ht3 ht4 ht5 ht6 hu0 hu1 hu2 hu3 hu4 hu5 hu6 hg0 hg1 hlim r hkpt_o hsyn_o htkd_o htsz_o htlk_o hthm_o httg_o htvl_o hukd_o husz_o hulk_o huhm_o hutg_o huvl_o hgln_o hgrw_o x1 x2 r48 hkpt hsyn htkd htsz htlk hthm httg htvl hukd husz hulk huhm hutg huvl hgln hgrw _ _ hP hD hS _ (lv_sub hl [1, 2, 3, 0] rfl) hf
          · have hf := it_f c60 hf
            refine lv_aload_n hx hb dX2_remove_63 rfl (lv_at hl 1 rfl) ?_
            refine va_get (D := (dC, dI)) (ci := 2) (v := .ref ht0) (C := RX2) (T := TX2) (N := 6) hx hb hts (fun w h => mc (inX2 w h)) hown hK hP 0 rfl rfl 1 (by decide) (hts _ (mc q_55)) (fun _ h9 => h9) rfl dX2_remove_64 ?_
            refine lv_iload_n hx hb dX2_remove_67 rfl (lv_at hl 0 rfl) ?_
            obtain ⟨r68, hc68, hf⟩ := bn1_e hf
            refine callRi (va_runV (As := [.int r48]) (rest := []) ⟨hx, hb, hml, hown, hts⟩ (cX1_size_met l dC dI cI ht0 ht1 ht2 ht3 ht4 ht5 ht6 htkd htsz htlk hthm httg htvl r48 r68 hc68) (cwV 1 hts gX2_remove_65 rfl rfl rfl (by decide +kernel) ⟨Nat.le_of_ble_eq_true rfl, Nat.le_of_ble_eq_true rfl⟩) (preRV (ci := 1) (q0 := 0) hK (hP.sub (ws' := (wX1 cI ht0 ht1 ht2 ht3 ht4 ht5 ht6 htkd htsz htlk hthm httg htvl)) [1, 2, 3, 4, 5, 6, 7] rfl) rfl rfl) rfl rfl hl.1 rfl (lv_room (Nat.le_of_ble_eq_true rfl)) dX2_remove_68 ⟨Nat.le_of_ble_eq_true rfl, Nat.le_of_ble_eq_true rfl⟩) hS hP (fun H locs hP hS => ?_)
            refine lv_if_le (tgt := 77) hx hb dX2_remove_71 (by decide) (fun c71 => ?_) (fun c71 => ?_)
            · have hf := it_t c71 hf
              exact wbX2_remove_77 hx hb hml hown hts hr hlocks hK h0 ht0 ht1 ht2 ht3 ht4 ht5 ht6 hu0 hu1 hu2 hu3 hu4 hu5 hu6 hg0 hg1 hlim r hkpt_o hsyn_o htkd_o htsz_o htlk_o hthm_o httg_o htvl_o hukd_o husz_o hulk_o huhm_o hutg_o huvl_o hgln_o hgrw_o x1 x2 r48 hkpt hsyn htkd htsz htlk hthm httg htvl hukd husz hulk huhm hutg huvl hgln hgrw _ _ hP hD hS _ (lv_sub hl [1, 2, 3, 0] rfl) hf
            · have hf := it_f c71 hf
              refine lv_bipush (v := -4) hx hb dX2_remove_74 (by decide) ?_
              cases hf
              exact retI hx hb hr hlocks hP hS dX2_remove_76
        · have hf := it_t c36 hf
          refine lv_bipush (v := -2) hx hb dX2_remove_39 (by decide) ?_
          cases hf
          exact retI hx hb hr hlocks hP hS dX2_remove_41
    · have hf := it_t c11 hf
      refine lv_iconst (v := -1) hx hb dX2_remove_14 (by decide) ?_
      cases hf
      exact retI hx hb hr hlocks hP hS dX2_remove_15
end
section
theorem gX2_rename_49 : GoodIn wsX2_rename (wsS RX2 49 yX2_isNode wsX2_isNode) := gIn (memS q_64 q_65 q_1 q_66)
theorem gX2_rename_53 : GoodIn wsX2_rename (wsS RX2 53 yX2_isName wsX2_isName) := gIn (memS q_67 q_68 q_1 q_69)
theorem gX2_rename_56 : GoodIn wsX2_rename (wsV RX2 56 RX1 yX1_isDirectory wsX1_isDirectory) := gIn (memV q_70 q_71 q_72 q_3 q_73)
theorem gX2_rename_59 : GoodIn wsX2_rename (wsV RX2 59 RX1 yX1_target wsX1_target) := gIn (memV q_74 q_75 q_76 q_3 q_77)
theorem gX2_rename_89 : GoodIn wsX2_rename (wsV RX2 89 RX1 yX1_liesIn wsX1_liesIn) := gIn (memV q_173 q_174 q_175 q_3 q_176)
theorem gX2_rename_65 : GoodIn wsX2_rename (wsV RX2 65 RX1 yX1_size wsX1_size) := gIn (memV q_82 q_83 q_84 q_3 q_85)
theorem gX2_rename_69 : GoodIn wsX2_rename (wsS RX2 69 yX2_costOf wsX2_costOf) := gIn (memS q_86 q_87 q_1 q_88)
theorem gX2_rename_72 : GoodIn wsX2_rename (wsV RX2 72 RX2 yX2_makesRoom wsX2_makesRoom) := gIn (memV q_89 q_90 q_344 q_1 q_91)
theorem gX2_rename_76 : GoodIn wsX2_rename (wsV RX2 76 RX2 yX2_perform wsX2_perform) := gIn (memV q_109 q_110 q_347 q_1 q_111)
set_option maxHeartbeats 4000000 in
set_option maxRecDepth 100000 in
theorem wbX2_rename_137 {p : Program} {l : Launch} {e : Env} {s : State} {m : MethodId} {args : Array Value} {below : List Frame} {meth : Method} {c : Code} {dC : Nat → ClassId} {dI : Nat → Nat → Nat} {cI : ClassId} (hx : p.tables.exec = Jvm.exec) (hb : c.code = cX2_rename) (hml : c.maxLocals = 6) (hown : s.vm.findClass RX2 = some m.cls) (hts : ∀ w ∈ wsX2_rename, w.before args s = true) (hr : meth.sig.returnType = (some .int)) (hlocks : meth.locks = false) (hK : va_K (dC, dI) vwCl [(cI, .int)] s) (h0 ht0 ht1 ht2 ht3 ht4 ht5 ht6 hu0 hu1 hu2 hu3 hu4 hu5 hu6 hg0 hg1 : Nat) (hlim : Int32) (r : Int32) (hkpt_o : Int32) (hsyn_o : Int32) (htkd_o : Nat → Int32) (htsz_o : Nat → Int32) (htlk_o : Nat → Int32) (hthm_o : Nat → Int32) (httg_o : Nat → Int32) (htvl_o : Nat → Int32) (hukd_o : Nat → Int32) (husz_o : Nat → Int32) (hulk_o : Nat → Int32) (huhm_o : Nat → Int32) (hutg_o : Nat → Int32) (huvl_o : Nat → Int32) (hgln_o : Int32) (hgrw_o : Nat → Int32) : ∀ (x1 : Int32) (x2 : Int32) (x3 : Int32) (x4 : Int32) (z0 : Int32) (hkpt : Int32) (hsyn : Int32) (htkd : Nat → Int32) (htsz : Nat → Int32) (htlk : Nat → Int32) (hthm : Nat → Int32) (httg : Nat → Int32) (htvl : Nat → Int32) (hukd : Nat → Int32) (husz : Nat → Int32) (hulk : Nat → Int32) (huhm : Nat → Int32) (hutg : Nat → Int32) (huvl : Nat → Int32) (hgln : Int32) (hgrw : Nat → Int32) (H : Heap) (locs : List Loc), va_P (dC, dI) vwCl (wX2 cI h0 ht0 ht1 ht2 ht3 ht4 ht5 ht6 hu0 hu1 hu2 hu3 hu4 hu5 hu6 hg0 hg1 hlim hkpt hsyn htkd htsz htlk hthm httg htvl hukd husz hulk huhm hutg huvl hgln hgrw) H → va_D (inA [h0, ht0, ht1, ht2, ht3, ht4, ht5, ht6, hu0, hu1, hu2, hu3, hu4, hu5, hu6, hg0, hg1]) (wX2 cI h0 ht0 ht1 ht2 ht3 ht4 ht5 ht6 hu0 hu1 hu2 hu3 hu4 hu5 hu6 hg0 hg1 hlim hkpt hsyn htkd htsz htlk hthm httg htvl hukd husz hulk huhm hutg huvl hgln hgrw) → va_S (inA [h0, ht0, ht1, ht2, ht3, ht4, ht5, ht6, hu0, hu1, hu2, hu3, hu4, hu5, hu6, hg0, hg1]) s.heap H locs → ∀ (ls : Array Slot), lv_has ls 6 [(0, .ref h0), (1, .int x1), (2, .int x2), (3, .int x3), (4, .int x4)] → fX2_rename_b137 hlim x1 x2 x3 x4 z0 hkpt hsyn htkd htsz htlk hthm httg htvl hukd husz hulk huhm hutg huvl hgln hgrw = some (r, hkpt_o, hsyn_o, htkd_o, htsz_o, htlk_o, hthm_o, httg_o, htvl_o, hukd_o, husz_o, hulk_o, huhm_o, hutg_o, huvl_o, hgln_o, hgrw_o) → W p l e ({ frames := 6, cells := 0, slots := 0, locals := 126 } : Room) s m args below meth c H locs 0 0 (MQ below (qI r (va_P (dC, dI) vwCl (wX2 cI h0 ht0 ht1 ht2 ht3 ht4 ht5 ht6 hu0 hu1 hu2 hu3 hu4 hu5 hu6 hg0 hg1 hlim hkpt_o hsyn_o htkd_o htsz_o htlk_o hthm_o httg_o htvl_o hukd_o husz_o hulk_o huhm_o hutg_o huvl_o hgln_o hgrw_o)) (inA [h0, ht0, ht1, ht2, ht3, ht4, ht5, ht6, hu0, hu1, hu2, hu3, hu4, hu5, hu6, hg0, hg1])) args s 0 0 (inA [h0, ht0, ht1, ht2, ht3, ht4, ht5, ht6, hu0, hu1, hu2, hu3, hu4, hu5, hu6, hg0, hg1])) (F0 m 137 ls [.int z0]) := by
  intro x1 x2 x3 x4 z0 hkpt hsyn htkd htsz htlk hthm httg htvl hukd husz hulk huhm hutg huvl hgln hgrw H locs hP hD hS ls hl hf
  unfold fX2_rename_b137 at hf
  refine lv_iconst (v := 0) hx hb dX2_rename_137 (by decide) ?_
  obtain ⟨r138, hc138, hf⟩ := bn1_e hf
  refine callRi (va_runS (As := [.int z0, .int 0]) (rest := []) ⟨hx, hb, hml, hown, hts⟩ (cX2_costOf_met l dC dI cI z0 0 r138 hc138) (cwS 2 hts gX2_rename_69 rfl rfl rfl (by decide +kernel) ⟨Nat.le_of_ble_eq_true rfl, Nat.le_of_ble_eq_true rfl⟩) (preRS hK (hP.sub (ws' := []) [] rfl)) rfl rfl hl.1 rfl (lv_room (Nat.le_of_ble_eq_true rfl)) dX2_rename_138 ⟨Nat.le_of_ble_eq_true rfl, Nat.le_of_ble_eq_true rfl⟩) hS hP (fun H locs hP hS => ?_)
  refine lv_istore (lv' := [(5, .int r138), (0, .ref h0), (1, .int x1), (2, .int x2), (3, .int x3), (4, .int x4)]) hx hb dX2_rename_141 hl (by decide) rfl (fun ls hl => ?_)
  refine lv_aload_n hx hb dX2_rename_143 rfl (lv_at hl 1 rfl) ?_
  refine lv_iload hx hb dX2_rename_144 (lv_at hl 0 rfl) ?_
  refine lv_iconst (v := 0) hx hb dX2_rename_146 (by decide) ?_
  obtain ⟨r147, hkpt_147, hsyn_147, hukd_147, husz_147, hulk_147, huhm_147, hutg_147, huvl_147, hgln_147, hc147, hf⟩ := bn10_e hf
  refine callVi (w1 := (wX2 cI h0 ht0 ht1 ht2 ht3 ht4 ht5 ht6 hu0 hu1 hu2 hu3 hu4 hu5 hu6 hg0 hg1 hlim hkpt_147 hsyn_147 htkd htsz htlk hthm httg htvl hukd_147 husz_147 hulk_147 huhm_147 hutg_147 huvl_147 hgln_147 hgrw)) (va_runV (As := [.int r138, .int 0]) (rest := []) ⟨hx, hb, hml, hown, hts⟩ (cX2_makesRoom_met l dC dI cI h0 ht0 ht1 ht2 ht3 ht4 ht5 ht6 hu0 hu1 hu2 hu3 hu4 hu5 hu6 hg0 hg1 hlim hkpt hsyn htkd htsz htlk hthm httg htvl hukd husz hulk huhm hutg huvl hgln hgrw r138 0 r147 hkpt_147 hsyn_147 hukd_147 husz_147 hulk_147 huhm_147 hutg_147 huvl_147 hgln_147 hc147) (cwV 2 hts gX2_rename_72 rfl rfl rfl (by decide +kernel) ⟨Nat.le_of_ble_eq_true rfl, Nat.le_of_ble_eq_true rfl⟩) (preWV (ci := 2) (q0 := 0) hK hP hD rfl rfl) rfl rfl hl.1 rfl (lv_room (Nat.le_of_ble_eq_true rfl)) dX2_rename_147 ⟨Nat.le_of_ble_eq_true rfl, Nat.le_of_ble_eq_true rfl⟩) hS hD rfl rfl (fun H locs hP hD hS => ?_)
  refine lv_if_ne (tgt := 156) hx hb dX2_rename_150 (by decide) (fun c150 => ?_) (fun c150 => ?_)
  · have hf := it_f c150 hf
    refine lv_aload_n hx hb dX2_rename_156 rfl (lv_at hl 1 rfl) ?_
    refine lv_iload hx hb dX2_rename_157 (lv_at hl 0 rfl) ?_
    refine lv_iconst (v := 3) hx hb dX2_rename_159 (by decide) ?_
    refine lv_iload_n hx hb dX2_rename_160 rfl (lv_at hl 2 rfl) ?_
    refine lv_iload_n hx hb dX2_rename_161 rfl (lv_at hl 3 rfl) ?_
    refine lv_iload_n hx hb dX2_rename_162 rfl (lv_at hl 4 rfl) ?_
    refine lv_iload hx hb dX2_rename_163 (lv_at hl 5 rfl) ?_
    obtain ⟨hkpt_165, htkd_165, htsz_165, htlk_165, hthm_165, httg_165, htvl_165, hgln_165, hgrw_165, hc165, hf⟩ := bn9_e hf
    refine callVv (w1 := (wX2 cI h0 ht0 ht1 ht2 ht3 ht4 ht5 ht6 hu0 hu1 hu2 hu3 hu4 hu5 hu6 hg0 hg1 hlim hkpt_165 hsyn_147 htkd_165 htsz_165 htlk_165 hthm_165 httg_165 htvl_165 hukd_147 husz_147 hulk_147 huhm_147 hutg_147 huvl_147 hgln_165 hgrw_165)) (va_runV (As := [.int r138, .int 3, .int x1, .int x2, .int x3, .int x4]) (rest := []) ⟨hx, hb, hml, hown, hts⟩ (cX2_perform_met l dC dI cI h0 ht0 ht1 ht2 ht3 ht4 ht5 ht6 hu0 hu1 hu2 hu3 hu4 hu5 hu6 hg0 hg1 hlim hkpt_147 hsyn_147 htkd htsz htlk hthm httg htvl hukd_147 husz_147 hulk_147 huhm_147 hutg_147 huvl_147 hgln_147 hgrw r138 3 x1 x2 x3 x4 hkpt_165 htkd_165 htsz_165 htlk_165 hthm_165 httg_165 htvl_165 hgln_165 hgrw_165 hc165) (cwV 6 hts gX2_rename_76 rfl rfl rfl (by decide +kernel) ⟨Nat.le_of_ble_eq_true rfl, Nat.le_of_ble_eq_true rfl⟩) (preWV (ci := 2) (q0 := 0) hK hP hD rfl rfl) rfl rfl hl.1 rfl (lv_room (Nat.le_of_ble_eq_true rfl)) dX2_rename_165 ⟨Nat.le_of_ble_eq_true rfl, Nat.le_of_ble_eq_true rfl⟩) hS hD rfl rfl (fun H locs hP hD hS => ?_)
    refine lv_iconst (v := 0) hx hb dX2_rename_168 (by decide) ?_
    cases hf
    exact retI hx hb hr hlocks hP hS dX2_rename_169
  · have hf := it_t c150 hf
    refine lv_bipush (v := -6) hx hb dX2_rename_153 (by decide) ?_
    cases hf
    exact retI hx hb hr hlocks hP hS dX2_rename_155
set_option maxHeartbeats 4000000 in
set_option maxRecDepth 100000 in
theorem wbX2_rename_127 {p : Program} {l : Launch} {e : Env} {s : State} {m : MethodId} {args : Array Value} {below : List Frame} {meth : Method} {c : Code} {dC : Nat → ClassId} {dI : Nat → Nat → Nat} {cI : ClassId} (hx : p.tables.exec = Jvm.exec) (hb : c.code = cX2_rename) (hml : c.maxLocals = 6) (hown : s.vm.findClass RX2 = some m.cls) (hts : ∀ w ∈ wsX2_rename, w.before args s = true) (hr : meth.sig.returnType = (some .int)) (hlocks : meth.locks = false) (hK : va_K (dC, dI) vwCl [(cI, .int)] s) (h0 ht0 ht1 ht2 ht3 ht4 ht5 ht6 hu0 hu1 hu2 hu3 hu4 hu5 hu6 hg0 hg1 : Nat) (hlim : Int32) (r : Int32) (hkpt_o : Int32) (hsyn_o : Int32) (htkd_o : Nat → Int32) (htsz_o : Nat → Int32) (htlk_o : Nat → Int32) (hthm_o : Nat → Int32) (httg_o : Nat → Int32) (htvl_o : Nat → Int32) (hukd_o : Nat → Int32) (husz_o : Nat → Int32) (hulk_o : Nat → Int32) (huhm_o : Nat → Int32) (hutg_o : Nat → Int32) (huvl_o : Nat → Int32) (hgln_o : Int32) (hgrw_o : Nat → Int32) : ∀ (x1 : Int32) (x2 : Int32) (x3 : Int32) (x4 : Int32) (hkpt : Int32) (hsyn : Int32) (htkd : Nat → Int32) (htsz : Nat → Int32) (htlk : Nat → Int32) (hthm : Nat → Int32) (httg : Nat → Int32) (htvl : Nat → Int32) (hukd : Nat → Int32) (husz : Nat → Int32) (hulk : Nat → Int32) (huhm : Nat → Int32) (hutg : Nat → Int32) (huvl : Nat → Int32) (hgln : Int32) (hgrw : Nat → Int32) (H : Heap) (locs : List Loc), va_P (dC, dI) vwCl (wX2 cI h0 ht0 ht1 ht2 ht3 ht4 ht5 ht6 hu0 hu1 hu2 hu3 hu4 hu5 hu6 hg0 hg1 hlim hkpt hsyn htkd htsz htlk hthm httg htvl hukd husz hulk huhm hutg huvl hgln hgrw) H → va_D (inA [h0, ht0, ht1, ht2, ht3, ht4, ht5, ht6, hu0, hu1, hu2, hu3, hu4, hu5, hu6, hg0, hg1]) (wX2 cI h0 ht0 ht1 ht2 ht3 ht4 ht5 ht6 hu0 hu1 hu2 hu3 hu4 hu5 hu6 hg0 hg1 hlim hkpt hsyn htkd htsz htlk hthm httg htvl hukd husz hulk huhm hutg huvl hgln hgrw) → va_S (inA [h0, ht0, ht1, ht2, ht3, ht4, ht5, ht6, hu0, hu1, hu2, hu3, hu4, hu5, hu6, hg0, hg1]) s.heap H locs → ∀ (ls : Array Slot), lv_has ls 6 [(0, .ref h0), (1, .int x1), (2, .int x2), (3, .int x3), (4, .int x4)] → fX2_rename_b127 hlim x1 x2 x3 x4 hkpt hsyn htkd htsz htlk hthm httg htvl hukd husz hulk huhm hutg huvl hgln hgrw = some (r, hkpt_o, hsyn_o, htkd_o, htsz_o, htlk_o, hthm_o, httg_o, htvl_o, hukd_o, husz_o, hulk_o, huhm_o, hutg_o, huvl_o, hgln_o, hgrw_o) → W p l e ({ frames := 6, cells := 0, slots := 0, locals := 126 } : Room) s m args below meth c H locs 0 0 (MQ below (qI r (va_P (dC, dI) vwCl (wX2 cI h0 ht0 ht1 ht2 ht3 ht4 ht5 ht6 hu0 hu1 hu2 hu3 hu4 hu5 hu6 hg0 hg1 hlim hkpt_o hsyn_o htkd_o htsz_o htlk_o hthm_o httg_o htvl_o hukd_o husz_o hulk_o huhm_o hutg_o huvl_o hgln_o hgrw_o)) (inA [h0, ht0, ht1, ht2, ht3, ht4, ht5, ht6, hu0, hu1, hu2, hu3, hu4, hu5, hu6, hg0, hg1])) args s 0 0 (inA [h0, ht0, ht1, ht2, ht3, ht4, ht5, ht6, hu0, hu1, hu2, hu3, hu4, hu5, hu6, hg0, hg1])) (F0 m 127 ls []) := by
  intro x1 x2 x3 x4 hkpt hsyn htkd htsz htlk hthm httg htvl hukd husz hulk huhm hutg huvl hgln hgrw H locs hP hD hS ls hl hf
  unfold fX2_rename_b127 at hf
  refine lv_iload_n hx hb dX2_rename_127 rfl (lv_at hl 3 rfl) ?_
  refine lv_iload_n hx hb dX2_rename_128 rfl (lv_at hl 1 rfl) ?_
  refine lv_icmp_ne (tgt := 136) hx hb dX2_rename_129 (by decide) (fun c129 => ?_) (fun c129 => ?_)
  · have hf := it_f c129 hf
    refine lv_iconst (v := 2) hx hb dX2_rename_136 (by decide) ?_
    exact wbX2_rename_137 hx hb hml hown hts hr hlocks hK h0 ht0 ht1 ht2 ht3 ht4 ht5 ht6 hu0 hu1 hu2 hu3 hu4 hu5 hu6 hg0 hg1 hlim r hkpt_o hsyn_o htkd_o htsz_o htlk_o hthm_o httg_o htvl_o hukd_o husz_o hulk_o huhm_o hutg_o huvl_o hgln_o hgrw_o x1 x2 x3 x4 2 hkpt hsyn htkd htsz htlk hthm httg htvl hukd husz hulk huhm hutg huvl hgln hgrw _ _ hP hD hS _ (lv_sub hl [0, 1, 2, 3, 4] rfl) hf
  · have hf := it_t c129 hf
    refine lv_iconst (v := 1) hx hb dX2_rename_132 (by decide) ?_
    refine lv_goto (tgt := 137) hx hb dX2_rename_133 (by decide) ?_
    exact wbX2_rename_137 hx hb hml hown hts hr hlocks hK h0 ht0 ht1 ht2 ht3 ht4 ht5 ht6 hu0 hu1 hu2 hu3 hu4 hu5 hu6 hg0 hg1 hlim r hkpt_o hsyn_o htkd_o htsz_o htlk_o hthm_o httg_o htvl_o hukd_o husz_o hulk_o huhm_o hutg_o huvl_o hgln_o hgrw_o x1 x2 x3 x4 1 hkpt hsyn htkd htsz htlk hthm httg htvl hukd husz hulk huhm hutg huvl hgln hgrw _ _ hP hD hS _ (lv_sub hl [0, 1, 2, 3, 4] rfl) hf
set_option maxHeartbeats 4000000 in
set_option maxRecDepth 100000 in
theorem cX2_rename_met (l : Launch) (dC : Nat → ClassId) (dI : Nat → Nat → Nat) (cI : ClassId) (h0 ht0 ht1 ht2 ht3 ht4 ht5 ht6 hu0 hu1 hu2 hu3 hu4 hu5 hu6 hg0 hg1 : Nat) (hlim : Int32) (hkpt : Int32) (hsyn : Int32) (htkd : Nat → Int32) (htsz : Nat → Int32) (htlk : Nat → Int32) (hthm : Nat → Int32) (httg : Nat → Int32) (htvl : Nat → Int32) (hukd : Nat → Int32) (husz : Nat → Int32) (hulk : Nat → Int32) (huhm : Nat → Int32) (hutg : Nat → Int32) (huvl : Nat → Int32) (hgln : Int32) (hgrw : Nat → Int32) (x1 : Int32) (x2 : Int32) (x3 : Int32) (x4 : Int32) (r : Int32) (hkpt_o : Int32) (hsyn_o : Int32) (htkd_o : Nat → Int32) (htsz_o : Nat → Int32) (htlk_o : Nat → Int32) (hthm_o : Nat → Int32) (httg_o : Nat → Int32) (htvl_o : Nat → Int32) (hukd_o : Nat → Int32) (husz_o : Nat → Int32) (hulk_o : Nat → Int32) (huhm_o : Nat → Int32) (hutg_o : Nat → Int32) (huvl_o : Nat → Int32) (hgln_o : Int32) (hgrw_o : Nat → Int32) (hf : fX2_rename x1 x2 x3 x4 hlim hkpt hsyn htkd htsz htlk hthm httg htvl hukd husz hulk huhm hutg huvl hgln hgrw = some (r, hkpt_o, hsyn_o, htkd_o, htsz_o, htlk_o, hthm_o, httg_o, htvl_o, hukd_o, husz_o, hulk_o, huhm_o, hutg_o, huvl_o, hgln_o, hgrw_o)) : Met l yX2_rename wsX2_rename ({ frames := 6, cells := 0, slots := 0, locals := 126 } : Room) (pcW [.ref h0, .int x1, .int x2, .int x3, .int x4] (dC, dI) vwCl [(cI, .int)] (wX2 cI h0 ht0 ht1 ht2 ht3 ht4 ht5 ht6 hu0 hu1 hu2 hu3 hu4 hu5 hu6 hg0 hg1 hlim hkpt hsyn htkd htsz htlk hthm httg htvl hukd husz hulk huhm hutg huvl hgln hgrw)) (qI r (va_P (dC, dI) vwCl (wX2 cI h0 ht0 ht1 ht2 ht3 ht4 ht5 ht6 hu0 hu1 hu2 hu3 hu4 hu5 hu6 hg0 hg1 hlim hkpt_o hsyn_o htkd_o htsz_o htlk_o hthm_o httg_o htvl_o hukd_o husz_o hulk_o huhm_o hutg_o huvl_o hgln_o hgrw_o)) (inA [h0, ht0, ht1, ht2, ht3, ht4, ht5, ht6, hu0, hu1, hu2, hu3, hu4, hu5, hu6, hg0, hg1])) 0 0 (inA [h0, ht0, ht1, ht2, ht3, ht4, ht5, ht6, hu0, hu1, hu2, hu3, hu4, hu5, hu6, hg0, hg1]) := by
  refine Met.ofW (cc := cX2_rename) (maxL := 6) (ret := (some .int)) (by decide) rfl ?_
  intro p e s m args below meth c s₁ B hml hv
  obtain ⟨rfl, hP, hK, hD0⟩ := hv
  have hx := B.exec
  have hb := B.bytes
  have hr := B.returns
  have hts := atoms_spec (ws := wsX2_rename) B.pre
  have hown : s.vm.findClass RX2 = some m.cls := findClass_of_methodNamed B.named
  have hlocks := B.notSynchronized
  have hD := my_self (as := [h0, ht0, ht1, ht2, ht3, ht4, ht5, ht6, hu0, hu1, hu2, hu3, hu4, hu5, hu6, hg0, hg1]) hD0 rfl
  have hS : va_S (inA [h0, ht0, ht1, ht2, ht3, ht4, ht5, ht6, hu0, hu1, hu2, hu3, hu4, hu5, hu6, hg0, hg1]) s.heap s.heap [] := va_S.rf
  have hl := lv_entry ([.ref h0, .int x1, .int x2, .int x3, .int x4]) (n := 6) (Nat.le_of_ble_eq_true rfl)
  rw [lg_entry_eq]
  generalize (lg_sl ([.ref h0, .int x1, .int x2, .int x3, .int x4]) ++ List.replicate (6 - (lg_sl ([.ref h0, .int x1, .int x2, .int x3, .int x4])).length) Slot.unset).toArray = ls at hl ⊢
  have hl : lv_has ls 6 [(0, .ref h0), (1, .int x1), (2, .int x2), (3, .int x3), (4, .int x4)] := hl
  unfold fX2_rename at hf
  refine lv_iload_n hx hb dX2_rename_0 rfl (lv_at hl 1 rfl) ?_
  obtain ⟨r1, hc1, hf⟩ := bn1_e hf
  refine callRi (va_runS (As := [.int x1]) (rest := []) ⟨hx, hb, hml, hown, hts⟩ (cX2_isNode_met l dC dI cI x1 r1 hc1) (cwS 1 hts gX2_rename_49 rfl rfl rfl (by decide +kernel) ⟨Nat.le_of_ble_eq_true rfl, Nat.le_of_ble_eq_true rfl⟩) (preRS hK (hP.sub (ws' := []) [] rfl)) rfl rfl hl.1 rfl (lv_room (Nat.le_of_ble_eq_true rfl)) dX2_rename_1 ⟨Nat.le_of_ble_eq_true rfl, Nat.le_of_ble_eq_true rfl⟩) hS hP (fun H locs hP hS => ?_)
  refine lv_if_eq (tgt := 29) hx hb dX2_rename_4 (by decide) (fun c4 => ?_) (fun c4 => ?_)
  · have hf := it_t c4 hf
    refine lv_iconst (v := -1) hx hb dX2_rename_29 (by decide) ?_
    cases hf
    exact retI hx hb hr hlocks hP hS dX2_rename_30
  · have hf := it_f c4 hf
    refine lv_iload_n hx hb dX2_rename_7 rfl (lv_at hl 2 rfl) ?_
    obtain ⟨r8, hc8, hf⟩ := bn1_e hf
    refine callRi (va_runS (As := [.int x2]) (rest := []) ⟨hx, hb, hml, hown, hts⟩ (cX2_isName_met l dC dI cI x2 r8 hc8) (cwS 1 hts gX2_rename_53 rfl rfl rfl (by decide +kernel) ⟨Nat.le_of_ble_eq_true rfl, Nat.le_of_ble_eq_true rfl⟩) (preRS hK (hP.sub (ws' := []) [] rfl)) rfl rfl hl.1 rfl (lv_room (Nat.le_of_ble_eq_true rfl)) dX2_rename_8 ⟨Nat.le_of_ble_eq_true rfl, Nat.le_of_ble_eq_true rfl⟩) hS hP (fun H locs hP hS => ?_)
    refine lv_if_eq (tgt := 29) hx hb dX2_rename_11 (by decide) (fun c11 => ?_) (fun c11 => ?_)
    · have hf := it_t c11 hf
      refine lv_iconst (v := -1) hx hb dX2_rename_29 (by decide) ?_
      cases hf
      exact retI hx hb hr hlocks hP hS dX2_rename_30
    · have hf := it_f c11 hf
      refine lv_iload_n hx hb dX2_rename_14 rfl (lv_at hl 3 rfl) ?_
      obtain ⟨r15, hc15, hf⟩ := bn1_e hf
      refine callRi (va_runS (As := [.int x3]) (rest := []) ⟨hx, hb, hml, hown, hts⟩ (cX2_isNode_met l dC dI cI x3 r15 hc15) (cwS 1 hts gX2_rename_49 rfl rfl rfl (by decide +kernel) ⟨Nat.le_of_ble_eq_true rfl, Nat.le_of_ble_eq_true rfl⟩) (preRS hK (hP.sub (ws' := []) [] rfl)) rfl rfl hl.1 rfl (lv_room (Nat.le_of_ble_eq_true rfl)) dX2_rename_15 ⟨Nat.le_of_ble_eq_true rfl, Nat.le_of_ble_eq_true rfl⟩) hS hP (fun H locs hP hS => ?_)
      refine lv_if_eq (tgt := 29) hx hb dX2_rename_18 (by decide) (fun c18 => ?_) (fun c18 => ?_)
      · have hf := it_t c18 hf
        refine lv_iconst (v := -1) hx hb dX2_rename_29 (by decide) ?_
        cases hf
        exact retI hx hb hr hlocks hP hS dX2_rename_30
      · have hf := it_f c18 hf
        refine lv_iload hx hb dX2_rename_21 (lv_at hl 4 rfl) ?_
        obtain ⟨r23, hc23, hf⟩ := bn1_e hf
        refine callRi (va_runS (As := [.int x4]) (rest := []) ⟨hx, hb, hml, hown, hts⟩ (cX2_isName_met l dC dI cI x4 r23 hc23) (cwS 1 hts gX2_rename_53 rfl rfl rfl (by decide +kernel) ⟨Nat.le_of_ble_eq_true rfl, Nat.le_of_ble_eq_true rfl⟩) (preRS hK (hP.sub (ws' := []) [] rfl)) rfl rfl hl.1 rfl (lv_room (Nat.le_of_ble_eq_true rfl)) dX2_rename_23 ⟨Nat.le_of_ble_eq_true rfl, Nat.le_of_ble_eq_true rfl⟩) hS hP (fun H locs hP hS => ?_)
        refine lv_if_ne (tgt := 31) hx hb dX2_rename_26 (by decide) (fun c26 => ?_) (fun c26 => ?_)
        · have hf := it_f c26 hf
          refine lv_aload_n hx hb dX2_rename_31 rfl (lv_at hl 0 rfl) ?_
          refine va_get (D := (dC, dI)) (ci := 2) (v := .ref ht0) (C := RX2) (T := TX2) (N := 6) hx hb hts (fun w h => mc (inX2 w h)) hown hK hP 0 rfl rfl 1 (by decide) (hts _ (mc q_55)) (fun _ h9 => h9) rfl dX2_rename_32 ?_
          refine lv_iload_n hx hb dX2_rename_35 rfl (lv_at hl 1 rfl) ?_
          obtain ⟨r36, hc36, hf⟩ := bn1_e hf
          refine callRi (va_runV (As := [.int x1]) (rest := []) ⟨hx, hb, hml, hown, hts⟩ (cX1_isDirectory_met l dC dI cI ht0 ht1 ht2 ht3 ht4 ht5 ht6 htkd htsz htlk hthm httg htvl x1 r36 hc36) (cwV 1 hts gX2_rename_56 rfl rfl rfl (by decide +kernel) ⟨Nat.le_of_ble_eq_true rfl, Nat.le_of_ble_eq_true rfl⟩) (preRV (ci := 1) (q0 := 0) hK (hP.sub (ws' := (wX1 cI ht0 ht1 ht2 ht3 ht4 ht5 ht6 htkd htsz htlk hthm httg htvl)) [1, 2, 3, 4, 5, 6, 7] rfl) rfl rfl) rfl rfl hl.1 rfl (lv_room (Nat.le_of_ble_eq_true rfl)) dX2_rename_36 ⟨Nat.le_of_ble_eq_true rfl, Nat.le_of_ble_eq_true rfl⟩) hS hP (fun H locs hP hS => ?_)
          refine lv_if_eq (tgt := 65) hx hb dX2_rename_39 (by decide) (fun c39 => ?_) (fun c39 => ?_)
          · have hf := it_t c39 hf
            refine lv_bipush (v := -2) hx hb dX2_rename_65 (by decide) ?_
            cases hf
            exact retI hx hb hr hlocks hP hS dX2_rename_67
          · have hf := it_f c39 hf
            refine lv_aload_n hx hb dX2_rename_42 rfl (lv_at hl 0 rfl) ?_
            refine va_get (D := (dC, dI)) (ci := 2) (v := .ref ht0) (C := RX2) (T := TX2) (N := 6) hx hb hts (fun w h => mc (inX2 w h)) hown hK hP 0 rfl rfl 1 (by decide) (hts _ (mc q_55)) (fun _ h9 => h9) rfl dX2_rename_43 ?_
            refine lv_iload_n hx hb dX2_rename_46 rfl (lv_at hl 3 rfl) ?_
            obtain ⟨r47, hc47, hf⟩ := bn1_e hf
            refine callRi (va_runV (As := [.int x3]) (rest := []) ⟨hx, hb, hml, hown, hts⟩ (cX1_isDirectory_met l dC dI cI ht0 ht1 ht2 ht3 ht4 ht5 ht6 htkd htsz htlk hthm httg htvl x3 r47 hc47) (cwV 1 hts gX2_rename_56 rfl rfl rfl (by decide +kernel) ⟨Nat.le_of_ble_eq_true rfl, Nat.le_of_ble_eq_true rfl⟩) (preRV (ci := 1) (q0 := 0) hK (hP.sub (ws' := (wX1 cI ht0 ht1 ht2 ht3 ht4 ht5 ht6 htkd htsz htlk hthm httg htvl)) [1, 2, 3, 4, 5, 6, 7] rfl) rfl rfl) rfl rfl hl.1 rfl (lv_room (Nat.le_of_ble_eq_true rfl)) dX2_rename_47 ⟨Nat.le_of_ble_eq_true rfl, Nat.le_of_ble_eq_true rfl⟩) hS hP (fun H locs hP hS => ?_)
            refine lv_if_eq (tgt := 65) hx hb dX2_rename_50 (by decide) (fun c50 => ?_) (fun c50 => ?_)
            · have hf := it_t c50 hf
              refine lv_bipush (v := -2) hx hb dX2_rename_65 (by decide) ?_
              cases hf
              exact retI hx hb hr hlocks hP hS dX2_rename_67
            · have hf := it_f c50 hf
              refine lv_aload_n hx hb dX2_rename_53 rfl (lv_at hl 0 rfl) ?_
              refine va_get (D := (dC, dI)) (ci := 2) (v := .ref ht0) (C := RX2) (T := TX2) (N := 6) hx hb hts (fun w h => mc (inX2 w h)) hown hK hP 0 rfl rfl 1 (by decide) (hts _ (mc q_55)) (fun _ h9 => h9) rfl dX2_rename_54 ?_
              refine lv_iload_n hx hb dX2_rename_57 rfl (lv_at hl 1 rfl) ?_
              refine lv_iload_n hx hb dX2_rename_58 rfl (lv_at hl 2 rfl) ?_
              obtain ⟨r59, hc59, hf⟩ := bn1_e hf
              refine callRi (va_runV (As := [.int x1, .int x2]) (rest := []) ⟨hx, hb, hml, hown, hts⟩ (cX1_target_met l dC dI cI ht0 ht1 ht2 ht3 ht4 ht5 ht6 htkd htsz htlk hthm httg htvl x1 x2 r59 hc59) (cwV 2 hts gX2_rename_59 rfl rfl rfl (by decide +kernel) ⟨Nat.le_of_ble_eq_true rfl, Nat.le_of_ble_eq_true rfl⟩) (preRV (ci := 1) (q0 := 0) hK (hP.sub (ws' := (wX1 cI ht0 ht1 ht2 ht3 ht4 ht5 ht6 htkd htsz htlk hthm httg htvl)) [1, 2, 3, 4, 5, 6, 7] rfl) rfl rfl) rfl rfl hl.1 rfl (lv_room (Nat.le_of_ble_eq_true rfl)) dX2_rename_59 ⟨Nat.le_of_ble_eq_true rfl, Nat.le_of_ble_eq_true rfl⟩) hS hP (fun H locs hP hS => ?_)
              refine lv_if_ne (tgt := 68) hx hb dX2_rename_62 (by decide) (fun c62 => ?_) (fun c62 => ?_)
              · have hf := it_f c62 hf
                refine lv_aload_n hx hb dX2_rename_68 rfl (lv_at hl 0 rfl) ?_
                refine va_get (D := (dC, dI)) (ci := 2) (v := .ref ht0) (C := RX2) (T := TX2) (N := 6) hx hb hts (fun w h => mc (inX2 w h)) hown hK hP 0 rfl rfl 1 (by decide) (hts _ (mc q_55)) (fun _ h9 => h9) rfl dX2_rename_69 ?_
                refine lv_iload_n hx hb dX2_rename_72 rfl (lv_at hl 3 rfl) ?_
                refine lv_iload hx hb dX2_rename_73 (lv_at hl 4 rfl) ?_
                obtain ⟨r75, hc75, hf⟩ := bn1_e hf
                refine callRi (va_runV (As := [.int x3, .int x4]) (rest := []) ⟨hx, hb, hml, hown, hts⟩ (cX1_target_met l dC dI cI ht0 ht1 ht2 ht3 ht4 ht5 ht6 htkd htsz htlk hthm httg htvl x3 x4 r75 hc75) (cwV 2 hts gX2_rename_59 rfl rfl rfl (by decide +kernel) ⟨Nat.le_of_ble_eq_true rfl, Nat.le_of_ble_eq_true rfl⟩) (preRV (ci := 1) (q0 := 0) hK (hP.sub (ws' := (wX1 cI ht0 ht1 ht2 ht3 ht4 ht5 ht6 htkd htsz htlk hthm httg htvl)) [1, 2, 3, 4, 5, 6, 7] rfl) rfl rfl) rfl rfl hl.1 rfl (lv_room (Nat.le_of_ble_eq_true rfl)) dX2_rename_75 ⟨Nat.le_of_ble_eq_true rfl, Nat.le_of_ble_eq_true rfl⟩) hS hP (fun H locs hP hS => ?_)
                refine lv_if_eq (tgt := 84) hx hb dX2_rename_78 (by decide) (fun c78 => ?_) (fun c78 => ?_)
                · have hf := it_t c78 hf
                  refine lv_aload_n hx hb dX2_rename_84 rfl (lv_at hl 0 rfl) ?_
                  refine va_get (D := (dC, dI)) (ci := 2) (v := .ref ht0) (C := RX2) (T := TX2) (N := 6) hx hb hts (fun w h => mc (inX2 w h)) hown hK hP 0 rfl rfl 1 (by decide) (hts _ (mc q_55)) (fun _ h9 => h9) rfl dX2_rename_85 ?_
                  refine lv_iload_n hx hb dX2_rename_88 rfl (lv_at hl 3 rfl) ?_
                  refine lv_aload_n hx hb dX2_rename_89 rfl (lv_at hl 0 rfl) ?_
                  refine va_get (D := (dC, dI)) (ci := 2) (v := .ref ht0) (C := RX2) (T := TX2) (N := 6) hx hb hts (fun w h => mc (inX2 w h)) hown hK hP 0 rfl rfl 1 (by decide) (hts _ (mc q_55)) (fun _ h9 => h9) rfl dX2_rename_90 ?_
                  refine lv_iload_n hx hb dX2_rename_93 rfl (lv_at hl 1 rfl) ?_
                  refine lv_iload_n hx hb dX2_rename_94 rfl (lv_at hl 2 rfl) ?_
                  obtain ⟨r95, hc95, hf⟩ := bn1_e hf
                  refine callRi (va_runV (As := [.int x1, .int x2]) (rest := [.int x3, .ref ht0]) ⟨hx, hb, hml, hown, hts⟩ (cX1_target_met l dC dI cI ht0 ht1 ht2 ht3 ht4 ht5 ht6 htkd htsz htlk hthm httg htvl x1 x2 r95 hc95) (cwV 2 hts gX2_rename_59 rfl rfl rfl (by decide +kernel) ⟨Nat.le_of_ble_eq_true rfl, Nat.le_of_ble_eq_true rfl⟩) (preRV (ci := 1) (q0 := 0) hK (hP.sub (ws' := (wX1 cI ht0 ht1 ht2 ht3 ht4 ht5 ht6 htkd htsz htlk hthm httg htvl)) [1, 2, 3, 4, 5, 6, 7] rfl) rfl rfl) rfl rfl hl.1 rfl (lv_room (Nat.le_of_ble_eq_true rfl)) dX2_rename_95 ⟨Nat.le_of_ble_eq_true rfl, Nat.le_of_ble_eq_true rfl⟩) hS hP (fun H locs hP hS => ?_)
                  obtain ⟨r98, hc98, hf⟩ := bn1_e hf
                  refine callRi (va_runV (As := [.int x3, .int r95]) (rest := []) ⟨hx, hb, hml, hown, hts⟩ (cX1_liesIn_met l dC dI cI ht0 ht1 ht2 ht3 ht4 ht5 ht6 htkd htsz htlk hthm httg htvl x3 r95 r98 hc98) (cwV 2 hts gX2_rename_89 rfl rfl rfl (by decide +kernel) ⟨Nat.le_of_ble_eq_true rfl, Nat.le_of_ble_eq_true rfl⟩) (preRV (ci := 1) (q0 := 0) hK (hP.sub (ws' := (wX1 cI ht0 ht1 ht2 ht3 ht4 ht5 ht6 htkd htsz htlk hthm httg htvl)) [1, 2, 3, 4, 5, 6, 7] rfl) rfl rfl) rfl rfl hl.1 rfl (lv_room (Nat.le_of_ble_eq_true rfl)) dX2_rename_98 ⟨Nat.le_of_ble_eq_true rfl, Nat.le_of_ble_eq_true rfl⟩) hS hP (fun H locs hP hS => ?_)
                  refine lv_if_eq (tgt := 106) hx hb dX2_rename_101 (by decide) (fun c101 => ?_) (fun c101 => ?_)
                  · have hf := it_t c101 hf
                    refine lv_iload_n hx hb dX2_rename_106 rfl (lv_at hl 3 rfl) ?_
                    refine lv_iload_n hx hb dX2_rename_107 rfl (lv_at hl 1 rfl) ?_
                    refine lv_icmp_eq (tgt := 127) hx hb dX2_rename_108 (by decide) (fun c108 => ?_) (fun c108 => ?_)
                    · have hf := it_t c108 hf
                      exact wbX2_rename_127 hx hb hml hown hts hr hlocks hK h0 ht0 ht1 ht2 ht3 ht4 ht5 ht6 hu0 hu1 hu2 hu3 hu4 hu5 hu6 hg0 hg1 hlim r hkpt_o hsyn_o htkd_o htsz_o htlk_o hthm_o httg_o htvl_o hukd_o husz_o hulk_o huhm_o hutg_o huvl_o hgln_o hgrw_o x1 x2 x3 x4 hkpt hsyn htkd htsz htlk hthm httg htvl hukd husz hulk huhm hutg huvl hgln hgrw _ _ hP hD hS _ (lv_sub hl [0, 1, 2, 3, 4] rfl) hf
                    · have hf := it_f c108 hf
                      refine lv_aload_n hx hb dX2_rename_111 rfl (lv_at hl 0 rfl) ?_
                      refine va_get (D := (dC, dI)) (ci := 2) (v := .ref ht0) (C := RX2) (T := TX2) (N := 6) hx hb hts (fun w h => mc (inX2 w h)) hown hK hP 0 rfl rfl 1 (by decide) (hts _ (mc q_55)) (fun _ h9 => h9) rfl dX2_rename_112 ?_
                      refine lv_iload_n hx hb dX2_rename_115 rfl (lv_at hl 3 rfl) ?_
                      obtain ⟨r116, hc116, hf⟩ := bn1_e hf
                      refine callRi (va_runV (As := [.int x3]) (rest := []) ⟨hx, hb, hml, hown, hts⟩ (cX1_size_met l dC dI cI ht0 ht1 ht2 ht3 ht4 ht5 ht6 htkd htsz htlk hthm httg htvl x3 r116 hc116) (cwV 1 hts gX2_rename_65 rfl rfl rfl (by decide +kernel) ⟨Nat.le_of_ble_eq_true rfl, Nat.le_of_ble_eq_true rfl⟩) (preRV (ci := 1) (q0 := 0) hK (hP.sub (ws' := (wX1 cI ht0 ht1 ht2 ht3 ht4 ht5 ht6 htkd htsz htlk hthm httg htvl)) [1, 2, 3, 4, 5, 6, 7] rfl) rfl rfl) rfl rfl hl.1 rfl (lv_room (Nat.le_of_ble_eq_true rfl)) dX2_rename_116 ⟨Nat.le_of_ble_eq_true rfl, Nat.le_of_ble_eq_true rfl⟩) hS hP (fun H locs hP hS => ?_)
                      refine lv_bipush (v := 8) hx hb dX2_rename_119 (by decide) ?_
                      refine lv_icmp_lt (tgt := 127) hx hb dX2_rename_121 (by decide) (fun c121 => ?_) (fun c121 => ?_)
                      · have hf := it_t c121 hf
                        exact wbX2_rename_127 hx hb hml hown hts hr hlocks hK h0 ht0 ht1 ht2 ht3 ht4 ht5 ht6 hu0 hu1 hu2 hu3 hu4 hu5 hu6 hg0 hg1 hlim r hkpt_o hsyn_o htkd_o htsz_o htlk_o hthm_o httg_o htvl_o hukd_o husz_o hulk_o huhm_o hutg_o huvl_o hgln_o hgrw_o x1 x2 x3 x4 hkpt hsyn htkd htsz htlk hthm httg htvl hukd husz hulk huhm hutg huvl hgln hgrw _ _ hP hD hS _ (lv_sub hl [0, 1, 2, 3, 4] rfl) hf
                      · have hf := it_f c121 hf
                        refine lv_bipush (v := -5) hx hb dX2_rename_124 (by decide) ?_
                        cases hf
                        exact retI hx hb hr hlocks hP hS dX2_rename_126
                  · have hf := it_f c101 hf
                    refine lv_iconst (v := -1) hx hb dX2_rename_104 (by decide) ?_
                    cases hf
                    exact retI hx hb hr hlocks hP hS dX2_rename_105
                · have hf := it_f c78 hf
                  refine lv_bipush (v := -3) hx hb dX2_rename_81 (by decide) ?_
                  cases hf
                  exact retI hx hb hr hlocks hP hS dX2_rename_83
              · have hf := it_t c62 hf
                refine lv_bipush (v := -2) hx hb dX2_rename_65 (by decide) ?_
                cases hf
                exact retI hx hb hr hlocks hP hS dX2_rename_67
        · have hf := it_t c26 hf
          refine lv_iconst (v := -1) hx hb dX2_rename_29 (by decide) ?_
          cases hf
          exact retI hx hb hr hlocks hP hS dX2_rename_30
end
section
theorem gX2_write_49 : GoodIn wsX2_write (wsS RX2 49 yX2_isNode wsX2_isNode) := gIn (memS q_64 q_65 q_1 q_66)
theorem gX2_write_80 : GoodIn wsX2_write (wsV RX2 80 RX1 yX1_isFile wsX1_isFile) := gIn (memV q_159 q_51 q_52 q_3 q_53)
theorem gX2_write_65 : GoodIn wsX2_write (wsV RX2 65 RX1 yX1_size wsX1_size) := gIn (memV q_82 q_83 q_84 q_3 q_85)
theorem gX2_write_69 : GoodIn wsX2_write (wsS RX2 69 yX2_costOf wsX2_costOf) := gIn (memS q_86 q_87 q_1 q_88)
theorem gX2_write_72 : GoodIn wsX2_write (wsV RX2 72 RX2 yX2_makesRoom wsX2_makesRoom) := gIn (memV q_89 q_90 q_344 q_1 q_91)
theorem gX2_write_76 : GoodIn wsX2_write (wsV RX2 76 RX2 yX2_perform wsX2_perform) := gIn (memV q_109 q_110 q_347 q_1 q_111)
set_option maxHeartbeats 4000000 in
set_option maxRecDepth 100000 in
theorem wbX2_write_74 {p : Program} {l : Launch} {e : Env} {s : State} {m : MethodId} {args : Array Value} {below : List Frame} {meth : Method} {c : Code} {dC : Nat → ClassId} {dI : Nat → Nat → Nat} {cI : ClassId} (hx : p.tables.exec = Jvm.exec) (hb : c.code = cX2_write) (hml : c.maxLocals = 5) (hown : s.vm.findClass RX2 = some m.cls) (hts : ∀ w ∈ wsX2_write, w.before args s = true) (hr : meth.sig.returnType = (some .int)) (hlocks : meth.locks = false) (hK : va_K (dC, dI) vwCl [(cI, .int)] s) (h0 ht0 ht1 ht2 ht3 ht4 ht5 ht6 hu0 hu1 hu2 hu3 hu4 hu5 hu6 hg0 hg1 : Nat) (hlim : Int32) (r : Int32) (hkpt_o : Int32) (hsyn_o : Int32) (htkd_o : Nat → Int32) (htsz_o : Nat → Int32) (htlk_o : Nat → Int32) (hthm_o : Nat → Int32) (httg_o : Nat → Int32) (htvl_o : Nat → Int32) (hukd_o : Nat → Int32) (husz_o : Nat → Int32) (hulk_o : Nat → Int32) (huhm_o : Nat → Int32) (hutg_o : Nat → Int32) (huvl_o : Nat → Int32) (hgln_o : Int32) (hgrw_o : Nat → Int32) : ∀ (x1 : Int32) (x2 : Int32) (x3 : Int32) (x4 : Int32) (z0 : Int32) (z1 : Int32) (hkpt : Int32) (hsyn : Int32) (htkd : Nat → Int32) (htsz : Nat → Int32) (htlk : Nat → Int32) (hthm : Nat → Int32) (httg : Nat → Int32) (htvl : Nat → Int32) (hukd : Nat → Int32) (husz : Nat → Int32) (hulk : Nat → Int32) (huhm : Nat → Int32) (hutg : Nat → Int32) (huvl : Nat → Int32) (hgln : Int32) (hgrw : Nat → Int32) (H : Heap) (locs : List Loc), va_P (dC, dI) vwCl (wX2 cI h0 ht0 ht1 ht2 ht3 ht4 ht5 ht6 hu0 hu1 hu2 hu3 hu4 hu5 hu6 hg0 hg1 hlim hkpt hsyn htkd htsz htlk hthm httg htvl hukd husz hulk huhm hutg huvl hgln hgrw) H → va_D (inA [h0, ht0, ht1, ht2, ht3, ht4, ht5, ht6, hu0, hu1, hu2, hu3, hu4, hu5, hu6, hg0, hg1]) (wX2 cI h0 ht0 ht1 ht2 ht3 ht4 ht5 ht6 hu0 hu1 hu2 hu3 hu4 hu5 hu6 hg0 hg1 hlim hkpt hsyn htkd htsz htlk hthm httg htvl hukd husz hulk huhm hutg huvl hgln hgrw) → va_S (inA [h0, ht0, ht1, ht2, ht3, ht4, ht5, ht6, hu0, hu1, hu2, hu3, hu4, hu5, hu6, hg0, hg1]) s.heap H locs → ∀ (ls : Array Slot), lv_has ls 5 [(0, .ref h0), (1, .int x1), (2, .int x2), (3, .int x3), (4, .int x4)] → fX2_write_b74 hlim x1 x2 x3 x4 z0 z1 hkpt hsyn htkd htsz htlk hthm httg htvl hukd husz hulk huhm hutg huvl hgln hgrw = some (r, hkpt_o, hsyn_o, htkd_o, htsz_o, htlk_o, hthm_o, httg_o, htvl_o, hukd_o, husz_o, hulk_o, huhm_o, hutg_o, huvl_o, hgln_o, hgrw_o) → W p l e ({ frames := 6, cells := 0, slots := 0, locals := 126 } : Room) s m args below meth c H locs 0 0 (MQ below (qI r (va_P (dC, dI) vwCl (wX2 cI h0 ht0 ht1 ht2 ht3 ht4 ht5 ht6 hu0 hu1 hu2 hu3 hu4 hu5 hu6 hg0 hg1 hlim hkpt_o hsyn_o htkd_o htsz_o htlk_o hthm_o httg_o htvl_o hukd_o husz_o hulk_o huhm_o hutg_o huvl_o hgln_o hgrw_o)) (inA [h0, ht0, ht1, ht2, ht3, ht4, ht5, ht6, hu0, hu1, hu2, hu3, hu4, hu5, hu6, hg0, hg1])) args s 0 0 (inA [h0, ht0, ht1, ht2, ht3, ht4, ht5, ht6, hu0, hu1, hu2, hu3, hu4, hu5, hu6, hg0, hg1])) (F0 m 74 ls [.int z0, .int z1, .ref h0]) := by
  intro x1 x2 x3 x4 z0 z1 hkpt hsyn htkd htsz htlk hthm httg htvl hukd husz hulk huhm hutg huvl hgln hgrw H locs hP hD hS ls hl hf
  unfold fX2_write_b74 at hf
  obtain ⟨r74, hkpt_74, hsyn_74, hukd_74, husz_74, hulk_74, huhm_74, hutg_74, huvl_74, hgln_74, hc74, hf⟩ := bn10_e hf
  refine callVi (w1 := (wX2 cI h0 ht0 ht1 ht2 ht3 ht4 ht5 ht6 hu0 hu1 hu2 hu3 hu4 hu5 hu6 hg0 hg1 hlim hkpt_74 hsyn_74 htkd htsz htlk hthm httg htvl hukd_74 husz_74 hulk_74 huhm_74 hutg_74 huvl_74 hgln_74 hgrw)) (va_runV (As := [.int z1, .int z0]) (rest := []) ⟨hx, hb, hml, hown, hts⟩ (cX2_makesRoom_met l dC dI cI h0 ht0 ht1 ht2 ht3 ht4 ht5 ht6 hu0 hu1 hu2 hu3 hu4 hu5 hu6 hg0 hg1 hlim hkpt hsyn htkd htsz htlk hthm httg htvl hukd husz hulk huhm hutg huvl hgln hgrw z1 z0 r74 hkpt_74 hsyn_74 hukd_74 husz_74 hulk_74 huhm_74 hutg_74 huvl_74 hgln_74 hc74) (cwV 2 hts gX2_write_72 rfl rfl rfl (by decide +kernel) ⟨Nat.le_of_ble_eq_true rfl, Nat.le_of_ble_eq_true rfl⟩) (preWV (ci := 2) (q0 := 0) hK hP hD rfl rfl) rfl rfl hl.1 rfl (lv_room (Nat.le_of_ble_eq_true rfl)) dX2_write_74 ⟨Nat.le_of_ble_eq_true rfl, Nat.le_of_ble_eq_true rfl⟩) hS hD rfl rfl (fun H locs hP hD hS => ?_)
  refine lv_if_ne (tgt := 83) hx hb dX2_write_77 (by decide) (fun c77 => ?_) (fun c77 => ?_)
  · have hf := it_f c77 hf
    refine lv_aload_n hx hb dX2_write_83 rfl (lv_at hl 0 rfl) ?_
    refine lv_iload hx hb dX2_write_84 (lv_at hl 4 rfl) ?_
    refine lv_iconst (v := 4) hx hb dX2_write_86 (by decide) ?_
    refine lv_iload_n hx hb dX2_write_87 rfl (lv_at hl 1 rfl) ?_
    refine lv_iload_n hx hb dX2_write_88 rfl (lv_at hl 2 rfl) ?_
    refine lv_iload_n hx hb dX2_write_89 rfl (lv_at hl 3 rfl) ?_
    refine lv_iconst (v := 0) hx hb dX2_write_90 (by decide) ?_
    obtain ⟨hkpt_91, htkd_91, htsz_91, htlk_91, hthm_91, httg_91, htvl_91, hgln_91, hgrw_91, hc91, hf⟩ := bn9_e hf
    refine callVv (w1 := (wX2 cI h0 ht0 ht1 ht2 ht3 ht4 ht5 ht6 hu0 hu1 hu2 hu3 hu4 hu5 hu6 hg0 hg1 hlim hkpt_91 hsyn_74 htkd_91 htsz_91 htlk_91 hthm_91 httg_91 htvl_91 hukd_74 husz_74 hulk_74 huhm_74 hutg_74 huvl_74 hgln_91 hgrw_91)) (va_runV (As := [.int x4, .int 4, .int x1, .int x2, .int x3, .int 0]) (rest := []) ⟨hx, hb, hml, hown, hts⟩ (cX2_perform_met l dC dI cI h0 ht0 ht1 ht2 ht3 ht4 ht5 ht6 hu0 hu1 hu2 hu3 hu4 hu5 hu6 hg0 hg1 hlim hkpt_74 hsyn_74 htkd htsz htlk hthm httg htvl hukd_74 husz_74 hulk_74 huhm_74 hutg_74 huvl_74 hgln_74 hgrw x4 4 x1 x2 x3 0 hkpt_91 htkd_91 htsz_91 htlk_91 hthm_91 httg_91 htvl_91 hgln_91 hgrw_91 hc91) (cwV 6 hts gX2_write_76 rfl rfl rfl (by decide +kernel) ⟨Nat.le_of_ble_eq_true rfl, Nat.le_of_ble_eq_true rfl⟩) (preWV (ci := 2) (q0 := 0) hK hP hD rfl rfl) rfl rfl hl.1 rfl (lv_room (Nat.le_of_ble_eq_true rfl)) dX2_write_91 ⟨Nat.le_of_ble_eq_true rfl, Nat.le_of_ble_eq_true rfl⟩) hS hD rfl rfl (fun H locs hP hD hS => ?_)
    refine lv_iconst (v := 0) hx hb dX2_write_94 (by decide) ?_
    cases hf
    exact retI hx hb hr hlocks hP hS dX2_write_95
  · have hf := it_t c77 hf
    refine lv_bipush (v := -6) hx hb dX2_write_80 (by decide) ?_
    cases hf
    exact retI hx hb hr hlocks hP hS dX2_write_82
set_option maxHeartbeats 4000000 in
set_option maxRecDepth 100000 in
theorem cX2_write_met (l : Launch) (dC : Nat → ClassId) (dI : Nat → Nat → Nat) (cI : ClassId) (h0 ht0 ht1 ht2 ht3 ht4 ht5 ht6 hu0 hu1 hu2 hu3 hu4 hu5 hu6 hg0 hg1 : Nat) (hlim : Int32) (hkpt : Int32) (hsyn : Int32) (htkd : Nat → Int32) (htsz : Nat → Int32) (htlk : Nat → Int32) (hthm : Nat → Int32) (httg : Nat → Int32) (htvl : Nat → Int32) (hukd : Nat → Int32) (husz : Nat → Int32) (hulk : Nat → Int32) (huhm : Nat → Int32) (hutg : Nat → Int32) (huvl : Nat → Int32) (hgln : Int32) (hgrw : Nat → Int32) (x1 : Int32) (x2 : Int32) (x3 : Int32) (r : Int32) (hkpt_o : Int32) (hsyn_o : Int32) (htkd_o : Nat → Int32) (htsz_o : Nat → Int32) (htlk_o : Nat → Int32) (hthm_o : Nat → Int32) (httg_o : Nat → Int32) (htvl_o : Nat → Int32) (hukd_o : Nat → Int32) (husz_o : Nat → Int32) (hulk_o : Nat → Int32) (huhm_o : Nat → Int32) (hutg_o : Nat → Int32) (huvl_o : Nat → Int32) (hgln_o : Int32) (hgrw_o : Nat → Int32) (hf : fX2_write x1 x2 x3 hlim hkpt hsyn htkd htsz htlk hthm httg htvl hukd husz hulk huhm hutg huvl hgln hgrw = some (r, hkpt_o, hsyn_o, htkd_o, htsz_o, htlk_o, hthm_o, httg_o, htvl_o, hukd_o, husz_o, hulk_o, huhm_o, hutg_o, huvl_o, hgln_o, hgrw_o)) : Met l yX2_write wsX2_write ({ frames := 6, cells := 0, slots := 0, locals := 126 } : Room) (pcW [.ref h0, .int x1, .int x2, .int x3] (dC, dI) vwCl [(cI, .int)] (wX2 cI h0 ht0 ht1 ht2 ht3 ht4 ht5 ht6 hu0 hu1 hu2 hu3 hu4 hu5 hu6 hg0 hg1 hlim hkpt hsyn htkd htsz htlk hthm httg htvl hukd husz hulk huhm hutg huvl hgln hgrw)) (qI r (va_P (dC, dI) vwCl (wX2 cI h0 ht0 ht1 ht2 ht3 ht4 ht5 ht6 hu0 hu1 hu2 hu3 hu4 hu5 hu6 hg0 hg1 hlim hkpt_o hsyn_o htkd_o htsz_o htlk_o hthm_o httg_o htvl_o hukd_o husz_o hulk_o huhm_o hutg_o huvl_o hgln_o hgrw_o)) (inA [h0, ht0, ht1, ht2, ht3, ht4, ht5, ht6, hu0, hu1, hu2, hu3, hu4, hu5, hu6, hg0, hg1])) 0 0 (inA [h0, ht0, ht1, ht2, ht3, ht4, ht5, ht6, hu0, hu1, hu2, hu3, hu4, hu5, hu6, hg0, hg1]) := by
  refine Met.ofW (cc := cX2_write) (maxL := 5) (ret := (some .int)) (by decide) rfl ?_
  intro p e s m args below meth c s₁ B hml hv
  obtain ⟨rfl, hP, hK, hD0⟩ := hv
  have hx := B.exec
  have hb := B.bytes
  have hr := B.returns
  have hts := atoms_spec (ws := wsX2_write) B.pre
  have hown : s.vm.findClass RX2 = some m.cls := findClass_of_methodNamed B.named
  have hlocks := B.notSynchronized
  have hD := my_self (as := [h0, ht0, ht1, ht2, ht3, ht4, ht5, ht6, hu0, hu1, hu2, hu3, hu4, hu5, hu6, hg0, hg1]) hD0 rfl
  have hS : va_S (inA [h0, ht0, ht1, ht2, ht3, ht4, ht5, ht6, hu0, hu1, hu2, hu3, hu4, hu5, hu6, hg0, hg1]) s.heap s.heap [] := va_S.rf
  have hl := lv_entry ([.ref h0, .int x1, .int x2, .int x3]) (n := 5) (Nat.le_of_ble_eq_true rfl)
  rw [lg_entry_eq]
  generalize (lg_sl ([.ref h0, .int x1, .int x2, .int x3]) ++ List.replicate (5 - (lg_sl ([.ref h0, .int x1, .int x2, .int x3])).length) Slot.unset).toArray = ls at hl ⊢
  have hl : lv_has ls 5 [(0, .ref h0), (1, .int x1), (2, .int x2), (3, .int x3)] := hl
  unfold fX2_write at hf
  refine lv_iload_n hx hb dX2_write_0 rfl (lv_at hl 1 rfl) ?_
  obtain ⟨r1, hc1, hf⟩ := bn1_e hf
  refine callRi (va_runS (As := [.int x1]) (rest := []) ⟨hx, hb, hml, hown, hts⟩ (cX2_isNode_met l dC dI cI x1 r1 hc1) (cwS 1 hts gX2_write_49 rfl rfl rfl (by decide +kernel) ⟨Nat.le_of_ble_eq_true rfl, Nat.le_of_ble_eq_true rfl⟩) (preRS hK (hP.sub (ws' := []) [] rfl)) rfl rfl hl.1 rfl (lv_room (Nat.le_of_ble_eq_true rfl)) dX2_write_1 ⟨Nat.le_of_ble_eq_true rfl, Nat.le_of_ble_eq_true rfl⟩) hS hP (fun H locs hP hS => ?_)
  refine lv_if_eq (tgt := 17) hx hb dX2_write_4 (by decide) (fun c4 => ?_) (fun c4 => ?_)
  · have hf := it_t c4 hf
    refine lv_iconst (v := -1) hx hb dX2_write_17 (by decide) ?_
    cases hf
    exact retI hx hb hr hlocks hP hS dX2_write_18
  · have hf := it_f c4 hf
    refine lv_iload_n hx hb dX2_write_7 rfl (lv_at hl 2 rfl) ?_
    refine lv_if_lt (tgt := 17) hx hb dX2_write_8 (by decide) (fun c8 => ?_) (fun c8 => ?_)
    · have hf := it_t c8 hf
      refine lv_iconst (v := -1) hx hb dX2_write_17 (by decide) ?_
      cases hf
      exact retI hx hb hr hlocks hP hS dX2_write_18
    · have hf := it_f c8 hf
      refine lv_iload_n hx hb dX2_write_11 rfl (lv_at hl 2 rfl) ?_
      refine lv_bipush (v := 8) hx hb dX2_write_12 (by decide) ?_
      refine lv_icmp_lt (tgt := 19) hx hb dX2_write_14 (by decide) (fun c14 => ?_) (fun c14 => ?_)
      · have hf := it_t c14 hf
        refine lv_aload_n hx hb dX2_write_19 rfl (lv_at hl 0 rfl) ?_
        refine va_get (D := (dC, dI)) (ci := 2) (v := .ref ht0) (C := RX2) (T := TX2) (N := 6) hx hb hts (fun w h => mc (inX2 w h)) hown hK hP 0 rfl rfl 1 (by decide) (hts _ (mc q_55)) (fun _ h9 => h9) rfl dX2_write_20 ?_
        refine lv_iload_n hx hb dX2_write_23 rfl (lv_at hl 1 rfl) ?_
        obtain ⟨r24, hc24, hf⟩ := bn1_e hf
        refine callRi (va_runV (As := [.int x1]) (rest := []) ⟨hx, hb, hml, hown, hts⟩ (cX1_isFile_met l dC dI cI ht0 ht1 ht2 ht3 ht4 ht5 ht6 htkd htsz htlk hthm httg htvl x1 r24 hc24) (cwV 1 hts gX2_write_80 rfl rfl rfl (by decide +kernel) ⟨Nat.le_of_ble_eq_true rfl, Nat.le_of_ble_eq_true rfl⟩) (preRV (ci := 1) (q0 := 0) hK (hP.sub (ws' := (wX1 cI ht0 ht1 ht2 ht3 ht4 ht5 ht6 htkd htsz htlk hthm httg htvl)) [1, 2, 3, 4, 5, 6, 7] rfl) rfl rfl) rfl rfl hl.1 rfl (lv_room (Nat.le_of_ble_eq_true rfl)) dX2_write_24 ⟨Nat.le_of_ble_eq_true rfl, Nat.le_of_ble_eq_true rfl⟩) hS hP (fun H locs hP hS => ?_)
        refine lv_if_ne (tgt := 33) hx hb dX2_write_27 (by decide) (fun c27 => ?_) (fun c27 => ?_)
        · have hf := it_f c27 hf
          refine lv_iload_n hx hb dX2_write_33 rfl (lv_at hl 2 rfl) ?_
          refine lv_aload_n hx hb dX2_write_34 rfl (lv_at hl 0 rfl) ?_
          refine va_get (D := (dC, dI)) (ci := 2) (v := .ref ht0) (C := RX2) (T := TX2) (N := 6) hx hb hts (fun w h => mc (inX2 w h)) hown hK hP 0 rfl rfl 1 (by decide) (hts _ (mc q_55)) (fun _ h9 => h9) rfl dX2_write_35 ?_
          refine lv_iload_n hx hb dX2_write_38 rfl (lv_at hl 1 rfl) ?_
          obtain ⟨r39, hc39, hf⟩ := bn1_e hf
          refine callRi (va_runV (As := [.int x1]) (rest := [.int x2]) ⟨hx, hb, hml, hown, hts⟩ (cX1_size_met l dC dI cI ht0 ht1 ht2 ht3 ht4 ht5 ht6 htkd htsz htlk hthm httg htvl x1 r39 hc39) (cwV 1 hts gX2_write_65 rfl rfl rfl (by decide +kernel) ⟨Nat.le_of_ble_eq_true rfl, Nat.le_of_ble_eq_true rfl⟩) (preRV (ci := 1) (q0 := 0) hK (hP.sub (ws' := (wX1 cI ht0 ht1 ht2 ht3 ht4 ht5 ht6 htkd htsz htlk hthm httg htvl)) [1, 2, 3, 4, 5, 6, 7] rfl) rfl rfl) rfl rfl hl.1 rfl (lv_room (Nat.le_of_ble_eq_true rfl)) dX2_write_39 ⟨Nat.le_of_ble_eq_true rfl, Nat.le_of_ble_eq_true rfl⟩) hS hP (fun H locs hP hS => ?_)
          refine lv_icmp_le (tgt := 47) hx hb dX2_write_42 (by decide) (fun c42 => ?_) (fun c42 => ?_)
          · have hf := it_t c42 hf
            refine lv_iconst (v := 1) hx hb dX2_write_47 (by decide) ?_
            refine lv_iconst (v := 1) hx hb dX2_write_48 (by decide) ?_
            obtain ⟨r49, hc49, hf⟩ := bn1_e hf
            refine callRi (va_runS (As := [.int 1, .int 1]) (rest := []) ⟨hx, hb, hml, hown, hts⟩ (cX2_costOf_met l dC dI cI 1 1 r49 hc49) (cwS 2 hts gX2_write_69 rfl rfl rfl (by decide +kernel) ⟨Nat.le_of_ble_eq_true rfl, Nat.le_of_ble_eq_true rfl⟩) (preRS hK (hP.sub (ws' := []) [] rfl)) rfl rfl hl.1 rfl (lv_room (Nat.le_of_ble_eq_true rfl)) dX2_write_49 ⟨Nat.le_of_ble_eq_true rfl, Nat.le_of_ble_eq_true rfl⟩) hS hP (fun H locs hP hS => ?_)
            refine lv_istore (lv' := [(4, .int r49), (0, .ref h0), (1, .int x1), (2, .int x2), (3, .int x3)]) hx hb dX2_write_52 hl (by decide) rfl (fun ls hl => ?_)
            refine lv_aload_n hx hb dX2_write_54 rfl (lv_at hl 1 rfl) ?_
            refine lv_iload hx hb dX2_write_55 (lv_at hl 0 rfl) ?_
            refine lv_iload_n hx hb dX2_write_57 rfl (lv_at hl 3 rfl) ?_
            refine lv_aload_n hx hb dX2_write_58 rfl (lv_at hl 1 rfl) ?_
            refine va_get (D := (dC, dI)) (ci := 2) (v := .ref ht0) (C := RX2) (T := TX2) (N := 6) hx hb hts (fun w h => mc (inX2 w h)) hown hK hP 0 rfl rfl 1 (by decide) (hts _ (mc q_55)) (fun _ h9 => h9) rfl dX2_write_59 ?_
            refine lv_iload_n hx hb dX2_write_62 rfl (lv_at hl 2 rfl) ?_
            obtain ⟨r63, hc63, hf⟩ := bn1_e hf
            refine callRi (va_runV (As := [.int x1]) (rest := [.int x2, .int r49, .ref h0]) ⟨hx, hb, hml, hown, hts⟩ (cX1_size_met l dC dI cI ht0 ht1 ht2 ht3 ht4 ht5 ht6 htkd htsz htlk hthm httg htvl x1 r63 hc63) (cwV 1 hts gX2_write_65 rfl rfl rfl (by decide +kernel) ⟨Nat.le_of_ble_eq_true rfl, Nat.le_of_ble_eq_true rfl⟩) (preRV (ci := 1) (q0 := 0) hK (hP.sub (ws' := (wX1 cI ht0 ht1 ht2 ht3 ht4 ht5 ht6 htkd htsz htlk hthm httg htvl)) [1, 2, 3, 4, 5, 6, 7] rfl) rfl rfl) rfl rfl hl.1 rfl (lv_room (Nat.le_of_ble_eq_true rfl)) dX2_write_63 ⟨Nat.le_of_ble_eq_true rfl, Nat.le_of_ble_eq_true rfl⟩) hS hP (fun H locs hP hS => ?_)
            refine lv_icmp_ne (tgt := 73) hx hb dX2_write_66 (by decide) (fun c66 => ?_) (fun c66 => ?_)
            · have hf := it_f c66 hf
              refine lv_iconst (v := 0) hx hb dX2_write_73 (by decide) ?_
              exact wbX2_write_74 hx hb hml hown hts hr hlocks hK h0 ht0 ht1 ht2 ht3 ht4 ht5 ht6 hu0 hu1 hu2 hu3 hu4 hu5 hu6 hg0 hg1 hlim r hkpt_o hsyn_o htkd_o htsz_o htlk_o hthm_o httg_o htvl_o hukd_o husz_o hulk_o huhm_o hutg_o huvl_o hgln_o hgrw_o x1 x2 x3 r49 0 r49 hkpt hsyn htkd htsz htlk hthm httg htvl hukd husz hulk huhm hutg huvl hgln hgrw _ _ hP hD hS _ (lv_sub hl [1, 2, 3, 4, 0] rfl) hf
            · have hf := it_t c66 hf
              refine lv_iconst (v := 1) hx hb dX2_write_69 (by decide) ?_
              refine lv_goto (tgt := 74) hx hb dX2_write_70 (by decide) ?_
              exact wbX2_write_74 hx hb hml hown hts hr hlocks hK h0 ht0 ht1 ht2 ht3 ht4 ht5 ht6 hu0 hu1 hu2 hu3 hu4 hu5 hu6 hg0 hg1 hlim r hkpt_o hsyn_o htkd_o htsz_o htlk_o hthm_o httg_o htvl_o hukd_o husz_o hulk_o huhm_o hutg_o huvl_o hgln_o hgrw_o x1 x2 x3 r49 1 r49 hkpt hsyn htkd htsz htlk hthm httg htvl hukd husz hulk huhm hutg huvl hgln hgrw _ _ hP hD hS _ (lv_sub hl [1, 2, 3, 4, 0] rfl) hf
          · have hf := it_f c42 hf
            refine lv_iconst (v := -1) hx hb dX2_write_45 (by decide) ?_
            cases hf
            exact retI hx hb hr hlocks hP hS dX2_write_46
        · have hf := it_t c27 hf
          refine lv_bipush (v := -2) hx hb dX2_write_30 (by decide) ?_
          cases hf
          exact retI hx hb hr hlocks hP hS dX2_write_32
      · have hf := it_f c14 hf
        refine lv_iconst (v := -1) hx hb dX2_write_17 (by decide) ?_
        cases hf
        exact retI hx hb hr hlocks hP hS dX2_write_18
theorem gX2_cut_49 : GoodIn wsX2_cut (wsS RX2 49 yX2_isNode wsX2_isNode) := gIn (memS q_64 q_65 q_1 q_66)
theorem gX2_cut_80 : GoodIn wsX2_cut (wsV RX2 80 RX1 yX1_isFile wsX1_isFile) := gIn (memV q_159 q_51 q_52 q_3 q_53)
theorem gX2_cut_65 : GoodIn wsX2_cut (wsV RX2 65 RX1 yX1_size wsX1_size) := gIn (memV q_82 q_83 q_84 q_3 q_85)
theorem gX2_cut_69 : GoodIn wsX2_cut (wsS RX2 69 yX2_costOf wsX2_costOf) := gIn (memS q_86 q_87 q_1 q_88)
theorem gX2_cut_72 : GoodIn wsX2_cut (wsV RX2 72 RX2 yX2_makesRoom wsX2_makesRoom) := gIn (memV q_89 q_90 q_344 q_1 q_91)
theorem gX2_cut_76 : GoodIn wsX2_cut (wsV RX2 76 RX2 yX2_perform wsX2_perform) := gIn (memV q_109 q_110 q_347 q_1 q_111)
set_option maxHeartbeats 4000000 in
set_option maxRecDepth 100000 in
theorem cX2_cut_met (l : Launch) (dC : Nat → ClassId) (dI : Nat → Nat → Nat) (cI : ClassId) (h0 ht0 ht1 ht2 ht3 ht4 ht5 ht6 hu0 hu1 hu2 hu3 hu4 hu5 hu6 hg0 hg1 : Nat) (hlim : Int32) (hkpt : Int32) (hsyn : Int32) (htkd : Nat → Int32) (htsz : Nat → Int32) (htlk : Nat → Int32) (hthm : Nat → Int32) (httg : Nat → Int32) (htvl : Nat → Int32) (hukd : Nat → Int32) (husz : Nat → Int32) (hulk : Nat → Int32) (huhm : Nat → Int32) (hutg : Nat → Int32) (huvl : Nat → Int32) (hgln : Int32) (hgrw : Nat → Int32) (x1 : Int32) (x2 : Int32) (r : Int32) (hkpt_o : Int32) (hsyn_o : Int32) (htkd_o : Nat → Int32) (htsz_o : Nat → Int32) (htlk_o : Nat → Int32) (hthm_o : Nat → Int32) (httg_o : Nat → Int32) (htvl_o : Nat → Int32) (hukd_o : Nat → Int32) (husz_o : Nat → Int32) (hulk_o : Nat → Int32) (huhm_o : Nat → Int32) (hutg_o : Nat → Int32) (huvl_o : Nat → Int32) (hgln_o : Int32) (hgrw_o : Nat → Int32) (hf : fX2_cut x1 x2 hlim hkpt hsyn htkd htsz htlk hthm httg htvl hukd husz hulk huhm hutg huvl hgln hgrw = some (r, hkpt_o, hsyn_o, htkd_o, htsz_o, htlk_o, hthm_o, httg_o, htvl_o, hukd_o, husz_o, hulk_o, huhm_o, hutg_o, huvl_o, hgln_o, hgrw_o)) : Met l yX2_cut wsX2_cut ({ frames := 6, cells := 0, slots := 0, locals := 126 } : Room) (pcW [.ref h0, .int x1, .int x2] (dC, dI) vwCl [(cI, .int)] (wX2 cI h0 ht0 ht1 ht2 ht3 ht4 ht5 ht6 hu0 hu1 hu2 hu3 hu4 hu5 hu6 hg0 hg1 hlim hkpt hsyn htkd htsz htlk hthm httg htvl hukd husz hulk huhm hutg huvl hgln hgrw)) (qI r (va_P (dC, dI) vwCl (wX2 cI h0 ht0 ht1 ht2 ht3 ht4 ht5 ht6 hu0 hu1 hu2 hu3 hu4 hu5 hu6 hg0 hg1 hlim hkpt_o hsyn_o htkd_o htsz_o htlk_o hthm_o httg_o htvl_o hukd_o husz_o hulk_o huhm_o hutg_o huvl_o hgln_o hgrw_o)) (inA [h0, ht0, ht1, ht2, ht3, ht4, ht5, ht6, hu0, hu1, hu2, hu3, hu4, hu5, hu6, hg0, hg1])) 0 0 (inA [h0, ht0, ht1, ht2, ht3, ht4, ht5, ht6, hu0, hu1, hu2, hu3, hu4, hu5, hu6, hg0, hg1]) := by
  refine Met.ofW (cc := cX2_cut) (maxL := 4) (ret := (some .int)) (by decide) rfl ?_
  intro p e s m args below meth c s₁ B hml hv
  obtain ⟨rfl, hP, hK, hD0⟩ := hv
  have hx := B.exec
  have hb := B.bytes
  have hr := B.returns
  have hts := atoms_spec (ws := wsX2_cut) B.pre
  have hown : s.vm.findClass RX2 = some m.cls := findClass_of_methodNamed B.named
  have hlocks := B.notSynchronized
  have hD := my_self (as := [h0, ht0, ht1, ht2, ht3, ht4, ht5, ht6, hu0, hu1, hu2, hu3, hu4, hu5, hu6, hg0, hg1]) hD0 rfl
  have hS : va_S (inA [h0, ht0, ht1, ht2, ht3, ht4, ht5, ht6, hu0, hu1, hu2, hu3, hu4, hu5, hu6, hg0, hg1]) s.heap s.heap [] := va_S.rf
  have hl := lv_entry ([.ref h0, .int x1, .int x2]) (n := 4) (Nat.le_of_ble_eq_true rfl)
  rw [lg_entry_eq]
  generalize (lg_sl ([.ref h0, .int x1, .int x2]) ++ List.replicate (4 - (lg_sl ([.ref h0, .int x1, .int x2])).length) Slot.unset).toArray = ls at hl ⊢
  have hl : lv_has ls 4 [(0, .ref h0), (1, .int x1), (2, .int x2)] := hl
  unfold fX2_cut at hf
  refine lv_iload_n hx hb dX2_cut_0 rfl (lv_at hl 1 rfl) ?_
  obtain ⟨r1, hc1, hf⟩ := bn1_e hf
  refine callRi (va_runS (As := [.int x1]) (rest := []) ⟨hx, hb, hml, hown, hts⟩ (cX2_isNode_met l dC dI cI x1 r1 hc1) (cwS 1 hts gX2_cut_49 rfl rfl rfl (by decide +kernel) ⟨Nat.le_of_ble_eq_true rfl, Nat.le_of_ble_eq_true rfl⟩) (preRS hK (hP.sub (ws' := []) [] rfl)) rfl rfl hl.1 rfl (lv_room (Nat.le_of_ble_eq_true rfl)) dX2_cut_1 ⟨Nat.le_of_ble_eq_true rfl, Nat.le_of_ble_eq_true rfl⟩) hS hP (fun H locs hP hS => ?_)
  refine lv_if_eq (tgt := 17) hx hb dX2_cut_4 (by decide) (fun c4 => ?_) (fun c4 => ?_)
  · have hf := it_t c4 hf
    refine lv_iconst (v := -1) hx hb dX2_cut_17 (by decide) ?_
    cases hf
    exact retI hx hb hr hlocks hP hS dX2_cut_18
  · have hf := it_f c4 hf
    refine lv_iload_n hx hb dX2_cut_7 rfl (lv_at hl 2 rfl) ?_
    refine lv_if_lt (tgt := 17) hx hb dX2_cut_8 (by decide) (fun c8 => ?_) (fun c8 => ?_)
    · have hf := it_t c8 hf
      refine lv_iconst (v := -1) hx hb dX2_cut_17 (by decide) ?_
      cases hf
      exact retI hx hb hr hlocks hP hS dX2_cut_18
    · have hf := it_f c8 hf
      refine lv_iload_n hx hb dX2_cut_11 rfl (lv_at hl 2 rfl) ?_
      refine lv_bipush (v := 8) hx hb dX2_cut_12 (by decide) ?_
      refine lv_icmp_le (tgt := 19) hx hb dX2_cut_14 (by decide) (fun c14 => ?_) (fun c14 => ?_)
      · have hf := it_t c14 hf
        refine lv_aload_n hx hb dX2_cut_19 rfl (lv_at hl 0 rfl) ?_
        refine va_get (D := (dC, dI)) (ci := 2) (v := .ref ht0) (C := RX2) (T := TX2) (N := 6) hx hb hts (fun w h => mc (inX2 w h)) hown hK hP 0 rfl rfl 1 (by decide) (hts _ (mc q_55)) (fun _ h9 => h9) rfl dX2_cut_20 ?_
        refine lv_iload_n hx hb dX2_cut_23 rfl (lv_at hl 1 rfl) ?_
        obtain ⟨r24, hc24, hf⟩ := bn1_e hf
        refine callRi (va_runV (As := [.int x1]) (rest := []) ⟨hx, hb, hml, hown, hts⟩ (cX1_isFile_met l dC dI cI ht0 ht1 ht2 ht3 ht4 ht5 ht6 htkd htsz htlk hthm httg htvl x1 r24 hc24) (cwV 1 hts gX2_cut_80 rfl rfl rfl (by decide +kernel) ⟨Nat.le_of_ble_eq_true rfl, Nat.le_of_ble_eq_true rfl⟩) (preRV (ci := 1) (q0 := 0) hK (hP.sub (ws' := (wX1 cI ht0 ht1 ht2 ht3 ht4 ht5 ht6 htkd htsz htlk hthm httg htvl)) [1, 2, 3, 4, 5, 6, 7] rfl) rfl rfl) rfl rfl hl.1 rfl (lv_room (Nat.le_of_ble_eq_true rfl)) dX2_cut_24 ⟨Nat.le_of_ble_eq_true rfl, Nat.le_of_ble_eq_true rfl⟩) hS hP (fun H locs hP hS => ?_)
        refine lv_if_ne (tgt := 33) hx hb dX2_cut_27 (by decide) (fun c27 => ?_) (fun c27 => ?_)
        · have hf := it_f c27 hf
          refine lv_iload_n hx hb dX2_cut_33 rfl (lv_at hl 2 rfl) ?_
          refine lv_aload_n hx hb dX2_cut_34 rfl (lv_at hl 0 rfl) ?_
          refine va_get (D := (dC, dI)) (ci := 2) (v := .ref ht0) (C := RX2) (T := TX2) (N := 6) hx hb hts (fun w h => mc (inX2 w h)) hown hK hP 0 rfl rfl 1 (by decide) (hts _ (mc q_55)) (fun _ h9 => h9) rfl dX2_cut_35 ?_
          refine lv_iload_n hx hb dX2_cut_38 rfl (lv_at hl 1 rfl) ?_
          obtain ⟨r39, hc39, hf⟩ := bn1_e hf
          refine callRi (va_runV (As := [.int x1]) (rest := [.int x2]) ⟨hx, hb, hml, hown, hts⟩ (cX1_size_met l dC dI cI ht0 ht1 ht2 ht3 ht4 ht5 ht6 htkd htsz htlk hthm httg htvl x1 r39 hc39) (cwV 1 hts gX2_cut_65 rfl rfl rfl (by decide +kernel) ⟨Nat.le_of_ble_eq_true rfl, Nat.le_of_ble_eq_true rfl⟩) (preRV (ci := 1) (q0 := 0) hK (hP.sub (ws' := (wX1 cI ht0 ht1 ht2 ht3 ht4 ht5 ht6 htkd htsz htlk hthm httg htvl)) [1, 2, 3, 4, 5, 6, 7] rfl) rfl rfl) rfl rfl hl.1 rfl (lv_room (Nat.le_of_ble_eq_true rfl)) dX2_cut_39 ⟨Nat.le_of_ble_eq_true rfl, Nat.le_of_ble_eq_true rfl⟩) hS hP (fun H locs hP hS => ?_)
          refine lv_icmp_le (tgt := 47) hx hb dX2_cut_42 (by decide) (fun c42 => ?_) (fun c42 => ?_)
          · have hf := it_t c42 hf
            refine lv_iconst (v := 1) hx hb dX2_cut_47 (by decide) ?_
            refine lv_iconst (v := 0) hx hb dX2_cut_48 (by decide) ?_
            obtain ⟨r49, hc49, hf⟩ := bn1_e hf
            refine callRi (va_runS (As := [.int 1, .int 0]) (rest := []) ⟨hx, hb, hml, hown, hts⟩ (cX2_costOf_met l dC dI cI 1 0 r49 hc49) (cwS 2 hts gX2_cut_69 rfl rfl rfl (by decide +kernel) ⟨Nat.le_of_ble_eq_true rfl, Nat.le_of_ble_eq_true rfl⟩) (preRS hK (hP.sub (ws' := []) [] rfl)) rfl rfl hl.1 rfl (lv_room (Nat.le_of_ble_eq_true rfl)) dX2_cut_49 ⟨Nat.le_of_ble_eq_true rfl, Nat.le_of_ble_eq_true rfl⟩) hS hP (fun H locs hP hS => ?_)
            refine lv_istore_n (lv' := [(3, .int r49), (0, .ref h0), (1, .int x1), (2, .int x2)]) hx hb dX2_cut_52 rfl hl (by decide) rfl (fun ls hl => ?_)
            refine lv_aload_n hx hb dX2_cut_53 rfl (lv_at hl 1 rfl) ?_
            refine lv_iload_n hx hb dX2_cut_54 rfl (lv_at hl 0 rfl) ?_
            refine lv_iload_n hx hb dX2_cut_55 rfl (lv_at hl 3 rfl) ?_
            refine lv_aload_n hx hb dX2_cut_56 rfl (lv_at hl 1 rfl) ?_
            refine va_get (D := (dC, dI)) (ci := 2) (v := .ref ht0) (C := RX2) (T := TX2) (N := 6) hx hb hts (fun w h => mc (inX2 w h)) hown hK hP 0 rfl rfl 1 (by decide) (hts _ (mc q_55)) (fun _ h9 => h9) rfl dX2_cut_57 ?_
            refine lv_iload_n hx hb dX2_cut_60 rfl (lv_at hl 2 rfl) ?_
            obtain ⟨r61, hc61, hf⟩ := bn1_e hf
            refine callRi (va_runV (As := [.int x1]) (rest := [.int x2, .int r49, .ref h0]) ⟨hx, hb, hml, hown, hts⟩ (cX1_size_met l dC dI cI ht0 ht1 ht2 ht3 ht4 ht5 ht6 htkd htsz htlk hthm httg htvl x1 r61 hc61) (cwV 1 hts gX2_cut_65 rfl rfl rfl (by decide +kernel) ⟨Nat.le_of_ble_eq_true rfl, Nat.le_of_ble_eq_true rfl⟩) (preRV (ci := 1) (q0 := 0) hK (hP.sub (ws' := (wX1 cI ht0 ht1 ht2 ht3 ht4 ht5 ht6 htkd htsz htlk hthm httg htvl)) [1, 2, 3, 4, 5, 6, 7] rfl) rfl rfl) rfl rfl hl.1 rfl (lv_room (Nat.le_of_ble_eq_true rfl)) dX2_cut_61 ⟨Nat.le_of_ble_eq_true rfl, Nat.le_of_ble_eq_true rfl⟩) hS hP (fun H locs hP hS => ?_)
            obtain ⟨v64, ev64, hf⟩ := slet_e hf
            refine lv_isub hx hb dX2_cut_64 ?_
            refine rw_nm ev64 ?_
            obtain ⟨r65, hkpt_65, hsyn_65, hukd_65, husz_65, hulk_65, huhm_65, hutg_65, huvl_65, hgln_65, hc65, hf⟩ := bn10_e hf
            refine callVi (w1 := (wX2 cI h0 ht0 ht1 ht2 ht3 ht4 ht5 ht6 hu0 hu1 hu2 hu3 hu4 hu5 hu6 hg0 hg1 hlim hkpt_65 hsyn_65 htkd htsz htlk hthm httg htvl hukd_65 husz_65 hulk_65 huhm_65 hutg_65 huvl_65 hgln_65 hgrw)) (va_runV (As := [.int r49, .int v64]) (rest := []) ⟨hx, hb, hml, hown, hts⟩ (cX2_makesRoom_met l dC dI cI h0 ht0 ht1 ht2 ht3 ht4 ht5 ht6 hu0 hu1 hu2 hu3 hu4 hu5 hu6 hg0 hg1 hlim hkpt hsyn htkd htsz htlk hthm httg htvl hukd husz hulk huhm hutg huvl hgln hgrw r49 v64 r65 hkpt_65 hsyn_65 hukd_65 husz_65 hulk_65 huhm_65 hutg_65 huvl_65 hgln_65 hc65) (cwV 2 hts gX2_cut_72 rfl rfl rfl (by decide +kernel) ⟨Nat.le_of_ble_eq_true rfl, Nat.le_of_ble_eq_true rfl⟩) (preWV (ci := 2) (q0 := 0) hK hP hD rfl rfl) rfl rfl hl.1 rfl (lv_room (Nat.le_of_ble_eq_true rfl)) dX2_cut_65 ⟨Nat.le_of_ble_eq_true rfl, Nat.le_of_ble_eq_true rfl⟩) hS hD rfl rfl (fun H locs hP hD hS => ?_)
            refine lv_if_ne (tgt := 74) hx hb dX2_cut_68 (by decide) (fun c68 => ?_) (fun c68 => ?_)
            · have hf := it_f c68 hf
              refine lv_aload_n hx hb dX2_cut_74 rfl (lv_at hl 1 rfl) ?_
              refine lv_iload_n hx hb dX2_cut_75 rfl (lv_at hl 0 rfl) ?_
              refine lv_iconst (v := 5) hx hb dX2_cut_76 (by decide) ?_
              refine lv_iload_n hx hb dX2_cut_77 rfl (lv_at hl 2 rfl) ?_
              refine lv_iload_n hx hb dX2_cut_78 rfl (lv_at hl 3 rfl) ?_
              refine lv_iconst (v := 0) hx hb dX2_cut_79 (by decide) ?_
              refine lv_iconst (v := 0) hx hb dX2_cut_80 (by decide) ?_
              obtain ⟨hkpt_81, htkd_81, htsz_81, htlk_81, hthm_81, httg_81, htvl_81, hgln_81, hgrw_81, hc81, hf⟩ := bn9_e hf
              refine callVv (w1 := (wX2 cI h0 ht0 ht1 ht2 ht3 ht4 ht5 ht6 hu0 hu1 hu2 hu3 hu4 hu5 hu6 hg0 hg1 hlim hkpt_81 hsyn_65 htkd_81 htsz_81 htlk_81 hthm_81 httg_81 htvl_81 hukd_65 husz_65 hulk_65 huhm_65 hutg_65 huvl_65 hgln_81 hgrw_81)) (va_runV (As := [.int r49, .int 5, .int x1, .int x2, .int 0, .int 0]) (rest := []) ⟨hx, hb, hml, hown, hts⟩ (cX2_perform_met l dC dI cI h0 ht0 ht1 ht2 ht3 ht4 ht5 ht6 hu0 hu1 hu2 hu3 hu4 hu5 hu6 hg0 hg1 hlim hkpt_65 hsyn_65 htkd htsz htlk hthm httg htvl hukd_65 husz_65 hulk_65 huhm_65 hutg_65 huvl_65 hgln_65 hgrw r49 5 x1 x2 0 0 hkpt_81 htkd_81 htsz_81 htlk_81 hthm_81 httg_81 htvl_81 hgln_81 hgrw_81 hc81) (cwV 6 hts gX2_cut_76 rfl rfl rfl (by decide +kernel) ⟨Nat.le_of_ble_eq_true rfl, Nat.le_of_ble_eq_true rfl⟩) (preWV (ci := 2) (q0 := 0) hK hP hD rfl rfl) rfl rfl hl.1 rfl (lv_room (Nat.le_of_ble_eq_true rfl)) dX2_cut_81 ⟨Nat.le_of_ble_eq_true rfl, Nat.le_of_ble_eq_true rfl⟩) hS hD rfl rfl (fun H locs hP hD hS => ?_)
              refine lv_iconst (v := 0) hx hb dX2_cut_84 (by decide) ?_
              cases hf
              exact retI hx hb hr hlocks hP hS dX2_cut_85
            · have hf := it_t c68 hf
              refine lv_bipush (v := -6) hx hb dX2_cut_71 (by decide) ?_
              cases hf
              exact retI hx hb hr hlocks hP hS dX2_cut_73
          · have hf := it_f c42 hf
            refine lv_iconst (v := -1) hx hb dX2_cut_45 (by decide) ?_
            cases hf
            exact retI hx hb hr hlocks hP hS dX2_cut_46
        · have hf := it_t c27 hf
          refine lv_bipush (v := -2) hx hb dX2_cut_30 (by decide) ?_
          cases hf
          exact retI hx hb hr hlocks hP hS dX2_cut_32
      · have hf := it_f c14 hf
        refine lv_iconst (v := -1) hx hb dX2_cut_17 (by decide) ?_
        cases hf
        exact retI hx hb hr hlocks hP hS dX2_cut_18
end
section
theorem gX2_sync_92 : GoodIn wsX2_sync (wsV RX2 92 RX2 yX2_countedSync wsX2_countedSync) := gIn (memV q_92 q_93 q_345 q_1 q_94)
set_option maxHeartbeats 4000000 in
set_option maxRecDepth 100000 in
theorem cX2_sync_met (l : Launch) (dC : Nat → ClassId) (dI : Nat → Nat → Nat) (cI : ClassId) (h0 ht0 ht1 ht2 ht3 ht4 ht5 ht6 hu0 hu1 hu2 hu3 hu4 hu5 hu6 hg0 hg1 : Nat) (hlim : Int32) (hkpt : Int32) (hsyn : Int32) (htkd : Nat → Int32) (htsz : Nat → Int32) (htlk : Nat → Int32) (hthm : Nat → Int32) (httg : Nat → Int32) (htvl : Nat → Int32) (hukd : Nat → Int32) (husz : Nat → Int32) (hulk : Nat → Int32) (huhm : Nat → Int32) (hutg : Nat → Int32) (huvl : Nat → Int32) (hgln : Int32) (hgrw : Nat → Int32) (r : Int32) (hkpt_o : Int32) (hsyn_o : Int32) (hukd_o : Nat → Int32) (husz_o : Nat → Int32) (hulk_o : Nat → Int32) (huhm_o : Nat → Int32) (hutg_o : Nat → Int32) (huvl_o : Nat → Int32) (hgln_o : Int32) (hf : fX2_sync htkd htsz htlk hthm httg htvl hkpt hsyn hukd husz hulk huhm hutg huvl hgln = some (r, hkpt_o, hsyn_o, hukd_o, husz_o, hulk_o, huhm_o, hutg_o, huvl_o, hgln_o)) : Met l yX2_sync wsX2_sync ({ frames := 5, cells := 0, slots := 0, locals := 104 } : Room) (pcW [.ref h0] (dC, dI) vwCl [(cI, .int)] (wX2 cI h0 ht0 ht1 ht2 ht3 ht4 ht5 ht6 hu0 hu1 hu2 hu3 hu4 hu5 hu6 hg0 hg1 hlim hkpt hsyn htkd htsz htlk hthm httg htvl hukd husz hulk huhm hutg huvl hgln hgrw)) (qI r (va_P (dC, dI) vwCl (wX2 cI h0 ht0 ht1 ht2 ht3 ht4 ht5 ht6 hu0 hu1 hu2 hu3 hu4 hu5 hu6 hg0 hg1 hlim hkpt_o hsyn_o htkd htsz htlk hthm httg htvl hukd_o husz_o hulk_o huhm_o hutg_o huvl_o hgln_o hgrw)) (inA [h0, ht0, ht1, ht2, ht3, ht4, ht5, ht6, hu0, hu1, hu2, hu3, hu4, hu5, hu6, hg0, hg1])) 0 0 (inA [h0, ht0, ht1, ht2, ht3, ht4, ht5, ht6, hu0, hu1, hu2, hu3, hu4, hu5, hu6, hg0, hg1]) := by
  refine Met.ofW (cc := cX2_sync) (maxL := 1) (ret := (some .int)) (by decide) rfl ?_
  intro p e s m args below meth c s₁ B hml hv
  obtain ⟨rfl, hP, hK, hD0⟩ := hv
  have hx := B.exec
  have hb := B.bytes
  have hr := B.returns
  have hts := atoms_spec (ws := wsX2_sync) B.pre
  have hown : s.vm.findClass RX2 = some m.cls := findClass_of_methodNamed B.named
  have hlocks := B.notSynchronized
  have hD := my_self (as := [h0, ht0, ht1, ht2, ht3, ht4, ht5, ht6, hu0, hu1, hu2, hu3, hu4, hu5, hu6, hg0, hg1]) hD0 rfl
  have hS : va_S (inA [h0, ht0, ht1, ht2, ht3, ht4, ht5, ht6, hu0, hu1, hu2, hu3, hu4, hu5, hu6, hg0, hg1]) s.heap s.heap [] := va_S.rf
  have hl := lv_entry ([.ref h0]) (n := 1) (Nat.le_of_ble_eq_true rfl)
  rw [lg_entry_eq]
  generalize (lg_sl ([.ref h0]) ++ List.replicate (1 - (lg_sl ([.ref h0])).length) Slot.unset).toArray = ls at hl ⊢
  have hl : lv_has ls 1 [(0, .ref h0)] := hl
  unfold fX2_sync at hf
  refine lv_aload_n hx hb dX2_sync_0 rfl (lv_at hl 0 rfl) ?_
  obtain ⟨hkpt_1, hsyn_1, hukd_1, husz_1, hulk_1, huhm_1, hutg_1, huvl_1, hgln_1, hc1, hf⟩ := bn9_e hf
  refine callVv (w1 := (wX2 cI h0 ht0 ht1 ht2 ht3 ht4 ht5 ht6 hu0 hu1 hu2 hu3 hu4 hu5 hu6 hg0 hg1 hlim hkpt_1 hsyn_1 htkd htsz htlk hthm httg htvl hukd_1 husz_1 hulk_1 huhm_1 hutg_1 huvl_1 hgln_1 hgrw)) (va_runV (As := []) (rest := []) ⟨hx, hb, hml, hown, hts⟩ (cX2_countedSync_met l dC dI cI h0 ht0 ht1 ht2 ht3 ht4 ht5 ht6 hu0 hu1 hu2 hu3 hu4 hu5 hu6 hg0 hg1 hlim hkpt hsyn htkd htsz htlk hthm httg htvl hukd husz hulk huhm hutg huvl hgln hgrw hkpt_1 hsyn_1 hukd_1 husz_1 hulk_1 huhm_1 hutg_1 huvl_1 hgln_1 hc1) (cwV 0 hts gX2_sync_92 rfl rfl rfl (by decide +kernel) ⟨Nat.le_of_ble_eq_true rfl, Nat.le_of_ble_eq_true rfl⟩) (preWV (ci := 2) (q0 := 0) hK hP hD rfl rfl) rfl rfl hl.1 rfl (lv_room (Nat.le_of_ble_eq_true rfl)) dX2_sync_1 ⟨Nat.le_of_ble_eq_true rfl, Nat.le_of_ble_eq_true rfl⟩) hS hD rfl rfl (fun H locs hP hD hS => ?_)
  refine lv_aload_n hx hb dX2_sync_4 rfl (lv_at hl 0 rfl) ?_
  refine va_get (D := (dC, dI)) (ci := 2) (v := .int hkpt_1) (C := RX2) (T := TX2) (N := 6) hx hb hts (fun w h => mc (inX2 w h)) hown hK hP 0 rfl rfl 4 (by decide) (hts _ (mc q_58)) (fun _ h9 => h9) rfl dX2_sync_5 ?_
  cases hf
  exact retI hx hb hr hlocks hP hS dX2_sync_8
theorem gX2_crash_95 : GoodIn wsX2_crash (wsV RX2 95 RX0 yX0_length wsX0_length) := gIn (memV q_116 q_117 q_118 q_4 q_119)
theorem gX2_crash_102 : GoodIn wsX2_crash (wsV RX2 102 RX1 yX1_copyFrom wsX1_copyFrom) := gIn (memV q_95 q_96 q_97 q_3 q_98)
theorem gX2_crash_106 : GoodIn wsX2_crash (wsV RX2 106 RX2 yX2_startAfresh wsX2_startAfresh) := gIn (memV q_102 q_103 q_346 q_1 q_104)
theorem gX2_crash_98 : GoodIn wsX2_crash (wsV RX2 98 RX0 yX0_redo wsX0_redo) := gIn (memV q_120 q_121 q_122 q_4 q_123)
set_option maxHeartbeats 4000000 in
set_option maxRecDepth 100000 in
theorem wbX2_crash_18 {p : Program} {l : Launch} {e : Env} {s : State} {m : MethodId} {args : Array Value} {below : List Frame} {meth : Method} {c : Code} {dC : Nat → ClassId} {dI : Nat → Nat → Nat} {cI : ClassId} (hx : p.tables.exec = Jvm.exec) (hb : c.code = cX2_crash) (hml : c.maxLocals = 4) (hown : s.vm.findClass RX2 = some m.cls) (hts : ∀ w ∈ wsX2_crash, w.before args s = true) (hr : meth.sig.returnType = (some .int)) (hlocks : meth.locks = false) (hK : va_K (dC, dI) vwCl [(cI, .int)] s) (h0 ht0 ht1 ht2 ht3 ht4 ht5 ht6 hu0 hu1 hu2 hu3 hu4 hu5 hu6 hg0 hg1 : Nat) (hlim : Int32) (hsyn : Int32) (hgrw : Nat → Int32) (r : Int32) (hkpt_o : Int32) (htkd_o : Nat → Int32) (htsz_o : Nat → Int32) (htlk_o : Nat → Int32) (hthm_o : Nat → Int32) (httg_o : Nat → Int32) (htvl_o : Nat → Int32) (hukd_o : Nat → Int32) (husz_o : Nat → Int32) (hulk_o : Nat → Int32) (huhm_o : Nat → Int32) (hutg_o : Nat → Int32) (huvl_o : Nat → Int32) (hgln_o : Int32) : ∀ (n : Nat), ∀ (x2 : Int32) (x3 : Int32) (hkpt : Int32) (htkd : Nat → Int32) (htsz : Nat → Int32) (htlk : Nat → Int32) (hthm : Nat → Int32) (httg : Nat → Int32) (htvl : Nat → Int32) (hukd : Nat → Int32) (husz : Nat → Int32) (hulk : Nat → Int32) (huhm : Nat → Int32) (hutg : Nat → Int32) (huvl : Nat → Int32) (hgln : Int32) (H : Heap) (locs : List Loc), va_P (dC, dI) vwCl (wX2 cI h0 ht0 ht1 ht2 ht3 ht4 ht5 ht6 hu0 hu1 hu2 hu3 hu4 hu5 hu6 hg0 hg1 hlim hkpt hsyn htkd htsz htlk hthm httg htvl hukd husz hulk huhm hutg huvl hgln hgrw) H → va_D (inA [h0, ht0, ht1, ht2, ht3, ht4, ht5, ht6, hu0, hu1, hu2, hu3, hu4, hu5, hu6, hg0, hg1]) (wX2 cI h0 ht0 ht1 ht2 ht3 ht4 ht5 ht6 hu0 hu1 hu2 hu3 hu4 hu5 hu6 hg0 hg1 hlim hkpt hsyn htkd htsz htlk hthm httg htvl hukd husz hulk huhm hutg huvl hgln hgrw) → va_S (inA [h0, ht0, ht1, ht2, ht3, ht4, ht5, ht6, hu0, hu1, hu2, hu3, hu4, hu5, hu6, hg0, hg1]) s.heap H locs → ∀ (ls : Array Slot), lv_has ls 4 [(0, .ref h0), (2, .int x2), (3, .int x3)] → fX2_crash_b18 hgrw n x2 x3 hkpt htkd htsz htlk hthm httg htvl hukd husz hulk huhm hutg huvl hgln = some (r, hkpt_o, htkd_o, htsz_o, htlk_o, hthm_o, httg_o, htvl_o, hukd_o, husz_o, hulk_o, huhm_o, hutg_o, huvl_o, hgln_o) → W p l e ({ frames := 4, cells := 0, slots := 0, locals := 98 } : Room) s m args below meth c H locs 0 0 (MQ below (qI r (va_P (dC, dI) vwCl (wX2 cI h0 ht0 ht1 ht2 ht3 ht4 ht5 ht6 hu0 hu1 hu2 hu3 hu4 hu5 hu6 hg0 hg1 hlim hkpt_o hsyn htkd_o htsz_o htlk_o hthm_o httg_o htvl_o hukd_o husz_o hulk_o huhm_o hutg_o huvl_o hgln_o hgrw)) (inA [h0, ht0, ht1, ht2, ht3, ht4, ht5, ht6, hu0, hu1, hu2, hu3, hu4, hu5, hu6, hg0, hg1])) args s 0 0 (inA [h0, ht0, ht1, ht2, ht3, ht4, ht5, ht6, hu0, hu1, hu2, hu3, hu4, hu5, hu6, hg0, hg1])) (F0 m 18 ls []) := by
  intro n
  induction n with
  | zero =>
    intro x2 x3 hkpt htkd htsz htlk hthm httg htvl hukd husz hulk huhm hutg huvl hgln H locs hP hD hS ls hl hf
    cases hf
  | succ n ih =>
    intro x2 x3 hkpt htkd htsz htlk hthm httg htvl hukd husz hulk huhm hutg huvl hgln H locs hP hD hS ls hl hf
    rw [fX2_crash_b18] at hf
    refine lv_iload_n hx hb dX2_crash_18 rfl (lv_at hl 2 rfl) ?_
    refine lv_iload_n hx hb dX2_crash_19 rfl (lv_at hl 1 rfl) ?_
    refine lv_icmp_ge (tgt := 41) hx hb dX2_crash_20 (by decide) (fun c20 => ?_) (fun c20 => ?_)
    · have hf := it_t c20 hf
      refine lv_aload_n hx hb dX2_crash_41 rfl (lv_at hl 0 rfl) ?_
      refine va_get (D := (dC, dI)) (ci := 2) (v := .ref ht0) (C := RX2) (T := TX2) (N := 6) hx hb hts (fun w h => mc (inX2 w h)) hown hK hP 0 rfl rfl 1 (by decide) (hts _ (mc q_55)) (fun _ h9 => h9) rfl dX2_crash_42 ?_
      refine lv_aload_n hx hb dX2_crash_45 rfl (lv_at hl 0 rfl) ?_
      refine va_get (D := (dC, dI)) (ci := 2) (v := .ref hu0) (C := RX2) (T := TX2) (N := 6) hx hb hts (fun w h => mc (inX2 w h)) hown hK hP 0 rfl rfl 2 (by decide) (hts _ (mc q_56)) (fun _ h9 => h9) rfl dX2_crash_46 ?_
      obtain ⟨htkd_49, htsz_49, htlk_49, hthm_49, httg_49, htvl_49, hc49, hf⟩ := bn6_e hf
      refine callWv (wc := (wX1X1b cI ht0 ht1 ht2 ht3 ht4 ht5 ht6 hu0 hu1 hu2 hu3 hu4 hu5 hu6 htkd htsz htlk hthm httg htvl hukd husz hulk huhm hutg huvl)) (w1 := (wX1X1b cI ht0 ht1 ht2 ht3 ht4 ht5 ht6 hu0 hu1 hu2 hu3 hu4 hu5 hu6 htkd_49 htsz_49 htlk_49 hthm_49 httg_49 htvl_49 hukd husz hulk huhm hutg huvl)) (ws' := (wX2 cI h0 ht0 ht1 ht2 ht3 ht4 ht5 ht6 hu0 hu1 hu2 hu3 hu4 hu5 hu6 hg0 hg1 hlim hkpt hsyn htkd_49 htsz_49 htlk_49 hthm_49 httg_49 htvl_49 hukd husz hulk huhm hutg huvl hgln hgrw)) (va_runV (As := [.ref hu0]) (rest := []) ⟨hx, hb, hml, hown, hts⟩ (cX1_copyFrom_met l dC dI cI ht0 ht1 ht2 ht3 ht4 ht5 ht6 hu0 hu1 hu2 hu3 hu4 hu5 hu6 htkd htsz htlk hthm httg htvl hukd husz hulk huhm hutg huvl htkd_49 htsz_49 htlk_49 hthm_49 httg_49 htvl_49 hc49) (cwV 1 hts gX2_crash_102 rfl rfl rfl (by decide +kernel) ⟨Nat.le_of_ble_eq_true rfl, Nat.le_of_ble_eq_true rfl⟩) (preWV (ci := 1) (q0 := 0) hK (hP.sub (ws' := (wX1X1b cI ht0 ht1 ht2 ht3 ht4 ht5 ht6 hu0 hu1 hu2 hu3 hu4 hu5 hu6 htkd htsz htlk hthm httg htvl hukd husz hulk huhm hutg huvl)) [1, 2, 3, 4, 5, 6, 7, 8, 9, 10, 11, 12, 13, 14] rfl) (hD.sub (ws' := (wX1X1b cI ht0 ht1 ht2 ht3 ht4 ht5 ht6 hu0 hu1 hu2 hu3 hu4 hu5 hu6 htkd htsz htlk hthm httg htvl hukd husz hulk huhm hutg huvl)) [1, 2, 3, 4, 5, 6, 7, 8, 9, 10, 11, 12, 13, 14] (by decide) rfl) rfl rfl) rfl rfl hl.1 rfl (lv_room (Nat.le_of_ble_eq_true rfl)) dX2_crash_49 ⟨Nat.le_of_ble_eq_true rfl, Nat.le_of_ble_eq_true rfl⟩) hS hP hD [1, 2, 3, 4, 5, 6, 7, 8, 9, 10, 11, 12, 13, 14] rfl rfl rfl rfl rfl (fun H locs hP hD hS => ?_)
      refine lv_aload_n hx hb dX2_crash_52 rfl (lv_at hl 0 rfl) ?_
      obtain ⟨hkpt_53, hgln_53, hc53, hf⟩ := bn2_e hf
      refine callVv (w1 := (wX2 cI h0 ht0 ht1 ht2 ht3 ht4 ht5 ht6 hu0 hu1 hu2 hu3 hu4 hu5 hu6 hg0 hg1 hlim hkpt_53 hsyn htkd_49 htsz_49 htlk_49 hthm_49 httg_49 htvl_49 hukd husz hulk huhm hutg huvl hgln_53 hgrw)) (va_runV (As := []) (rest := []) ⟨hx, hb, hml, hown, hts⟩ (cX2_startAfresh_met l dC dI cI h0 ht0 ht1 ht2 ht3 ht4 ht5 ht6 hu0 hu1 hu2 hu3 hu4 hu5 hu6 hg0 hg1 hlim hkpt hsyn htkd_49 htsz_49 htlk_49 hthm_49 httg_49 htvl_49 hukd husz hulk huhm hutg huvl hgln hgrw hkpt_53 hgln_53 hc53) (cwV 0 hts gX2_crash_106 rfl rfl rfl (by decide +kernel) ⟨Nat.le_of_ble_eq_true rfl, Nat.le_of_ble_eq_true rfl⟩) (preWV (ci := 2) (q0 := 0) hK hP hD rfl rfl) rfl rfl hl.1 rfl (lv_room (Nat.le_of_ble_eq_true rfl)) dX2_crash_53 ⟨Nat.le_of_ble_eq_true rfl, Nat.le_of_ble_eq_true rfl⟩) hS hD rfl rfl (fun H locs hP hD hS => ?_)
      refine lv_iload_n hx hb dX2_crash_56 rfl (lv_at hl 1 rfl) ?_
      cases hf
      exact retI hx hb hr hlocks hP hS dX2_crash_57
    · have hf := it_f c20 hf
      refine lv_aload_n hx hb dX2_crash_23 rfl (lv_at hl 0 rfl) ?_
      refine va_get (D := (dC, dI)) (ci := 2) (v := .ref hg0) (C := RX2) (T := TX2) (N := 6) hx hb hts (fun w h => mc (inX2 w h)) hown hK hP 0 rfl rfl 3 (by decide) (hts _ (mc q_57)) (fun _ h9 => h9) rfl dX2_crash_24 ?_
      refine lv_iload_n hx hb dX2_crash_27 rfl (lv_at hl 2 rfl) ?_
      refine lv_aload_n hx hb dX2_crash_28 rfl (lv_at hl 0 rfl) ?_
      refine va_get (D := (dC, dI)) (ci := 2) (v := .ref hu0) (C := RX2) (T := TX2) (N := 6) hx hb hts (fun w h => mc (inX2 w h)) hown hK hP 0 rfl rfl 2 (by decide) (hts _ (mc q_56)) (fun _ h9 => h9) rfl dX2_crash_29 ?_
      obtain ⟨hukd_32, husz_32, hulk_32, huhm_32, hutg_32, huvl_32, hc32, hf⟩ := bn6_e hf
      refine callWv (wc := (wX0X1a cI hg0 hg1 hu0 hu1 hu2 hu3 hu4 hu5 hu6 hgln hgrw hukd husz hulk huhm hutg huvl)) (w1 := (wX0X1a cI hg0 hg1 hu0 hu1 hu2 hu3 hu4 hu5 hu6 hgln hgrw hukd_32 husz_32 hulk_32 huhm_32 hutg_32 huvl_32)) (ws' := (wX2 cI h0 ht0 ht1 ht2 ht3 ht4 ht5 ht6 hu0 hu1 hu2 hu3 hu4 hu5 hu6 hg0 hg1 hlim hkpt hsyn htkd htsz htlk hthm httg htvl hukd_32 husz_32 hulk_32 huhm_32 hutg_32 huvl_32 hgln hgrw)) (va_runV (As := [.int x3, .ref hu0]) (rest := []) ⟨hx, hb, hml, hown, hts⟩ (cX0_redo_met l dC dI cI hg0 hg1 hu0 hu1 hu2 hu3 hu4 hu5 hu6 hgln hgrw hukd husz hulk huhm hutg huvl x3 hukd_32 husz_32 hulk_32 huhm_32 hutg_32 huvl_32 hc32) (cwV 2 hts gX2_crash_98 rfl rfl rfl (by decide +kernel) ⟨Nat.le_of_ble_eq_true rfl, Nat.le_of_ble_eq_true rfl⟩) (preWV (ci := 0) (q0 := 0) hK (hP.sub (ws' := (wX0X1a cI hg0 hg1 hu0 hu1 hu2 hu3 hu4 hu5 hu6 hgln hgrw hukd husz hulk huhm hutg huvl)) [15, 16, 8, 9, 10, 11, 12, 13, 14] rfl) (hD.sub (ws' := (wX0X1a cI hg0 hg1 hu0 hu1 hu2 hu3 hu4 hu5 hu6 hgln hgrw hukd husz hulk huhm hutg huvl)) [15, 16, 8, 9, 10, 11, 12, 13, 14] (by decide) rfl) rfl rfl) rfl rfl hl.1 rfl (lv_room (Nat.le_of_ble_eq_true rfl)) dX2_crash_32 ⟨Nat.le_of_ble_eq_true rfl, Nat.le_of_ble_eq_true rfl⟩) hS hP hD [15, 16, 8, 9, 10, 11, 12, 13, 14] rfl rfl rfl rfl rfl (fun H locs hP hD hS => ?_)
      obtain ⟨v35, ev35, hf⟩ := slet_e hf
      refine lv_iinc (v := v35) (lv' := [(3, .int v35), (0, .ref h0), (2, .int x2)]) hx hb dX2_crash_35 hl (k := 2) rfl (by rw [ev35]; rfl) (by decide) rfl (fun ls hl => ?_)
      refine lv_goto (tgt := 18) hx hb dX2_crash_38 (by decide) ?_
      exact ih x2 v35 hkpt htkd htsz htlk hthm httg htvl hukd_32 husz_32 hulk_32 huhm_32 hutg_32 huvl_32 hgln _ _ hP hD hS _ (lv_sub hl [1, 2, 0] rfl) hf
set_option maxHeartbeats 4000000 in
set_option maxRecDepth 100000 in
theorem cX2_crash_met (l : Launch) (dC : Nat → ClassId) (dI : Nat → Nat → Nat) (cI : ClassId) (h0 ht0 ht1 ht2 ht3 ht4 ht5 ht6 hu0 hu1 hu2 hu3 hu4 hu5 hu6 hg0 hg1 : Nat) (hlim : Int32) (hkpt : Int32) (hsyn : Int32) (htkd : Nat → Int32) (htsz : Nat → Int32) (htlk : Nat → Int32) (hthm : Nat → Int32) (httg : Nat → Int32) (htvl : Nat → Int32) (hukd : Nat → Int32) (husz : Nat → Int32) (hulk : Nat → Int32) (huhm : Nat → Int32) (hutg : Nat → Int32) (huvl : Nat → Int32) (hgln : Int32) (hgrw : Nat → Int32) (x1 : Int32) (r : Int32) (hkpt_o : Int32) (htkd_o : Nat → Int32) (htsz_o : Nat → Int32) (htlk_o : Nat → Int32) (hthm_o : Nat → Int32) (httg_o : Nat → Int32) (htvl_o : Nat → Int32) (hukd_o : Nat → Int32) (husz_o : Nat → Int32) (hulk_o : Nat → Int32) (huhm_o : Nat → Int32) (hutg_o : Nat → Int32) (huvl_o : Nat → Int32) (hgln_o : Int32) (hf : fX2_crash x1 hgrw hkpt htkd htsz htlk hthm httg htvl hukd husz hulk huhm hutg huvl hgln = some (r, hkpt_o, htkd_o, htsz_o, htlk_o, hthm_o, httg_o, htvl_o, hukd_o, husz_o, hulk_o, huhm_o, hutg_o, huvl_o, hgln_o)) : Met l yX2_crash wsX2_crash ({ frames := 4, cells := 0, slots := 0, locals := 98 } : Room) (pcW [.ref h0, .int x1] (dC, dI) vwCl [(cI, .int)] (wX2 cI h0 ht0 ht1 ht2 ht3 ht4 ht5 ht6 hu0 hu1 hu2 hu3 hu4 hu5 hu6 hg0 hg1 hlim hkpt hsyn htkd htsz htlk hthm httg htvl hukd husz hulk huhm hutg huvl hgln hgrw)) (qI r (va_P (dC, dI) vwCl (wX2 cI h0 ht0 ht1 ht2 ht3 ht4 ht5 ht6 hu0 hu1 hu2 hu3 hu4 hu5 hu6 hg0 hg1 hlim hkpt_o hsyn htkd_o htsz_o htlk_o hthm_o httg_o htvl_o hukd_o husz_o hulk_o huhm_o hutg_o huvl_o hgln_o hgrw)) (inA [h0, ht0, ht1, ht2, ht3, ht4, ht5, ht6, hu0, hu1, hu2, hu3, hu4, hu5, hu6, hg0, hg1])) 0 0 (inA [h0, ht0, ht1, ht2, ht3, ht4, ht5, ht6, hu0, hu1, hu2, hu3, hu4, hu5, hu6, hg0, hg1]) := by
  refine Met.ofW (cc := cX2_crash) (maxL := 4) (ret := (some .int)) (by decide) rfl ?_
  intro p e s m args below meth c s₁ B hml hv
  obtain ⟨rfl, hP, hK, hD0⟩ := hv
  have hx := B.exec
  have hb := B.bytes
  have hr := B.returns
  have hts := atoms_spec (ws := wsX2_crash) B.pre
  have hown : s.vm.findClass RX2 = some m.cls := findClass_of_methodNamed B.named
  have hlocks := B.notSynchronized
  have hD := my_self (as := [h0, ht0, ht1, ht2, ht3, ht4, ht5, ht6, hu0, hu1, hu2, hu3, hu4, hu5, hu6, hg0, hg1]) hD0 rfl
  have hS : va_S (inA [h0, ht0, ht1, ht2, ht3, ht4, ht5, ht6, hu0, hu1, hu2, hu3, hu4, hu5, hu6, hg0, hg1]) s.heap s.heap [] := va_S.rf
  have hl := lv_entry ([.ref h0, .int x1]) (n := 4) (Nat.le_of_ble_eq_true rfl)
  rw [lg_entry_eq]
  generalize (lg_sl ([.ref h0, .int x1]) ++ List.replicate (4 - (lg_sl ([.ref h0, .int x1])).length) Slot.unset).toArray = ls at hl ⊢
  have hl : lv_has ls 4 [(0, .ref h0), (1, .int x1)] := hl
  unfold fX2_crash at hf
  refine lv_iconst (v := 0) hx hb dX2_crash_0 (by decide) ?_
  refine lv_iload_n hx hb dX2_crash_1 rfl (lv_at hl 1 rfl) ?_
  refine lv_aload_n hx hb dX2_crash_2 rfl (lv_at hl 0 rfl) ?_
  refine va_get (D := (dC, dI)) (ci := 2) (v := .ref hg0) (C := RX2) (T := TX2) (N := 6) hx hb hts (fun w h => mc (inX2 w h)) hown hK hP 0 rfl rfl 3 (by decide) (hts _ (mc q_57)) (fun _ h9 => h9) rfl dX2_crash_3 ?_
  obtain ⟨r6, hc6, hf⟩ := bn1_e hf
  refine callRi (va_runV (As := []) (rest := [.int x1, .int 0]) ⟨hx, hb, hml, hown, hts⟩ (cX0_length_met l dC dI cI hg0 hg1 hgln hgrw r6 hc6) (cwV 0 hts gX2_crash_95 rfl rfl rfl (by decide +kernel) ⟨Nat.le_of_ble_eq_true rfl, Nat.le_of_ble_eq_true rfl⟩) (preRV (ci := 0) (q0 := 0) hK (hP.sub (ws' := (wX0 cI hg0 hg1 hgln hgrw)) [15, 16] rfl) rfl rfl) rfl rfl hl.1 rfl (lv_room (Nat.le_of_ble_eq_true rfl)) dX2_crash_6 ⟨Nat.le_of_ble_eq_true rfl, Nat.le_of_ble_eq_true rfl⟩) hS hP (fun H locs hP hS => ?_)
  obtain ⟨v9, ev9, hf⟩ := slet_e hf
  refine va_mmin hx hb (hml.trans hl.1.symm) hown (hts _ (mc q_15)) (hts _ (mc q_16)) (hts _ (mc q_2)) (hts _ (mc q_17)) (Nat.le_of_ble_eq_true rfl) (Nat.le_of_ble_eq_true rfl) (Nat.le_of_ble_eq_true rfl) (Nat.le_of_ble_eq_true rfl) dX2_crash_9 ?_
  refine rw_nm ev9 ?_
  obtain ⟨v12, ev12, hf⟩ := slet_e hf
  refine va_mmax hx hb (hml.trans hl.1.symm) hown (hts _ (mc q_18)) (hts _ (mc q_19)) (hts _ (mc q_2)) (hts _ (mc q_20)) (Nat.le_of_ble_eq_true rfl) (Nat.le_of_ble_eq_true rfl) (Nat.le_of_ble_eq_true rfl) (Nat.le_of_ble_eq_true rfl) dX2_crash_12 ?_
  refine rw_nm ev12 ?_
  refine lv_istore_n (lv' := [(2, .int v12), (0, .ref h0), (1, .int x1)]) hx hb dX2_crash_15 rfl hl (by decide) rfl (fun ls hl => ?_)
  refine lv_iconst (v := 0) hx hb dX2_crash_16 (by decide) ?_
  refine lv_istore_n (lv' := [(3, .int 0), (2, .int v12), (0, .ref h0), (1, .int x1)]) hx hb dX2_crash_17 rfl hl (by decide) rfl (fun ls hl => ?_)
  exact wbX2_crash_18 hx hb hml hown hts hr hlocks hK h0 ht0 ht1 ht2 ht3 ht4 ht5 ht6 hu0 hu1 hu2 hu3 hu4 hu5 hu6 hg0 hg1 hlim hsyn hgrw r hkpt_o htkd_o htsz_o htlk_o hthm_o httg_o htvl_o hukd_o husz_o hulk_o huhm_o hutg_o huvl_o hgln_o 2000 v12 0 hkpt htkd htsz htlk hthm httg htvl hukd husz hulk huhm hutg huvl hgln _ _ hP hD hS _ (lv_sub hl [2, 1, 0] rfl) hf
end
section
theorem gX2_find_49 : GoodIn wsX2_find (wsS RX2 49 yX2_isNode wsX2_isNode) := gIn (memS q_64 q_65 q_1 q_66)
theorem gX2_find_53 : GoodIn wsX2_find (wsS RX2 53 yX2_isName wsX2_isName) := gIn (memS q_67 q_68 q_1 q_69)
theorem gX2_find_56 : GoodIn wsX2_find (wsV RX2 56 RX1 yX1_isDirectory wsX1_isDirectory) := gIn (memV q_70 q_71 q_72 q_3 q_73)
theorem gX2_find_59 : GoodIn wsX2_find (wsV RX2 59 RX1 yX1_target wsX1_target) := gIn (memV q_74 q_75 q_76 q_3 q_77)
set_option maxHeartbeats 4000000 in
set_option maxRecDepth 100000 in
theorem cX2_find_met (l : Launch) (dC : Nat → ClassId) (dI : Nat → Nat → Nat) (cI : ClassId) (h0 ht0 ht1 ht2 ht3 ht4 ht5 ht6 hu0 hu1 hu2 hu3 hu4 hu5 hu6 hg0 hg1 : Nat) (hlim : Int32) (hkpt : Int32) (hsyn : Int32) (htkd : Nat → Int32) (htsz : Nat → Int32) (htlk : Nat → Int32) (hthm : Nat → Int32) (httg : Nat → Int32) (htvl : Nat → Int32) (hukd : Nat → Int32) (husz : Nat → Int32) (hulk : Nat → Int32) (huhm : Nat → Int32) (hutg : Nat → Int32) (huvl : Nat → Int32) (hgln : Int32) (hgrw : Nat → Int32) (x1 : Int32) (x2 : Int32) (r : Int32) (hf : fX2_find x1 x2 htkd httg = some r) : Met l yX2_find wsX2_find ({ frames := 1, cells := 0, slots := 0, locals := 22 } : Room) (pcR [.ref h0, .int x1, .int x2] (dC, dI) vwCl [(cI, .int)] (wX2 cI h0 ht0 ht1 ht2 ht3 ht4 ht5 ht6 hu0 hu1 hu2 hu3 hu4 hu5 hu6 hg0 hg1 hlim hkpt hsyn htkd htsz htlk hthm httg htvl hukd husz hulk huhm hutg huvl hgln hgrw)) (qI r pT aN) 0 0 aN := by
  refine Met.ofW (cc := cX2_find) (maxL := 3) (ret := (some .int)) (by decide) rfl ?_
  intro p e s m args below meth c s₁ B hml hv
  obtain ⟨rfl, hP, hK⟩ := hv
  have hx := B.exec
  have hb := B.bytes
  have hr := B.returns
  have hts := atoms_spec (ws := wsX2_find) B.pre
  have hown : s.vm.findClass RX2 = some m.cls := findClass_of_methodNamed B.named
  have hlocks := B.notSynchronized
  have hS : va_S aN s.heap s.heap [] := va_S.rf
  have hl := lv_entry ([.ref h0, .int x1, .int x2]) (n := 3) (Nat.le_of_ble_eq_true rfl)
  rw [lg_entry_eq]
  generalize (lg_sl ([.ref h0, .int x1, .int x2]) ++ List.replicate (3 - (lg_sl ([.ref h0, .int x1, .int x2])).length) Slot.unset).toArray = ls at hl ⊢
  have hl : lv_has ls 3 [(0, .ref h0), (1, .int x1), (2, .int x2)] := hl
  unfold fX2_find at hf
  refine lv_iload_n hx hb dX2_find_0 rfl (lv_at hl 1 rfl) ?_
  obtain ⟨r1, hc1, hf⟩ := bn1_e hf
  refine callRi (va_runS (As := [.int x1]) (rest := []) ⟨hx, hb, hml, hown, hts⟩ (cX2_isNode_met l dC dI cI x1 r1 hc1) (cwS 1 hts gX2_find_49 rfl rfl rfl (by decide +kernel) ⟨Nat.le_of_ble_eq_true rfl, Nat.le_of_ble_eq_true rfl⟩) (preRS hK (hP.sub (ws' := []) [] rfl)) rfl rfl hl.1 rfl (lv_room (Nat.le_of_ble_eq_true rfl)) dX2_find_1 ⟨Nat.le_of_ble_eq_true rfl, Nat.le_of_ble_eq_true rfl⟩) hS hP (fun H locs hP hS => ?_)
  refine lv_if_eq (tgt := 14) hx hb dX2_find_4 (by decide) (fun c4 => ?_) (fun c4 => ?_)
  · have hf := it_t c4 hf
    refine lv_iconst (v := -1) hx hb dX2_find_14 (by decide) ?_
    cases hf
    exact retI hx hb hr hlocks trivial hS dX2_find_15
  · have hf := it_f c4 hf
    refine lv_iload_n hx hb dX2_find_7 rfl (lv_at hl 2 rfl) ?_
    obtain ⟨r8, hc8, hf⟩ := bn1_e hf
    refine callRi (va_runS (As := [.int x2]) (rest := []) ⟨hx, hb, hml, hown, hts⟩ (cX2_isName_met l dC dI cI x2 r8 hc8) (cwS 1 hts gX2_find_53 rfl rfl rfl (by decide +kernel) ⟨Nat.le_of_ble_eq_true rfl, Nat.le_of_ble_eq_true rfl⟩) (preRS hK (hP.sub (ws' := []) [] rfl)) rfl rfl hl.1 rfl (lv_room (Nat.le_of_ble_eq_true rfl)) dX2_find_8 ⟨Nat.le_of_ble_eq_true rfl, Nat.le_of_ble_eq_true rfl⟩) hS hP (fun H locs hP hS => ?_)
    refine lv_if_ne (tgt := 16) hx hb dX2_find_11 (by decide) (fun c11 => ?_) (fun c11 => ?_)
    · have hf := it_f c11 hf
      refine lv_aload_n hx hb dX2_find_16 rfl (lv_at hl 0 rfl) ?_
      refine va_get (D := (dC, dI)) (ci := 2) (v := .ref ht0) (C := RX2) (T := TX2) (N := 6) hx hb hts (fun w h => mc (inX2 w h)) hown hK hP 0 rfl rfl 1 (by decide) (hts _ (mc q_55)) (fun _ h9 => h9) rfl dX2_find_17 ?_
      refine lv_iload_n hx hb dX2_find_20 rfl (lv_at hl 1 rfl) ?_
      obtain ⟨r21, hc21, hf⟩ := bn1_e hf
      refine callRi (va_runV (As := [.int x1]) (rest := []) ⟨hx, hb, hml, hown, hts⟩ (cX1_isDirectory_met l dC dI cI ht0 ht1 ht2 ht3 ht4 ht5 ht6 htkd htsz htlk hthm httg htvl x1 r21 hc21) (cwV 1 hts gX2_find_56 rfl rfl rfl (by decide +kernel) ⟨Nat.le_of_ble_eq_true rfl, Nat.le_of_ble_eq_true rfl⟩) (preRV (ci := 1) (q0 := 0) hK (hP.sub (ws' := (wX1 cI ht0 ht1 ht2 ht3 ht4 ht5 ht6 htkd htsz htlk hthm httg htvl)) [1, 2, 3, 4, 5, 6, 7] rfl) rfl rfl) rfl rfl hl.1 rfl (lv_room (Nat.le_of_ble_eq_true rfl)) dX2_find_21 ⟨Nat.le_of_ble_eq_true rfl, Nat.le_of_ble_eq_true rfl⟩) hS hP (fun H locs hP hS => ?_)
      refine lv_if_eq (tgt := 39) hx hb dX2_find_24 (by decide) (fun c24 => ?_) (fun c24 => ?_)
      · have hf := it_t c24 hf
        refine lv_bipush (v := -2) hx hb dX2_find_39 (by decide) ?_
        cases hf
        exact retI hx hb hr hlocks trivial hS dX2_find_41
      · have hf := it_f c24 hf
        refine lv_aload_n hx hb dX2_find_27 rfl (lv_at hl 0 rfl) ?_
        refine va_get (D := (dC, dI)) (ci := 2) (v := .ref ht0) (C := RX2) (T := TX2) (N := 6) hx hb hts (fun w h => mc (inX2 w h)) hown hK hP 0 rfl rfl 1 (by decide) (hts _ (mc q_55)) (fun _ h9 => h9) rfl dX2_find_28 ?_
        refine lv_iload_n hx hb dX2_find_31 rfl (lv_at hl 1 rfl) ?_
        refine lv_iload_n hx hb dX2_find_32 rfl (lv_at hl 2 rfl) ?_
        obtain ⟨r33, hc33, hf⟩ := bn1_e hf
        refine callRi (va_runV (As := [.int x1, .int x2]) (rest := []) ⟨hx, hb, hml, hown, hts⟩ (cX1_target_met l dC dI cI ht0 ht1 ht2 ht3 ht4 ht5 ht6 htkd htsz htlk hthm httg htvl x1 x2 r33 hc33) (cwV 2 hts gX2_find_59 rfl rfl rfl (by decide +kernel) ⟨Nat.le_of_ble_eq_true rfl, Nat.le_of_ble_eq_true rfl⟩) (preRV (ci := 1) (q0 := 0) hK (hP.sub (ws' := (wX1 cI ht0 ht1 ht2 ht3 ht4 ht5 ht6 htkd htsz htlk hthm httg htvl)) [1, 2, 3, 4, 5, 6, 7] rfl) rfl rfl) rfl rfl hl.1 rfl (lv_room (Nat.le_of_ble_eq_true rfl)) dX2_find_33 ⟨Nat.le_of_ble_eq_true rfl, Nat.le_of_ble_eq_true rfl⟩) hS hP (fun H locs hP hS => ?_)
        refine lv_if_ne (tgt := 42) hx hb dX2_find_36 (by decide) (fun c36 => ?_) (fun c36 => ?_)
        · have hf := it_f c36 hf
          refine lv_aload_n hx hb dX2_find_42 rfl (lv_at hl 0 rfl) ?_
          refine va_get (D := (dC, dI)) (ci := 2) (v := .ref ht0) (C := RX2) (T := TX2) (N := 6) hx hb hts (fun w h => mc (inX2 w h)) hown hK hP 0 rfl rfl 1 (by decide) (hts _ (mc q_55)) (fun _ h9 => h9) rfl dX2_find_43 ?_
          refine lv_iload_n hx hb dX2_find_46 rfl (lv_at hl 1 rfl) ?_
          refine lv_iload_n hx hb dX2_find_47 rfl (lv_at hl 2 rfl) ?_
          obtain ⟨r48, hc48, hf⟩ := bn1_e hf
          refine callRi (va_runV (As := [.int x1, .int x2]) (rest := []) ⟨hx, hb, hml, hown, hts⟩ (cX1_target_met l dC dI cI ht0 ht1 ht2 ht3 ht4 ht5 ht6 htkd htsz htlk hthm httg htvl x1 x2 r48 hc48) (cwV 2 hts gX2_find_59 rfl rfl rfl (by decide +kernel) ⟨Nat.le_of_ble_eq_true rfl, Nat.le_of_ble_eq_true rfl⟩) (preRV (ci := 1) (q0 := 0) hK (hP.sub (ws' := (wX1 cI ht0 ht1 ht2 ht3 ht4 ht5 ht6 htkd htsz htlk hthm httg htvl)) [1, 2, 3, 4, 5, 6, 7] rfl) rfl rfl) rfl rfl hl.1 rfl (lv_room (Nat.le_of_ble_eq_true rfl)) dX2_find_48 ⟨Nat.le_of_ble_eq_true rfl, Nat.le_of_ble_eq_true rfl⟩) hS hP (fun H locs hP hS => ?_)
          cases hf
          exact retI hx hb hr hlocks trivial hS dX2_find_51
        · have hf := it_t c36 hf
          refine lv_bipush (v := -2) hx hb dX2_find_39 (by decide) ?_
          cases hf
          exact retI hx hb hr hlocks trivial hS dX2_find_41
    · have hf := it_t c11 hf
      refine lv_iconst (v := -1) hx hb dX2_find_14 (by decide) ?_
      cases hf
      exact retI hx hb hr hlocks trivial hS dX2_find_15
theorem gX2_entry_49 : GoodIn wsX2_entry (wsS RX2 49 yX2_isNode wsX2_isNode) := gIn (memS q_64 q_65 q_1 q_66)
theorem gX2_entry_56 : GoodIn wsX2_entry (wsV RX2 56 RX1 yX1_isDirectory wsX1_isDirectory) := gIn (memV q_70 q_71 q_72 q_3 q_73)
theorem gX2_entry_109 : GoodIn wsX2_entry (wsV RX2 109 RX1 yX1_nthName wsX1_nthName) := gIn (memV q_201 q_202 q_203 q_3 q_204)
set_option maxHeartbeats 4000000 in
set_option maxRecDepth 100000 in
theorem cX2_entry_met (l : Launch) (dC : Nat → ClassId) (dI : Nat → Nat → Nat) (cI : ClassId) (h0 ht0 ht1 ht2 ht3 ht4 ht5 ht6 hu0 hu1 hu2 hu3 hu4 hu5 hu6 hg0 hg1 : Nat) (hlim : Int32) (hkpt : Int32) (hsyn : Int32) (htkd : Nat → Int32) (htsz : Nat → Int32) (htlk : Nat → Int32) (hthm : Nat → Int32) (httg : Nat → Int32) (htvl : Nat → Int32) (hukd : Nat → Int32) (husz : Nat → Int32) (hulk : Nat → Int32) (huhm : Nat → Int32) (hutg : Nat → Int32) (huvl : Nat → Int32) (hgln : Int32) (hgrw : Nat → Int32) (x1 : Int32) (x2 : Int32) (r : Int32) (hf : fX2_entry x1 x2 htkd httg = some r) : Met l yX2_entry wsX2_entry ({ frames := 2, cells := 0, slots := 0, locals := 46 } : Room) (pcR [.ref h0, .int x1, .int x2] (dC, dI) vwCl [(cI, .int)] (wX2 cI h0 ht0 ht1 ht2 ht3 ht4 ht5 ht6 hu0 hu1 hu2 hu3 hu4 hu5 hu6 hg0 hg1 hlim hkpt hsyn htkd htsz htlk hthm httg htvl hukd husz hulk huhm hutg huvl hgln hgrw)) (qI r pT aN) 0 0 aN := by
  refine Met.ofW (cc := cX2_entry) (maxL := 3) (ret := (some .int)) (by decide) rfl ?_
  intro p e s m args below meth c s₁ B hml hv
  obtain ⟨rfl, hP, hK⟩ := hv
  have hx := B.exec
  have hb := B.bytes
  have hr := B.returns
  have hts := atoms_spec (ws := wsX2_entry) B.pre
  have hown : s.vm.findClass RX2 = some m.cls := findClass_of_methodNamed B.named
  have hlocks := B.notSynchronized
  have hS : va_S aN s.heap s.heap [] := va_S.rf
  have hl := lv_entry ([.ref h0, .int x1, .int x2]) (n := 3) (Nat.le_of_ble_eq_true rfl)
  rw [lg_entry_eq]
  generalize (lg_sl ([.ref h0, .int x1, .int x2]) ++ List.replicate (3 - (lg_sl ([.ref h0, .int x1, .int x2])).length) Slot.unset).toArray = ls at hl ⊢
  have hl : lv_has ls 3 [(0, .ref h0), (1, .int x1), (2, .int x2)] := hl
  unfold fX2_entry at hf
  refine lv_iload_n hx hb dX2_entry_0 rfl (lv_at hl 1 rfl) ?_
  obtain ⟨r1, hc1, hf⟩ := bn1_e hf
  refine callRi (va_runS (As := [.int x1]) (rest := []) ⟨hx, hb, hml, hown, hts⟩ (cX2_isNode_met l dC dI cI x1 r1 hc1) (cwS 1 hts gX2_entry_49 rfl rfl rfl (by decide +kernel) ⟨Nat.le_of_ble_eq_true rfl, Nat.le_of_ble_eq_true rfl⟩) (preRS hK (hP.sub (ws' := []) [] rfl)) rfl rfl hl.1 rfl (lv_room (Nat.le_of_ble_eq_true rfl)) dX2_entry_1 ⟨Nat.le_of_ble_eq_true rfl, Nat.le_of_ble_eq_true rfl⟩) hS hP (fun H locs hP hS => ?_)
  refine lv_if_ne (tgt := 9) hx hb dX2_entry_4 (by decide) (fun c4 => ?_) (fun c4 => ?_)
  · have hf := it_f c4 hf
    refine lv_aload_n hx hb dX2_entry_9 rfl (lv_at hl 0 rfl) ?_
    refine va_get (D := (dC, dI)) (ci := 2) (v := .ref ht0) (C := RX2) (T := TX2) (N := 6) hx hb hts (fun w h => mc (inX2 w h)) hown hK hP 0 rfl rfl 1 (by decide) (hts _ (mc q_55)) (fun _ h9 => h9) rfl dX2_entry_10 ?_
    refine lv_iload_n hx hb dX2_entry_13 rfl (lv_at hl 1 rfl) ?_
    obtain ⟨r14, hc14, hf⟩ := bn1_e hf
    refine callRi (va_runV (As := [.int x1]) (rest := []) ⟨hx, hb, hml, hown, hts⟩ (cX1_isDirectory_met l dC dI cI ht0 ht1 ht2 ht3 ht4 ht5 ht6 htkd htsz htlk hthm httg htvl x1 r14 hc14) (cwV 1 hts gX2_entry_56 rfl rfl rfl (by decide +kernel) ⟨Nat.le_of_ble_eq_true rfl, Nat.le_of_ble_eq_true rfl⟩) (preRV (ci := 1) (q0 := 0) hK (hP.sub (ws' := (wX1 cI ht0 ht1 ht2 ht3 ht4 ht5 ht6 htkd htsz htlk hthm httg htvl)) [1, 2, 3, 4, 5, 6, 7] rfl) rfl rfl) rfl rfl hl.1 rfl (lv_room (Nat.le_of_ble_eq_true rfl)) dX2_entry_14 ⟨Nat.le_of_ble_eq_true rfl, Nat.le_of_ble_eq_true rfl⟩) hS hP (fun H locs hP hS => ?_)
    refine lv_if_ne (tgt := 23) hx hb dX2_entry_17 (by decide) (fun c17 => ?_) (fun c17 => ?_)
    · have hf := it_f c17 hf
      refine lv_aload_n hx hb dX2_entry_23 rfl (lv_at hl 0 rfl) ?_
      refine va_get (D := (dC, dI)) (ci := 2) (v := .ref ht0) (C := RX2) (T := TX2) (N := 6) hx hb hts (fun w h => mc (inX2 w h)) hown hK hP 0 rfl rfl 1 (by decide) (hts _ (mc q_55)) (fun _ h9 => h9) rfl dX2_entry_24 ?_
      refine lv_iload_n hx hb dX2_entry_27 rfl (lv_at hl 1 rfl) ?_
      refine lv_iload_n hx hb dX2_entry_28 rfl (lv_at hl 2 rfl) ?_
      obtain ⟨r29, hc29, hf⟩ := bn1_e hf
      refine callRi (va_runV (As := [.int x1, .int x2]) (rest := []) ⟨hx, hb, hml, hown, hts⟩ (cX1_nthName_met l dC dI cI ht0 ht1 ht2 ht3 ht4 ht5 ht6 htkd htsz htlk hthm httg htvl x1 x2 r29 hc29) (cwV 2 hts gX2_entry_109 rfl rfl rfl (by decide +kernel) ⟨Nat.le_of_ble_eq_true rfl, Nat.le_of_ble_eq_true rfl⟩) (preRV (ci := 1) (q0 := 0) hK (hP.sub (ws' := (wX1 cI ht0 ht1 ht2 ht3 ht4 ht5 ht6 htkd htsz htlk hthm httg htvl)) [1, 2, 3, 4, 5, 6, 7] rfl) rfl rfl) rfl rfl hl.1 rfl (lv_room (Nat.le_of_ble_eq_true rfl)) dX2_entry_29 ⟨Nat.le_of_ble_eq_true rfl, Nat.le_of_ble_eq_true rfl⟩) hS hP (fun H locs hP hS => ?_)
      cases hf
      exact retI hx hb hr hlocks trivial hS dX2_entry_32
    · have hf := it_t c17 hf
      refine lv_bipush (v := -2) hx hb dX2_entry_20 (by decide) ?_
      cases hf
      exact retI hx hb hr hlocks trivial hS dX2_entry_22
  · have hf := it_t c4 hf
    refine lv_iconst (v := -1) hx hb dX2_entry_7 (by decide) ?_
    cases hf
    exact retI hx hb hr hlocks trivial hS dX2_entry_8
theorem gX2_read_49 : GoodIn wsX2_read (wsS RX2 49 yX2_isNode wsX2_isNode) := gIn (memS q_64 q_65 q_1 q_66)
theorem gX2_read_80 : GoodIn wsX2_read (wsV RX2 80 RX1 yX1_isFile wsX1_isFile) := gIn (memV q_159 q_51 q_52 q_3 q_53)
theorem gX2_read_65 : GoodIn wsX2_read (wsV RX2 65 RX1 yX1_size wsX1_size) := gIn (memV q_82 q_83 q_84 q_3 q_85)
theorem gX2_read_114 : GoodIn wsX2_read (wsV RX2 114 RX1 yX1_value wsX1_value) := gIn (memV q_210 q_211 q_212 q_3 q_213)
set_option maxHeartbeats 4000000 in
set_option maxRecDepth 100000 in
theorem cX2_read_met (l : Launch) (dC : Nat → ClassId) (dI : Nat → Nat → Nat) (cI : ClassId) (h0 ht0 ht1 ht2 ht3 ht4 ht5 ht6 hu0 hu1 hu2 hu3 hu4 hu5 hu6 hg0 hg1 : Nat) (hlim : Int32) (hkpt : Int32) (hsyn : Int32) (htkd : Nat → Int32) (htsz : Nat → Int32) (htlk : Nat → Int32) (hthm : Nat → Int32) (httg : Nat → Int32) (htvl : Nat → Int32) (hukd : Nat → Int32) (husz : Nat → Int32) (hulk : Nat → Int32) (huhm : Nat → Int32) (hutg : Nat → Int32) (huvl : Nat → Int32) (hgln : Int32) (hgrw : Nat → Int32) (x1 : Int32) (x2 : Int32) (r : Int64) (hf : fX2_read x1 x2 htkd htsz htvl = some r) : Met l yX2_read wsX2_read ({ frames := 1, cells := 0, slots := 0, locals := 22 } : Room) (pcR [.ref h0, .int x1, .int x2] (dC, dI) vwCl [(cI, .int)] (wX2 cI h0 ht0 ht1 ht2 ht3 ht4 ht5 ht6 hu0 hu1 hu2 hu3 hu4 hu5 hu6 hg0 hg1 hlim hkpt hsyn htkd htsz htlk hthm httg htvl hukd husz hulk huhm hutg huvl hgln hgrw)) (qL r pT aN) 0 0 aN := by
  refine Met.ofW (cc := cX2_read) (maxL := 3) (ret := (some .long)) (by decide) rfl ?_
  intro p e s m args below meth c s₁ B hml hv
  obtain ⟨rfl, hP, hK⟩ := hv
  have hx := B.exec
  have hb := B.bytes
  have hr := B.returns
  have hts := atoms_spec (ws := wsX2_read) B.pre
  have hown : s.vm.findClass RX2 = some m.cls := findClass_of_methodNamed B.named
  have hlocks := B.notSynchronized
  have hS : va_S aN s.heap s.heap [] := va_S.rf
  have hl := lv_entry ([.ref h0, .int x1, .int x2]) (n := 3) (Nat.le_of_ble_eq_true rfl)
  rw [lg_entry_eq]
  generalize (lg_sl ([.ref h0, .int x1, .int x2]) ++ List.replicate (3 - (lg_sl ([.ref h0, .int x1, .int x2])).length) Slot.unset).toArray = ls at hl ⊢
  have hl : lv_has ls 3 [(0, .ref h0), (1, .int x1), (2, .int x2)] := hl
  unfold fX2_read at hf
  refine lv_iload_n hx hb dX2_read_0 rfl (lv_at hl 1 rfl) ?_
  obtain ⟨r1, hc1, hf⟩ := bn1_e hf
  refine callRi (va_runS (As := [.int x1]) (rest := []) ⟨hx, hb, hml, hown, hts⟩ (cX2_isNode_met l dC dI cI x1 r1 hc1) (cwS 1 hts gX2_read_49 rfl rfl rfl (by decide +kernel) ⟨Nat.le_of_ble_eq_true rfl, Nat.le_of_ble_eq_true rfl⟩) (preRS hK (hP.sub (ws' := []) [] rfl)) rfl rfl hl.1 rfl (lv_room (Nat.le_of_ble_eq_true rfl)) dX2_read_1 ⟨Nat.le_of_ble_eq_true rfl, Nat.le_of_ble_eq_true rfl⟩) hS hP (fun H locs hP hS => ?_)
  refine lv_if_eq (tgt := 18) hx hb dX2_read_4 (by decide) (fun c4 => ?_) (fun c4 => ?_)
  · have hf := it_t c4 hf
    refine lv_ldc2 hx hb hown (hts _ (mc q_209)) dX2_read_18 ?_
    cases hf
    exact retL hx hb hr hlocks trivial hS dX2_read_21
  · have hf := it_f c4 hf
    refine lv_aload_n hx hb dX2_read_7 rfl (lv_at hl 0 rfl) ?_
    refine va_get (D := (dC, dI)) (ci := 2) (v := .ref ht0) (C := RX2) (T := TX2) (N := 6) hx hb hts (fun w h => mc (inX2 w h)) hown hK hP 0 rfl rfl 1 (by decide) (hts _ (mc q_55)) (fun _ h9 => h9) rfl dX2_read_8 ?_
    refine lv_iload_n hx hb dX2_read_11 rfl (lv_at hl 1 rfl) ?_
    obtain ⟨r12, hc12, hf⟩ := bn1_e hf
    refine callRi (va_runV (As := [.int x1]) (rest := []) ⟨hx, hb, hml, hown, hts⟩ (cX1_isFile_met l dC dI cI ht0 ht1 ht2 ht3 ht4 ht5 ht6 htkd htsz htlk hthm httg htvl x1 r12 hc12) (cwV 1 hts gX2_read_80 rfl rfl rfl (by decide +kernel) ⟨Nat.le_of_ble_eq_true rfl, Nat.le_of_ble_eq_true rfl⟩) (preRV (ci := 1) (q0 := 0) hK (hP.sub (ws' := (wX1 cI ht0 ht1 ht2 ht3 ht4 ht5 ht6 htkd htsz htlk hthm httg htvl)) [1, 2, 3, 4, 5, 6, 7] rfl) rfl rfl) rfl rfl hl.1 rfl (lv_room (Nat.le_of_ble_eq_true rfl)) dX2_read_12 ⟨Nat.le_of_ble_eq_true rfl, Nat.le_of_ble_eq_true rfl⟩) hS hP (fun H locs hP hS => ?_)
    refine lv_if_ne (tgt := 22) hx hb dX2_read_15 (by decide) (fun c15 => ?_) (fun c15 => ?_)
    · have hf := it_f c15 hf
      refine lv_iload_n hx hb dX2_read_22 rfl (lv_at hl 2 rfl) ?_
      refine lv_if_lt (tgt := 38) hx hb dX2_read_23 (by decide) (fun c23 => ?_) (fun c23 => ?_)
      · have hf := it_t c23 hf
        refine lv_ldc2 hx hb hown (hts _ (mc q_209)) dX2_read_38 ?_
        cases hf
        exact retL hx hb hr hlocks trivial hS dX2_read_41
      · have hf := it_f c23 hf
        refine lv_iload_n hx hb dX2_read_26 rfl (lv_at hl 2 rfl) ?_
        refine lv_aload_n hx hb dX2_read_27 rfl (lv_at hl 0 rfl) ?_
        refine va_get (D := (dC, dI)) (ci := 2) (v := .ref ht0) (C := RX2) (T := TX2) (N := 6) hx hb hts (fun w h => mc (inX2 w h)) hown hK hP 0 rfl rfl 1 (by decide) (hts _ (mc q_55)) (fun _ h9 => h9) rfl dX2_read_28 ?_
        refine lv_iload_n hx hb dX2_read_31 rfl (lv_at hl 1 rfl) ?_
        obtain ⟨r32, hc32, hf⟩ := bn1_e hf
        refine callRi (va_runV (As := [.int x1]) (rest := [.int x2]) ⟨hx, hb, hml, hown, hts⟩ (cX1_size_met l dC dI cI ht0 ht1 ht2 ht3 ht4 ht5 ht6 htkd htsz htlk hthm httg htvl x1 r32 hc32) (cwV 1 hts gX2_read_65 rfl rfl rfl (by decide +kernel) ⟨Nat.le_of_ble_eq_true rfl, Nat.le_of_ble_eq_true rfl⟩) (preRV (ci := 1) (q0 := 0) hK (hP.sub (ws' := (wX1 cI ht0 ht1 ht2 ht3 ht4 ht5 ht6 htkd htsz htlk hthm httg htvl)) [1, 2, 3, 4, 5, 6, 7] rfl) rfl rfl) rfl rfl hl.1 rfl (lv_room (Nat.le_of_ble_eq_true rfl)) dX2_read_32 ⟨Nat.le_of_ble_eq_true rfl, Nat.le_of_ble_eq_true rfl⟩) hS hP (fun H locs hP hS => ?_)
        refine lv_icmp_lt (tgt := 42) hx hb dX2_read_35 (by decide) (fun c35 => ?_) (fun c35 => ?_)
        · have hf := it_t c35 hf
          refine lv_aload_n hx hb dX2_read_42 rfl (lv_at hl 0 rfl) ?_
          refine va_get (D := (dC, dI)) (ci := 2) (v := .ref ht0) (C := RX2) (T := TX2) (N := 6) hx hb hts (fun w h => mc (inX2 w h)) hown hK hP 0 rfl rfl 1 (by decide) (hts _ (mc q_55)) (fun _ h9 => h9) rfl dX2_read_43 ?_
          refine lv_iload_n hx hb dX2_read_46 rfl (lv_at hl 1 rfl) ?_
          refine lv_iload_n hx hb dX2_read_47 rfl (lv_at hl 2 rfl) ?_
          obtain ⟨r48, hc48, hf⟩ := bn1_e hf
          refine callRi (va_runV (As := [.int x1, .int x2]) (rest := []) ⟨hx, hb, hml, hown, hts⟩ (cX1_value_met l dC dI cI ht0 ht1 ht2 ht3 ht4 ht5 ht6 htkd htsz htlk hthm httg htvl x1 x2 r48 hc48) (cwV 2 hts gX2_read_114 rfl rfl rfl (by decide +kernel) ⟨Nat.le_of_ble_eq_true rfl, Nat.le_of_ble_eq_true rfl⟩) (preRV (ci := 1) (q0 := 0) hK (hP.sub (ws' := (wX1 cI ht0 ht1 ht2 ht3 ht4 ht5 ht6 htkd htsz htlk hthm httg htvl)) [1, 2, 3, 4, 5, 6, 7] rfl) rfl rfl) rfl rfl hl.1 rfl (lv_room (Nat.le_of_ble_eq_true rfl)) dX2_read_48 ⟨Nat.le_of_ble_eq_true rfl, Nat.le_of_ble_eq_true rfl⟩) hS hP (fun H locs hP hS => ?_)
          obtain ⟨v51, ev51, hf⟩ := slet_e hf
          refine lv_i2l (v := v51) hx hb dX2_read_51 ev51.symm ?_
          cases hf
          exact retL hx hb hr hlocks trivial hS dX2_read_52
        · have hf := it_f c35 hf
          refine lv_ldc2 hx hb hown (hts _ (mc q_209)) dX2_read_38 ?_
          cases hf
          exact retL hx hb hr hlocks trivial hS dX2_read_41
    · have hf := it_t c15 hf
      refine lv_ldc2 hx hb hown (hts _ (mc q_209)) dX2_read_18 ?_
      cases hf
      exact retL hx hb hr hlocks trivial hS dX2_read_21
theorem gX2_tell_49 : GoodIn wsX2_tell (wsS RX2 49 yX2_isNode wsX2_isNode) := gIn (memS q_64 q_65 q_1 q_66)
theorem gX2_tell_117 : GoodIn wsX2_tell (wsV RX2 117 RX1 yX1_kind wsX1_kind) := gIn (memV q_218 q_219 q_220 q_3 q_221)
theorem gX2_tell_83 : GoodIn wsX2_tell (wsV RX2 83 RX1 yX1_links wsX1_links) := gIn (memV q_164 q_165 q_166 q_3 q_167)
theorem gX2_tell_65 : GoodIn wsX2_tell (wsV RX2 65 RX1 yX1_size wsX1_size) := gIn (memV q_82 q_83 q_84 q_3 q_85)
set_option maxHeartbeats 4000000 in
set_option maxRecDepth 100000 in
theorem cX2_tell_met (l : Launch) (dC : Nat → ClassId) (dI : Nat → Nat → Nat) (cI : ClassId) (h0 ht0 ht1 ht2 ht3 ht4 ht5 ht6 hu0 hu1 hu2 hu3 hu4 hu5 hu6 hg0 hg1 : Nat) (hlim : Int32) (hkpt : Int32) (hsyn : Int32) (htkd : Nat → Int32) (htsz : Nat → Int32) (htlk : Nat → Int32) (hthm : Nat → Int32) (httg : Nat → Int32) (htvl : Nat → Int32) (hukd : Nat → Int32) (husz : Nat → Int32) (hulk : Nat → Int32) (huhm : Nat → Int32) (hutg : Nat → Int32) (huvl : Nat → Int32) (hgln : Int32) (hgrw : Nat → Int32) (x1 : Int32) (x2 : Int32) (r : Int32) (hf : fX2_tell x1 x2 htkd htsz htlk = some r) : Met l yX2_tell wsX2_tell ({ frames := 1, cells := 0, slots := 0, locals := 21 } : Room) (pcR [.ref h0, .int x1, .int x2] (dC, dI) vwCl [(cI, .int)] (wX2 cI h0 ht0 ht1 ht2 ht3 ht4 ht5 ht6 hu0 hu1 hu2 hu3 hu4 hu5 hu6 hg0 hg1 hlim hkpt hsyn htkd htsz htlk hthm httg htvl hukd husz hulk huhm hutg huvl hgln hgrw)) (qI r pT aN) 0 0 aN := by
  refine Met.ofW (cc := cX2_tell) (maxL := 3) (ret := (some .int)) (by decide) rfl ?_
  intro p e s m args below meth c s₁ B hml hv
  obtain ⟨rfl, hP, hK⟩ := hv
  have hx := B.exec
  have hb := B.bytes
  have hr := B.returns
  have hts := atoms_spec (ws := wsX2_tell) B.pre
  have hown : s.vm.findClass RX2 = some m.cls := findClass_of_methodNamed B.named
  have hlocks := B.notSynchronized
  have hS : va_S aN s.heap s.heap [] := va_S.rf
  have hl := lv_entry ([.ref h0, .int x1, .int x2]) (n := 3) (Nat.le_of_ble_eq_true rfl)
  rw [lg_entry_eq]
  generalize (lg_sl ([.ref h0, .int x1, .int x2]) ++ List.replicate (3 - (lg_sl ([.ref h0, .int x1, .int x2])).length) Slot.unset).toArray = ls at hl ⊢
  have hl : lv_has ls 3 [(0, .ref h0), (1, .int x1), (2, .int x2)] := hl
  unfold fX2_tell at hf
  refine lv_iload_n hx hb dX2_tell_0 rfl (lv_at hl 1 rfl) ?_
  obtain ⟨r1, hc1, hf⟩ := bn1_e hf
  refine callRi (va_runS (As := [.int x1]) (rest := []) ⟨hx, hb, hml, hown, hts⟩ (cX2_isNode_met l dC dI cI x1 r1 hc1) (cwS 1 hts gX2_tell_49 rfl rfl rfl (by decide +kernel) ⟨Nat.le_of_ble_eq_true rfl, Nat.le_of_ble_eq_true rfl⟩) (preRS hK (hP.sub (ws' := []) [] rfl)) rfl rfl hl.1 rfl (lv_room (Nat.le_of_ble_eq_true rfl)) dX2_tell_1 ⟨Nat.le_of_ble_eq_true rfl, Nat.le_of_ble_eq_true rfl⟩) hS hP (fun H locs hP hS => ?_)
  refine lv_if_eq (tgt := 16) hx hb dX2_tell_4 (by decide) (fun c4 => ?_) (fun c4 => ?_)
  · have hf := it_t c4 hf
    refine lv_iconst (v := -1) hx hb dX2_tell_16 (by decide) ?_
    cases hf
    exact retI hx hb hr hlocks trivial hS dX2_tell_17
  · have hf := it_f c4 hf
    refine lv_iload_n hx hb dX2_tell_7 rfl (lv_at hl 2 rfl) ?_
    refine lv_if_lt (tgt := 16) hx hb dX2_tell_8 (by decide) (fun c8 => ?_) (fun c8 => ?_)
    · have hf := it_t c8 hf
      refine lv_iconst (v := -1) hx hb dX2_tell_16 (by decide) ?_
      cases hf
      exact retI hx hb hr hlocks trivial hS dX2_tell_17
    · have hf := it_f c8 hf
      refine lv_iload_n hx hb dX2_tell_11 rfl (lv_at hl 2 rfl) ?_
      refine lv_iconst (v := 2) hx hb dX2_tell_12 (by decide) ?_
      refine lv_icmp_le (tgt := 18) hx hb dX2_tell_13 (by decide) (fun c13 => ?_) (fun c13 => ?_)
      · have hf := it_t c13 hf
        refine lv_iload_n hx hb dX2_tell_18 rfl (lv_at hl 2 rfl) ?_
        refine lv_if_ne (tgt := 31) hx hb dX2_tell_19 (by decide) (fun c19 => ?_) (fun c19 => ?_)
        · have hf := it_f c19 hf
          refine lv_aload_n hx hb dX2_tell_31 rfl (lv_at hl 0 rfl) ?_
          refine va_get (D := (dC, dI)) (ci := 2) (v := .ref ht0) (C := RX2) (T := TX2) (N := 6) hx hb hts (fun w h => mc (inX2 w h)) hown hK hP 0 rfl rfl 1 (by decide) (hts _ (mc q_55)) (fun _ h9 => h9) rfl dX2_tell_32 ?_
          refine lv_iload_n hx hb dX2_tell_35 rfl (lv_at hl 1 rfl) ?_
          obtain ⟨r36, hc36, hf⟩ := bn1_e hf
          refine callRi (va_runV (As := [.int x1]) (rest := []) ⟨hx, hb, hml, hown, hts⟩ (cX1_kind_met l dC dI cI ht0 ht1 ht2 ht3 ht4 ht5 ht6 htkd htsz htlk hthm httg htvl x1 r36 hc36) (cwV 1 hts gX2_tell_117 rfl rfl rfl (by decide +kernel) ⟨Nat.le_of_ble_eq_true rfl, Nat.le_of_ble_eq_true rfl⟩) (preRV (ci := 1) (q0 := 0) hK (hP.sub (ws' := (wX1 cI ht0 ht1 ht2 ht3 ht4 ht5 ht6 htkd htsz htlk hthm httg htvl)) [1, 2, 3, 4, 5, 6, 7] rfl) rfl rfl) rfl rfl hl.1 rfl (lv_room (Nat.le_of_ble_eq_true rfl)) dX2_tell_36 ⟨Nat.le_of_ble_eq_true rfl, Nat.le_of_ble_eq_true rfl⟩) hS hP (fun H locs hP hS => ?_)
          refine lv_if_ne (tgt := 45) hx hb dX2_tell_39 (by decide) (fun c39 => ?_) (fun c39 => ?_)
          · have hf := it_f c39 hf
            refine lv_iload_n hx hb dX2_tell_45 rfl (lv_at hl 2 rfl) ?_
            refine lv_iconst (v := 1) hx hb dX2_tell_46 (by decide) ?_
            refine lv_icmp_ne (tgt := 61) hx hb dX2_tell_47 (by decide) (fun c47 => ?_) (fun c47 => ?_)
            · have hf := it_f c47 hf
              refine lv_aload_n hx hb dX2_tell_61 rfl (lv_at hl 0 rfl) ?_
              refine va_get (D := (dC, dI)) (ci := 2) (v := .ref ht0) (C := RX2) (T := TX2) (N := 6) hx hb hts (fun w h => mc (inX2 w h)) hown hK hP 0 rfl rfl 1 (by decide) (hts _ (mc q_55)) (fun _ h9 => h9) rfl dX2_tell_62 ?_
              refine lv_iload_n hx hb dX2_tell_65 rfl (lv_at hl 1 rfl) ?_
              obtain ⟨r66, hc66, hf⟩ := bn1_e hf
              refine callRi (va_runV (As := [.int x1]) (rest := []) ⟨hx, hb, hml, hown, hts⟩ (cX1_links_met l dC dI cI ht0 ht1 ht2 ht3 ht4 ht5 ht6 htkd htsz htlk hthm httg htvl x1 r66 hc66) (cwV 1 hts gX2_tell_83 rfl rfl rfl (by decide +kernel) ⟨Nat.le_of_ble_eq_true rfl, Nat.le_of_ble_eq_true rfl⟩) (preRV (ci := 1) (q0 := 0) hK (hP.sub (ws' := (wX1 cI ht0 ht1 ht2 ht3 ht4 ht5 ht6 htkd htsz htlk hthm httg htvl)) [1, 2, 3, 4, 5, 6, 7] rfl) rfl rfl) rfl rfl hl.1 rfl (lv_room (Nat.le_of_ble_eq_true rfl)) dX2_tell_66 ⟨Nat.le_of_ble_eq_true rfl, Nat.le_of_ble_eq_true rfl⟩) hS hP (fun H locs hP hS => ?_)
              cases hf
              exact retI hx hb hr hlocks trivial hS dX2_tell_69
            · have hf := it_t c47 hf
              refine lv_aload_n hx hb dX2_tell_50 rfl (lv_at hl 0 rfl) ?_
              refine va_get (D := (dC, dI)) (ci := 2) (v := .ref ht0) (C := RX2) (T := TX2) (N := 6) hx hb hts (fun w h => mc (inX2 w h)) hown hK hP 0 rfl rfl 1 (by decide) (hts _ (mc q_55)) (fun _ h9 => h9) rfl dX2_tell_51 ?_
              refine lv_iload_n hx hb dX2_tell_54 rfl (lv_at hl 1 rfl) ?_
              obtain ⟨r55, hc55, hf⟩ := bn1_e hf
              refine callRi (va_runV (As := [.int x1]) (rest := []) ⟨hx, hb, hml, hown, hts⟩ (cX1_size_met l dC dI cI ht0 ht1 ht2 ht3 ht4 ht5 ht6 htkd htsz htlk hthm httg htvl x1 r55 hc55) (cwV 1 hts gX2_tell_65 rfl rfl rfl (by decide +kernel) ⟨Nat.le_of_ble_eq_true rfl, Nat.le_of_ble_eq_true rfl⟩) (preRV (ci := 1) (q0 := 0) hK (hP.sub (ws' := (wX1 cI ht0 ht1 ht2 ht3 ht4 ht5 ht6 htkd htsz htlk hthm httg htvl)) [1, 2, 3, 4, 5, 6, 7] rfl) rfl rfl) rfl rfl hl.1 rfl (lv_room (Nat.le_of_ble_eq_true rfl)) dX2_tell_55 ⟨Nat.le_of_ble_eq_true rfl, Nat.le_of_ble_eq_true rfl⟩) hS hP (fun H locs hP hS => ?_)
              refine lv_goto (tgt := 69) hx hb dX2_tell_58 (by decide) ?_
              cases hf
              exact retI hx hb hr hlocks trivial hS dX2_tell_69
          · have hf := it_t c39 hf
            refine lv_bipush (v := -2) hx hb dX2_tell_42 (by decide) ?_
            cases hf
            exact retI hx hb hr hlocks trivial hS dX2_tell_44
        · have hf := it_t c19 hf
          refine lv_aload_n hx hb dX2_tell_22 rfl (lv_at hl 0 rfl) ?_
          refine va_get (D := (dC, dI)) (ci := 2) (v := .ref ht0) (C := RX2) (T := TX2) (N := 6) hx hb hts (fun w h => mc (inX2 w h)) hown hK hP 0 rfl rfl 1 (by decide) (hts _ (mc q_55)) (fun _ h9 => h9) rfl dX2_tell_23 ?_
          refine lv_iload_n hx hb dX2_tell_26 rfl (lv_at hl 1 rfl) ?_
          obtain ⟨r27, hc27, hf⟩ := bn1_e hf
          refine callRi (va_runV (As := [.int x1]) (rest := []) ⟨hx, hb, hml, hown, hts⟩ (cX1_kind_met l dC dI cI ht0 ht1 ht2 ht3 ht4 ht5 ht6 htkd htsz htlk hthm httg htvl x1 r27 hc27) (cwV 1 hts gX2_tell_117 rfl rfl rfl (by decide +kernel) ⟨Nat.le_of_ble_eq_true rfl, Nat.le_of_ble_eq_true rfl⟩) (preRV (ci := 1) (q0 := 0) hK (hP.sub (ws' := (wX1 cI ht0 ht1 ht2 ht3 ht4 ht5 ht6 htkd htsz htlk hthm httg htvl)) [1, 2, 3, 4, 5, 6, 7] rfl) rfl rfl) rfl rfl hl.1 rfl (lv_room (Nat.le_of_ble_eq_true rfl)) dX2_tell_27 ⟨Nat.le_of_ble_eq_true rfl, Nat.le_of_ble_eq_true rfl⟩) hS hP (fun H locs hP hS => ?_)
          cases hf
          exact retI hx hb hr hlocks trivial hS dX2_tell_30
      · have hf := it_f c13 hf
        refine lv_iconst (v := -1) hx hb dX2_tell_16 (by decide) ?_
        cases hf
        exact retI hx hb hr hlocks trivial hS dX2_tell_17
theorem gX2_count_39 : GoodIn wsX2_count (wsV RX2 39 RX1 yX1_live wsX1_live) := gIn (memV q_42 q_43 q_44 q_3 q_45)
theorem gX2_count_95 : GoodIn wsX2_count (wsV RX2 95 RX0 yX0_length wsX0_length) := gIn (memV q_116 q_117 q_118 q_4 q_119)
theorem gX2_count_120 : GoodIn wsX2_count (wsV RX2 120 RX1 yX1_nodesThere wsX1_nodesThere) := gIn (memV q_226 q_227 q_228 q_3 q_229)
set_option maxHeartbeats 4000000 in
set_option maxRecDepth 100000 in
theorem cX2_count_met (l : Launch) (dC : Nat → ClassId) (dI : Nat → Nat → Nat) (cI : ClassId) (h0 ht0 ht1 ht2 ht3 ht4 ht5 ht6 hu0 hu1 hu2 hu3 hu4 hu5 hu6 hg0 hg1 : Nat) (hlim : Int32) (hkpt : Int32) (hsyn : Int32) (htkd : Nat → Int32) (htsz : Nat → Int32) (htlk : Nat → Int32) (hthm : Nat → Int32) (httg : Nat → Int32) (htvl : Nat → Int32) (hukd : Nat → Int32) (husz : Nat → Int32) (hulk : Nat → Int32) (huhm : Nat → Int32) (hutg : Nat → Int32) (huvl : Nat → Int32) (hgln : Int32) (hgrw : Nat → Int32) (x1 : Int32) (r : Int32) (hf : fX2_count x1 hlim hkpt hsyn htkd htsz hgln = some r) : Met l yX2_count wsX2_count ({ frames := 3, cells := 0, slots := 0, locals := 64 } : Room) (pcR [.ref h0, .int x1] (dC, dI) vwCl [(cI, .int)] (wX2 cI h0 ht0 ht1 ht2 ht3 ht4 ht5 ht6 hu0 hu1 hu2 hu3 hu4 hu5 hu6 hg0 hg1 hlim hkpt hsyn htkd htsz htlk hthm httg htvl hukd husz hulk huhm hutg huvl hgln hgrw)) (qI r pT aN) 0 0 aN := by
  refine Met.ofW (cc := cX2_count) (maxL := 2) (ret := (some .int)) (by decide) rfl ?_
  intro p e s m args below meth c s₁ B hml hv
  obtain ⟨rfl, hP, hK⟩ := hv
  have hx := B.exec
  have hb := B.bytes
  have hr := B.returns
  have hts := atoms_spec (ws := wsX2_count) B.pre
  have hown : s.vm.findClass RX2 = some m.cls := findClass_of_methodNamed B.named
  have hlocks := B.notSynchronized
  have hS : va_S aN s.heap s.heap [] := va_S.rf
  have hl := lv_entry ([.ref h0, .int x1]) (n := 2) (Nat.le_of_ble_eq_true rfl)
  rw [lg_entry_eq]
  generalize (lg_sl ([.ref h0, .int x1]) ++ List.replicate (2 - (lg_sl ([.ref h0, .int x1])).length) Slot.unset).toArray = ls at hl ⊢
  have hl : lv_has ls 2 [(0, .ref h0), (1, .int x1)] := hl
  unfold fX2_count at hf
  refine lv_iload_n hx hb dX2_count_0 rfl (lv_at hl 1 rfl) ?_
  by_cases c1_0 : x1 = 0
  · have hf := it_t c1_0 hf
    refine lv_tableIn (tgt := 40) hx hb dX2_count_1 (by rw [c1_0]; decide) (by rw [c1_0]; decide) (off := 39) (by rw [c1_0]; decide) (by decide) ?_
    refine lv_aload_n hx hb dX2_count_40 rfl (lv_at hl 0 rfl) ?_
    refine va_get (D := (dC, dI)) (ci := 2) (v := .ref ht0) (C := RX2) (T := TX2) (N := 6) hx hb hts (fun w h => mc (inX2 w h)) hown hK hP 0 rfl rfl 1 (by decide) (hts _ (mc q_55)) (fun _ h9 => h9) rfl dX2_count_41 ?_
    obtain ⟨r44, hc44, hf⟩ := bn1_e hf
    refine callRi (va_runV (As := []) (rest := []) ⟨hx, hb, hml, hown, hts⟩ (cX1_live_met l dC dI cI ht0 ht1 ht2 ht3 ht4 ht5 ht6 htkd htsz htlk hthm httg htvl r44 hc44) (cwV 0 hts gX2_count_39 rfl rfl rfl (by decide +kernel) ⟨Nat.le_of_ble_eq_true rfl, Nat.le_of_ble_eq_true rfl⟩) (preRV (ci := 1) (q0 := 0) hK (hP.sub (ws' := (wX1 cI ht0 ht1 ht2 ht3 ht4 ht5 ht6 htkd htsz htlk hthm httg htvl)) [1, 2, 3, 4, 5, 6, 7] rfl) rfl rfl) rfl rfl hl.1 rfl (lv_room (Nat.le_of_ble_eq_true rfl)) dX2_count_44 ⟨Nat.le_of_ble_eq_true rfl, Nat.le_of_ble_eq_true rfl⟩) hS hP (fun H locs hP hS => ?_)
    cases hf
    exact retI hx hb hr hlocks trivial hS dX2_count_47
  have hf := it_f c1_0 hf
  by_cases c1_1 : x1 = 1
  · have hf := it_t c1_1 hf
    refine lv_tableIn (tgt := 48) hx hb dX2_count_1 (by rw [c1_1]; decide) (by rw [c1_1]; decide) (off := 47) (by rw [c1_1]; decide) (by decide) ?_
    refine lv_aload_n hx hb dX2_count_48 rfl (lv_at hl 0 rfl) ?_
    refine va_get (D := (dC, dI)) (ci := 2) (v := .int hkpt) (C := RX2) (T := TX2) (N := 6) hx hb hts (fun w h => mc (inX2 w h)) hown hK hP 0 rfl rfl 4 (by decide) (hts _ (mc q_58)) (fun _ h9 => h9) rfl dX2_count_49 ?_
    cases hf
    exact retI hx hb hr hlocks trivial hS dX2_count_52
  have hf := it_f c1_1 hf
  by_cases c1_2 : x1 = 2
  · have hf := it_t c1_2 hf
    refine lv_tableIn (tgt := 53) hx hb dX2_count_1 (by rw [c1_2]; decide) (by rw [c1_2]; decide) (off := 52) (by rw [c1_2]; decide) (by decide) ?_
    refine lv_aload_n hx hb dX2_count_53 rfl (lv_at hl 0 rfl) ?_
    refine va_get (D := (dC, dI)) (ci := 2) (v := .ref hg0) (C := RX2) (T := TX2) (N := 6) hx hb hts (fun w h => mc (inX2 w h)) hown hK hP 0 rfl rfl 3 (by decide) (hts _ (mc q_57)) (fun _ h9 => h9) rfl dX2_count_54 ?_
    obtain ⟨r57, hc57, hf⟩ := bn1_e hf
    refine callRi (va_runV (As := []) (rest := []) ⟨hx, hb, hml, hown, hts⟩ (cX0_length_met l dC dI cI hg0 hg1 hgln hgrw r57 hc57) (cwV 0 hts gX2_count_95 rfl rfl rfl (by decide +kernel) ⟨Nat.le_of_ble_eq_true rfl, Nat.le_of_ble_eq_true rfl⟩) (preRV (ci := 0) (q0 := 0) hK (hP.sub (ws' := (wX0 cI hg0 hg1 hgln hgrw)) [15, 16] rfl) rfl rfl) rfl rfl hl.1 rfl (lv_room (Nat.le_of_ble_eq_true rfl)) dX2_count_57 ⟨Nat.le_of_ble_eq_true rfl, Nat.le_of_ble_eq_true rfl⟩) hS hP (fun H locs hP hS => ?_)
    cases hf
    exact retI hx hb hr hlocks trivial hS dX2_count_60
  have hf := it_f c1_2 hf
  by_cases c1_3 : x1 = 3
  · have hf := it_t c1_3 hf
    refine lv_tableIn (tgt := 61) hx hb dX2_count_1 (by rw [c1_3]; decide) (by rw [c1_3]; decide) (off := 60) (by rw [c1_3]; decide) (by decide) ?_
    refine lv_aload_n hx hb dX2_count_61 rfl (lv_at hl 0 rfl) ?_
    refine va_get (D := (dC, dI)) (ci := 2) (v := .int hsyn) (C := RX2) (T := TX2) (N := 6) hx hb hts (fun w h => mc (inX2 w h)) hown hK hP 0 rfl rfl 5 (by decide) (hts _ (mc q_59)) (fun _ h9 => h9) rfl dX2_count_62 ?_
    cases hf
    exact retI hx hb hr hlocks trivial hS dX2_count_65
  have hf := it_f c1_3 hf
  by_cases c1_4 : x1 = 4
  · have hf := it_t c1_4 hf
    refine lv_tableIn (tgt := 66) hx hb dX2_count_1 (by rw [c1_4]; decide) (by rw [c1_4]; decide) (off := 65) (by rw [c1_4]; decide) (by decide) ?_
    refine lv_aload_n hx hb dX2_count_66 rfl (lv_at hl 0 rfl) ?_
    refine va_get (D := (dC, dI)) (ci := 2) (v := .ref ht0) (C := RX2) (T := TX2) (N := 6) hx hb hts (fun w h => mc (inX2 w h)) hown hK hP 0 rfl rfl 1 (by decide) (hts _ (mc q_55)) (fun _ h9 => h9) rfl dX2_count_67 ?_
    obtain ⟨r70, hc70, hf⟩ := bn1_e hf
    refine callRi (va_runV (As := []) (rest := []) ⟨hx, hb, hml, hown, hts⟩ (cX1_nodesThere_met l dC dI cI ht0 ht1 ht2 ht3 ht4 ht5 ht6 htkd htsz htlk hthm httg htvl r70 hc70) (cwV 0 hts gX2_count_120 rfl rfl rfl (by decide +kernel) ⟨Nat.le_of_ble_eq_true rfl, Nat.le_of_ble_eq_true rfl⟩) (preRV (ci := 1) (q0 := 0) hK (hP.sub (ws' := (wX1 cI ht0 ht1 ht2 ht3 ht4 ht5 ht6 htkd htsz htlk hthm httg htvl)) [1, 2, 3, 4, 5, 6, 7] rfl) rfl rfl) rfl rfl hl.1 rfl (lv_room (Nat.le_of_ble_eq_true rfl)) dX2_count_70 ⟨Nat.le_of_ble_eq_true rfl, Nat.le_of_ble_eq_true rfl⟩) hS hP (fun H locs hP hS => ?_)
    cases hf
    exact retI hx hb hr hlocks trivial hS dX2_count_73
  have hf := it_f c1_4 hf
  by_cases c1_5 : x1 = 5
  · have hf := it_t c1_5 hf
    refine lv_tableIn (tgt := 74) hx hb dX2_count_1 (by rw [c1_5]; decide) (by rw [c1_5]; decide) (off := 73) (by rw [c1_5]; decide) (by decide) ?_
    refine lv_aload_n hx hb dX2_count_74 rfl (lv_at hl 0 rfl) ?_
    refine va_get (D := (dC, dI)) (ci := 2) (v := .int hlim) (C := RX2) (T := TX2) (N := 6) hx hb hts (fun w h => mc (inX2 w h)) hown hK hP 0 rfl rfl 0 (by decide) (hts _ (mc q_54)) (fun _ h9 => h9) rfl dX2_count_75 ?_
    cases hf
    exact retI hx hb hr hlocks trivial hS dX2_count_78
  have hf := it_f c1_5 hf
  have t0 := lv_neT (a := 0) c1_0 (by decide)
  have t1 := lv_neT (a := 1) c1_1 (by decide)
  have t2 := lv_neT (a := 2) c1_2 (by decide)
  have t3 := lv_neT (a := 3) c1_3 (by decide)
  have t4 := lv_neT (a := 4) c1_4 (by decide)
  have t5 := lv_neT (a := 5) c1_5 (by decide)
  refine lv_tableOut (tgt := 79) hx hb dX2_count_1 (by omega) (by decide) ?_
  refine lv_iconst (v := -1) hx hb dX2_count_79 (by decide) ?_
  cases hf
  exact retI hx hb hr hlocks trivial hS dX2_count_80
end
