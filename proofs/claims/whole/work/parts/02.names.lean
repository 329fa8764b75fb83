def wT : List Cond := lw_tbl.filter goodWord
theorem wT_in {w : Cond} (h : w ∈ wT) : w ∈ lw_tbl := (List.mem_filter.mp h).1
theorem wT_g {w : Cond} (h : w ∈ wT) : goodWord w = true := (List.mem_filter.mp h).2
theorem lw_a {w : Cond} (h : w ∈ tables_1_1) (g : goodWord w = true) : w ∈ wT := List.mem_filter.mpr ⟨List.mem_append_right _ (List.mem_append_left _ h), g⟩
theorem lw_b {w : Cond} (h : w ∈ tables_1_2) (g : goodWord w = true) : w ∈ wT := List.mem_filter.mpr ⟨List.mem_append_right _ (List.mem_append_right _ h), g⟩
theorem lw_s {w : Cond} (h : w ∈ k2_sels lw_privs) (g : goodWord w = true) : w ∈ wT := List.mem_filter.mpr ⟨List.mem_append_left _ h, g⟩
theorem mc {a w : Cond} (h : w ∈ wT) : w ∈ a :: wT := List.mem_cons_of_mem _ h
theorem gIn {a : Cond} {ws : List Cond} (h : ∀ w ∈ ws, w ∈ wT) : GoodIn (a :: wT) ws := fun w hw => ⟨mc (h w hw), good_of_word (wT_g (h w hw))⟩
theorem gInL {ws : List Cond} (h : ∀ w ∈ ws, w ∈ wT) : GoodIn lw_tbl ws := fun w hw => ⟨wT_in (h w hw), good_of_word (wT_g (h w hw))⟩
theorem memV {own C : String} {idx n : Nat} {y : MethodName} {c : ByteArray} {r : Option FieldType} (h1 : Cond.methodLink own idx y ∈ wT) (h2 : Cond.instanceMethod y ∈ wT) (h3 : Cond.selects C y y ∈ wT) (h4 : Cond.initialized C ∈ wT) (h5 : Cond.code y c n r ∈ wT) : ∀ w ∈ wsV own idx C y (Cond.code y c n r :: wT), w ∈ wT := by
  intro w hw
  unfold wsV at hw
  rcases List.mem_append.mp hw with h | h
  · rcases List.mem_cons.mp h with rfl | h
    · exact h1
    rcases List.mem_cons.mp h with rfl | h
    · exact h2
    rcases List.mem_cons.mp h with rfl | h
    · exact h3
    rcases List.mem_cons.mp h with rfl | h
    · exact h4
    · cases h
  · rcases List.mem_cons.mp h with rfl | h
    · exact h5
    · exact h
theorem memS {own : String} {idx n : Nat} {y : MethodName} {c : ByteArray} {r : Option FieldType} (h1 : Cond.methodLink own idx y ∈ wT) (h2 : Cond.static y ∈ wT) (h4 : Cond.initialized own ∈ wT) (h5 : Cond.code y c n r ∈ wT) : ∀ w ∈ wsS own idx y (Cond.code y c n r :: wT), w ∈ wT := by
  intro w hw
  unfold wsS at hw
  rcases List.mem_append.mp hw with h | h
  · rcases List.mem_cons.mp h with rfl | h
    · exact h1
    rcases List.mem_cons.mp h with rfl | h
    · exact h2
    rcases List.mem_cons.mp h with rfl | h
    · exact h4
    · cases h
  · rcases List.mem_cons.mp h with rfl | h
    · exact h5
    · exact h
theorem memI {n : Nat} {y : MethodName} {c : ByteArray} {r : Option FieldType} (h5 : Cond.code y c n r ∈ wT) : ∀ w ∈ (Cond.code y c n r :: wT), w ∈ wT := by
  intro w h
  rcases List.mem_cons.mp h with rfl | h
  · exact h5
  · exact h
abbrev RX0 : String := "AppendOnlyTree$Log"
def TX0 : u_T := fun k => match k with
  | 0 => ("AppendOnlyTree$Log", "rows", "[I", true)
  | _ => ("AppendOnlyTree$Log", "length", "I", false)
def tyX0 : Nat → FieldType := fun k => match k with
  | 0 => .array .int
  | _ => .int
abbrev wsX00 : List Cond := u_ws RX0 TX0 2
theorem nmX0 : ∀ a, a < 2 → ∀ b, b < 2 → a ≠ b → (TX0 a).2.1 ≠ (TX0 b).2.1 := by decide +kernel
theorem inX0 : ∀ w ∈ wsX00, w ∈ wT := by decide +kernel
theorem tyX0_ok : ∀ k, k < 2 → parseFieldDescriptor (TX0 k).2.2.1 = some (tyX0 k) := by decide +kernel
abbrev RX1 : String := "AppendOnlyTree$Tree"
def TX1 : u_T := fun k => match k with
  | 0 => ("AppendOnlyTree$Tree", "kinds", "[I", true)
  | 1 => ("AppendOnlyTree$Tree", "sizes", "[I", true)
  | 2 => ("AppendOnlyTree$Tree", "links", "[I", true)
  | 3 => ("AppendOnlyTree$Tree", "homes", "[I", true)
  | 4 => ("AppendOnlyTree$Tree", "targets", "[I", true)
  | _ => ("AppendOnlyTree$Tree", "values", "[I", true)
def tyX1 : Nat → FieldType := fun k => match k with
  | 0 => .array .int
  | 1 => .array .int
  | 2 => .array .int
  | 3 => .array .int
  | 4 => .array .int
  | _ => .array .int
abbrev wsX10 : List Cond := u_ws RX1 TX1 6
theorem nmX1 : ∀ a, a < 6 → ∀ b, b < 6 → a ≠ b → (TX1 a).2.1 ≠ (TX1 b).2.1 := by decide +kernel
theorem inX1 : ∀ w ∈ wsX10, w ∈ wT := by decide +kernel
theorem tyX1_ok : ∀ k, k < 6 → parseFieldDescriptor (TX1 k).2.2.1 = some (tyX1 k) := by decide +kernel
abbrev RX2 : String := "AppendOnlyTree"
def TX2 : u_T := fun k => match k with
  | 0 => ("AppendOnlyTree", "limit", "I", true)
  | 1 => ("AppendOnlyTree", "tree", "LAppendOnlyTree$Tree;", true)
  | 2 => ("AppendOnlyTree", "safe", "LAppendOnlyTree$Tree;", true)
  | 3 => ("AppendOnlyTree", "log", "LAppendOnlyTree$Log;", true)
  | 4 => ("AppendOnlyTree", "kept", "I", false)
  | _ => ("AppendOnlyTree", "syncs", "I", false)
def tyX2 : Nat → FieldType := fun k => match k with
  | 0 => .int
  | 1 => .object "AppendOnlyTree$Tree"
  | 2 => .object "AppendOnlyTree$Tree"
  | 3 => .object "AppendOnlyTree$Log"
  | 4 => .int
  | _ => .int
abbrev wsX20 : List Cond := u_ws RX2 TX2 6
theorem nmX2 : ∀ a, a < 6 → ∀ b, b < 6 → a ≠ b → (TX2 a).2.1 ≠ (TX2 b).2.1 := by decide +kernel
theorem inX2 : ∀ w ∈ wsX20, w ∈ wT := by decide +kernel
theorem tyX2_ok : ∀ k, k < 6 → parseFieldDescriptor (TX2 k).2.2.1 = some (tyX2 k) := by decide +kernel
abbrev RX3 : String := "AppendOnlyTreeModel"
def TX3 : u_T := fun k => match k with
  | 0 => ("AppendOnlyTreeModel", "limit", "I", true)
  | 1 => ("AppendOnlyTreeModel", "kind", "[I", true)
  | 2 => ("AppendOnlyTreeModel", "size", "[I", true)
  | 3 => ("AppendOnlyTreeModel", "content", "[I", true)
  | 4 => ("AppendOnlyTreeModel", "entries", "[I", true)
  | 5 => ("AppendOnlyTreeModel", "kept", "I", false)
  | 6 => ("AppendOnlyTreeModel", "syncs", "I", false)
  | 7 => ("AppendOnlyTreeModel", "changes", "I", false)
  | _ => ("AppendOnlyTreeModel", "change", "[I", true)
def tyX3 : Nat → FieldType := fun k => match k with
  | 0 => .int
  | 1 => .array .int
  | 2 => .array .int
  | 3 => .array .int
  | 4 => .array .int
  | 5 => .int
  | 6 => .int
  | 7 => .int
  | _ => .array .int
abbrev wsX30 : List Cond := u_ws RX3 TX3 9
theorem nmX3 : ∀ a, a < 9 → ∀ b, b < 9 → a ≠ b → (TX3 a).2.1 ≠ (TX3 b).2.1 := by decide +kernel
theorem inX3 : ∀ w ∈ wsX30, w ∈ wT := by decide +kernel
theorem tyX3_ok : ∀ k, k < 9 → parseFieldDescriptor (TX3 k).2.2.1 = some (tyX3 k) := by decide +kernel
abbrev RL : String := "AppendOnlyTreeLaw"
abbrev vwCl : List vw_C := [(RX0, TX0, 2), (RX1, TX1, 6), (RX2, TX2, 6), (RX3, TX3, 9)]
abbrev cX2_init : ByteArray := prog_1_method_1_code
abbrev yX2_init : MethodName := ⟨"AppendOnlyTree", "<init>", "(I)V"⟩
abbrev wsX2_init : List Cond := .code yX2_init cX2_init 3 none :: wT
abbrev cX2_create : ByteArray := prog_1_method_2_code
abbrev yX2_create : MethodName := ⟨"AppendOnlyTree", "create", "(IIZ)I"⟩
abbrev wsX2_create : List Cond := .code yX2_create cX2_create 6 (some .int) :: wT
abbrev cX2_link : ByteArray := prog_1_method_3_code
abbrev yX2_link : MethodName := ⟨"AppendOnlyTree", "link", "(III)I"⟩
abbrev wsX2_link : List Cond := .code yX2_link cX2_link 5 (some .int) :: wT
abbrev cX2_remove : ByteArray := prog_1_method_4_code
abbrev yX2_remove : MethodName := ⟨"AppendOnlyTree", "remove", "(II)I"⟩
abbrev wsX2_remove : List Cond := .code yX2_remove cX2_remove 6 (some .int) :: wT
abbrev cX2_rename : ByteArray := prog_1_method_5_code
abbrev yX2_rename : MethodName := ⟨"AppendOnlyTree", "rename", "(IIII)I"⟩
abbrev wsX2_rename : List Cond := .code yX2_rename cX2_rename 6 (some .int) :: wT
abbrev cX2_write : ByteArray := prog_1_method_6_code
abbrev yX2_write : MethodName := ⟨"AppendOnlyTree", "write", "(III)I"⟩
abbrev wsX2_write : List Cond := .code yX2_write cX2_write 5 (some .int) :: wT
abbrev cX2_cut : ByteArray := prog_1_method_7_code
abbrev yX2_cut : MethodName := ⟨"AppendOnlyTree", "cut", "(II)I"⟩
abbrev wsX2_cut : List Cond := .code yX2_cut cX2_cut 4 (some .int) :: wT
abbrev cX2_sync : ByteArray := prog_1_method_8_code
abbrev yX2_sync : MethodName := ⟨"AppendOnlyTree", "sync", "()I"⟩
abbrev wsX2_sync : List Cond := .code yX2_sync cX2_sync 1 (some .int) :: wT
abbrev cX2_crash : ByteArray := prog_1_method_9_code
abbrev yX2_crash : MethodName := ⟨"AppendOnlyTree", "crash", "(I)I"⟩
abbrev wsX2_crash : List Cond := .code yX2_crash cX2_crash 4 (some .int) :: wT
abbrev cX2_find : ByteArray := prog_1_method_10_code
abbrev yX2_find : MethodName := ⟨"AppendOnlyTree", "find", "(II)I"⟩
abbrev wsX2_find : List Cond := .code yX2_find cX2_find 3 (some .int) :: wT
abbrev cX2_entry : ByteArray := prog_1_method_11_code
abbrev yX2_entry : MethodName := ⟨"AppendOnlyTree", "entry", "(II)I"⟩
abbrev wsX2_entry : List Cond := .code yX2_entry cX2_entry 3 (some .int) :: wT
abbrev cX2_read : ByteArray := prog_1_method_12_code
abbrev yX2_read : MethodName := ⟨"AppendOnlyTree", "read", "(II)J"⟩
abbrev wsX2_read : List Cond := .code yX2_read cX2_read 3 (some .long) :: wT
abbrev cX2_tell : ByteArray := prog_1_method_13_code
abbrev yX2_tell : MethodName := ⟨"AppendOnlyTree", "tell", "(II)I"⟩
abbrev wsX2_tell : List Cond := .code yX2_tell cX2_tell 3 (some .int) :: wT
abbrev cX2_count : ByteArray := prog_1_method_14_code
abbrev yX2_count : MethodName := ⟨"AppendOnlyTree", "count", "(I)I"⟩
abbrev wsX2_count : List Cond := .code yX2_count cX2_count 2 (some .int) :: wT
abbrev cX2_isNode : ByteArray := prog_1_method_15_code
abbrev yX2_isNode : MethodName := ⟨"AppendOnlyTree", "isNode", "(I)Z"⟩
abbrev wsX2_isNode : List Cond := .code yX2_isNode cX2_isNode 1 (some .boolean) :: wT
abbrev cX2_isName : ByteArray := prog_1_method_16_code
abbrev yX2_isName : MethodName := ⟨"AppendOnlyTree", "isName", "(I)Z"⟩
abbrev wsX2_isName : List Cond := .code yX2_isName cX2_isName 1 (some .boolean) :: wT
abbrev cX2_costOf : ByteArray := prog_1_method_17_code
abbrev yX2_costOf : MethodName := ⟨"AppendOnlyTree", "costOf", "(II)I"⟩
abbrev wsX2_costOf : List Cond := .code yX2_costOf cX2_costOf 2 (some .int) :: wT
abbrev cX2_makesRoom : ByteArray := prog_1_method_18_code
abbrev yX2_makesRoom : MethodName := ⟨"AppendOnlyTree", "makesRoom", "(II)Z"⟩
abbrev wsX2_makesRoom : List Cond := .code yX2_makesRoom cX2_makesRoom 3 (some .boolean) :: wT
abbrev cX2_perform : ByteArray := prog_1_method_19_code
abbrev yX2_perform : MethodName := ⟨"AppendOnlyTree", "perform", "(IIIIII)V"⟩
abbrev wsX2_perform : List Cond := .code yX2_perform cX2_perform 7 none :: wT
abbrev cX2_countedSync : ByteArray := prog_1_method_20_code
abbrev yX2_countedSync : MethodName := ⟨"AppendOnlyTree", "countedSync", "()V"⟩
abbrev wsX2_countedSync : List Cond := .code yX2_countedSync cX2_countedSync 1 none :: wT
abbrev cX2_startAfresh : ByteArray := prog_1_method_21_code
abbrev yX2_startAfresh : MethodName := ⟨"AppendOnlyTree", "startAfresh", "()V"⟩
abbrev wsX2_startAfresh : List Cond := .code yX2_startAfresh cX2_startAfresh 1 none :: wT
abbrev cX3_init : ByteArray := prog_5_method_1_code
abbrev yX3_init : MethodName := ⟨"AppendOnlyTreeModel", "<init>", "(I)V"⟩
abbrev wsX3_init : List Cond := .code yX3_init cX3_init 4 none :: wT
abbrev cX3_copy : ByteArray := prog_5_method_2_code
abbrev yX3_copy : MethodName := ⟨"AppendOnlyTreeModel", "copy", "(II)V"⟩
abbrev wsX3_copy : List Cond := .code yX3_copy cX3_copy 4 none :: wT
abbrev cX3_out : ByteArray := prog_5_method_3_code
abbrev yX3_out : MethodName := ⟨"AppendOnlyTreeModel", "out", "(II)Z"⟩
abbrev wsX3_out : List Cond := .code yX3_out cX3_out 2 (some .boolean) :: wT
abbrev cX3_live : ByteArray := prog_5_method_4_code
abbrev yX3_live : MethodName := ⟨"AppendOnlyTreeModel", "live", "()I"⟩
abbrev wsX3_live : List Cond := .code yX3_live cX3_live 3 (some .int) :: wT
abbrev cX3_nodes : ByteArray := prog_5_method_5_code
abbrev yX3_nodes : MethodName := ⟨"AppendOnlyTreeModel", "nodes", "()I"⟩
abbrev wsX3_nodes : List Cond := .code yX3_nodes cX3_nodes 3 (some .int) :: wT
abbrev cX3_entryCount : ByteArray := prog_5_method_6_code
abbrev yX3_entryCount : MethodName := ⟨"AppendOnlyTreeModel", "entryCount", "(I)I"⟩
abbrev wsX3_entryCount : List Cond := .code yX3_entryCount cX3_entryCount 4 (some .int) :: wT
abbrev cX3_links : ByteArray := prog_5_method_7_code
abbrev yX3_links : MethodName := ⟨"AppendOnlyTreeModel", "links", "(I)I"⟩
abbrev wsX3_links : List Cond := .code yX3_links cX3_links 4 (some .int) :: wT
abbrev cX3_isDir : ByteArray := prog_5_method_8_code
abbrev yX3_isDir : MethodName := ⟨"AppendOnlyTreeModel", "isDir", "(I)Z"⟩
abbrev wsX3_isDir : List Cond := .code yX3_isDir cX3_isDir 2 (some .boolean) :: wT
abbrev cX3_liesIn : ByteArray := prog_5_method_9_code
abbrev yX3_liesIn : MethodName := ⟨"AppendOnlyTreeModel", "liesIn", "(II)Z"⟩
abbrev wsX3_liesIn : List Cond := .code yX3_liesIn cX3_liesIn 7 (some .boolean) :: wT
abbrev cX3_leastAbsent : ByteArray := prog_5_method_10_code
abbrev yX3_leastAbsent : MethodName := ⟨"AppendOnlyTreeModel", "leastAbsent", "()I"⟩
abbrev wsX3_leastAbsent : List Cond := .code yX3_leastAbsent cX3_leastAbsent 2 (some .int) :: wT
abbrev cX3_objection : ByteArray := prog_5_method_11_code
abbrev yX3_objection : MethodName := ⟨"AppendOnlyTreeModel", "objection", "(IIIII)I"⟩
abbrev wsX3_objection : List Cond := .code yX3_objection cX3_objection 6 (some .int) :: wT
abbrev cX3_cost : ByteArray := prog_5_method_12_code
abbrev yX3_cost : MethodName := ⟨"AppendOnlyTreeModel", "cost", "(IIII)I"⟩
abbrev wsX3_cost : List Cond := .code yX3_cost cX3_cost 5 (some .int) :: wT
abbrev cX3_perform : ByteArray := prog_5_method_13_code
abbrev yX3_perform : MethodName := ⟨"AppendOnlyTreeModel", "perform", "(IIIII)I"⟩
abbrev wsX3_perform : List Cond := .code yX3_perform cX3_perform 7 (some .int) :: wT
abbrev cX3_settle : ByteArray := prog_5_method_14_code
abbrev yX3_settle : MethodName := ⟨"AppendOnlyTreeModel", "settle", "()V"⟩
abbrev wsX3_settle : List Cond := .code yX3_settle cX3_settle 1 none :: wT
abbrev cX3_attempt : ByteArray := prog_5_method_15_code
abbrev yX3_attempt : MethodName := ⟨"AppendOnlyTreeModel", "attempt", "(IIIII)I"⟩
abbrev wsX3_attempt : List Cond := .code yX3_attempt cX3_attempt 10 (some .int) :: wT
abbrev cX3_create : ByteArray := prog_5_method_16_code
abbrev yX3_create : MethodName := ⟨"AppendOnlyTreeModel", "create", "(IIZ)I"⟩
abbrev wsX3_create : List Cond := .code yX3_create cX3_create 4 (some .int) :: wT
abbrev cX3_link : ByteArray := prog_5_method_17_code
abbrev yX3_link : MethodName := ⟨"AppendOnlyTreeModel", "link", "(III)I"⟩
abbrev wsX3_link : List Cond := .code yX3_link cX3_link 4 (some .int) :: wT
abbrev cX3_remove : ByteArray := prog_5_method_18_code
abbrev yX3_remove : MethodName := ⟨"AppendOnlyTreeModel", "remove", "(II)I"⟩
abbrev wsX3_remove : List Cond := .code yX3_remove cX3_remove 3 (some .int) :: wT
abbrev cX3_rename : ByteArray := prog_5_method_19_code
abbrev yX3_rename : MethodName := ⟨"AppendOnlyTreeModel", "rename", "(IIII)I"⟩
abbrev wsX3_rename : List Cond := .code yX3_rename cX3_rename 5 (some .int) :: wT
abbrev cX3_write : ByteArray := prog_5_method_20_code
abbrev yX3_write : MethodName := ⟨"AppendOnlyTreeModel", "write", "(III)I"⟩
abbrev wsX3_write : List Cond := .code yX3_write cX3_write 4 (some .int) :: wT
abbrev cX3_cut : ByteArray := prog_5_method_21_code
abbrev yX3_cut : MethodName := ⟨"AppendOnlyTreeModel", "cut", "(II)I"⟩
abbrev wsX3_cut : List Cond := .code yX3_cut cX3_cut 3 (some .int) :: wT
abbrev cX3_sync : ByteArray := prog_5_method_22_code
abbrev yX3_sync : MethodName := ⟨"AppendOnlyTreeModel", "sync", "()I"⟩
abbrev wsX3_sync : List Cond := .code yX3_sync cX3_sync 1 (some .int) :: wT
abbrev cX3_crash : ByteArray := prog_5_method_23_code
abbrev yX3_crash : MethodName := ⟨"AppendOnlyTreeModel", "crash", "(I)I"⟩
abbrev wsX3_crash : List Cond := .code yX3_crash cX3_crash 4 (some .int) :: wT
abbrev cX3_find : ByteArray := prog_5_method_24_code
abbrev yX3_find : MethodName := ⟨"AppendOnlyTreeModel", "find", "(II)I"⟩
abbrev wsX3_find : List Cond := .code yX3_find cX3_find 3 (some .int) :: wT
abbrev cX3_entry : ByteArray := prog_5_method_25_code
abbrev yX3_entry : MethodName := ⟨"AppendOnlyTreeModel", "entry", "(II)I"⟩
abbrev wsX3_entry : List Cond := .code yX3_entry cX3_entry 5 (some .int) :: wT
abbrev cX3_read : ByteArray := prog_5_method_26_code
abbrev yX3_read : MethodName := ⟨"AppendOnlyTreeModel", "read", "(II)J"⟩
abbrev wsX3_read : List Cond := .code yX3_read cX3_read 3 (some .long) :: wT
abbrev cX3_tell : ByteArray := prog_5_method_27_code
abbrev yX3_tell : MethodName := ⟨"AppendOnlyTreeModel", "tell", "(II)I"⟩
abbrev wsX3_tell : List Cond := .code yX3_tell cX3_tell 3 (some .int) :: wT
abbrev cX3_count : ByteArray := prog_5_method_28_code
abbrev yX3_count : MethodName := ⟨"AppendOnlyTreeModel", "count", "(I)I"⟩
abbrev wsX3_count : List Cond := .code yX3_count cX3_count 2 (some .int) :: wT
abbrev cX0_init : ByteArray := prog_2_method_1_code
abbrev yX0_init : MethodName := ⟨"AppendOnlyTree$Log", "<init>", "()V"⟩
abbrev wsX0_init : List Cond := .code yX0_init cX0_init 1 none :: wT
abbrev cX0_length : ByteArray := prog_2_method_2_code
abbrev yX0_length : MethodName := ⟨"AppendOnlyTree$Log", "length", "()I"⟩
abbrev wsX0_length : List Cond := .code yX0_length cX0_length 1 (some .int) :: wT
abbrev cX0_clear : ByteArray := prog_2_method_3_code
abbrev yX0_clear : MethodName := ⟨"AppendOnlyTree$Log", "clear", "()V"⟩
abbrev wsX0_clear : List Cond := .code yX0_clear cX0_clear 1 none :: wT
abbrev cX0_append : ByteArray := prog_2_method_4_code
abbrev yX0_append : MethodName := ⟨"AppendOnlyTree$Log", "append", "(IIIII)V"⟩
abbrev wsX0_append : List Cond := .code yX0_append cX0_append 7 none :: wT
abbrev cX0_redo : ByteArray := prog_2_method_5_code
abbrev yX0_redo : MethodName := ⟨"AppendOnlyTree$Log", "redo", "(ILAppendOnlyTree$Tree;)V"⟩
abbrev wsX0_redo : List Cond := .code yX0_redo cX0_redo 8 none :: wT
abbrev cX1_init : ByteArray := prog_3_method_1_code
abbrev yX1_init : MethodName := ⟨"AppendOnlyTree$Tree", "<init>", "()V"⟩
abbrev wsX1_init : List Cond := .code yX1_init cX1_init 1 none :: wT
abbrev cX1_copyFrom : ByteArray := prog_3_method_2_code
abbrev yX1_copyFrom : MethodName := ⟨"AppendOnlyTree$Tree", "copyFrom", "(LAppendOnlyTree$Tree;)V"⟩
abbrev wsX1_copyFrom : List Cond := .code yX1_copyFrom cX1_copyFrom 2 none :: wT
abbrev cX1_kind : ByteArray := prog_3_method_3_code
abbrev yX1_kind : MethodName := ⟨"AppendOnlyTree$Tree", "kind", "(I)I"⟩
abbrev wsX1_kind : List Cond := .code yX1_kind cX1_kind 2 (some .int) :: wT
abbrev cX1_isFile : ByteArray := prog_3_method_4_code
abbrev yX1_isFile : MethodName := ⟨"AppendOnlyTree$Tree", "isFile", "(I)Z"⟩
abbrev wsX1_isFile : List Cond := .code yX1_isFile cX1_isFile 2 (some .boolean) :: wT
abbrev cX1_isDirectory : ByteArray := prog_3_method_5_code
abbrev yX1_isDirectory : MethodName := ⟨"AppendOnlyTree$Tree", "isDirectory", "(I)Z"⟩
abbrev wsX1_isDirectory : List Cond := .code yX1_isDirectory cX1_isDirectory 2 (some .boolean) :: wT
abbrev cX1_size : ByteArray := prog_3_method_6_code
abbrev yX1_size : MethodName := ⟨"AppendOnlyTree$Tree", "size", "(I)I"⟩
abbrev wsX1_size : List Cond := .code yX1_size cX1_size 2 (some .int) :: wT
abbrev cX1_links : ByteArray := prog_3_method_7_code
abbrev yX1_links : MethodName := ⟨"AppendOnlyTree$Tree", "links", "(I)I"⟩
abbrev wsX1_links : List Cond := .code yX1_links cX1_links 2 (some .int) :: wT
abbrev cX1_target : ByteArray := prog_3_method_8_code
abbrev yX1_target : MethodName := ⟨"AppendOnlyTree$Tree", "target", "(II)I"⟩
abbrev wsX1_target : List Cond := .code yX1_target cX1_target 3 (some .int) :: wT
abbrev cX1_value : ByteArray := prog_3_method_9_code
abbrev yX1_value : MethodName := ⟨"AppendOnlyTree$Tree", "value", "(II)I"⟩
abbrev wsX1_value : List Cond := .code yX1_value cX1_value 3 (some .int) :: wT
abbrev cX1_nthName : ByteArray := prog_3_method_10_code
abbrev yX1_nthName : MethodName := ⟨"AppendOnlyTree$Tree", "nthName", "(II)I"⟩
abbrev wsX1_nthName : List Cond := .code yX1_nthName cX1_nthName 5 (some .int) :: wT
abbrev cX1_leastFreeNode : ByteArray := prog_3_method_11_code
abbrev yX1_leastFreeNode : MethodName := ⟨"AppendOnlyTree$Tree", "leastFreeNode", "()I"⟩
abbrev wsX1_leastFreeNode : List Cond := .code yX1_leastFreeNode cX1_leastFreeNode 2 (some .int) :: wT
abbrev cX1_nodesThere : ByteArray := prog_3_method_12_code
abbrev yX1_nodesThere : MethodName := ⟨"AppendOnlyTree$Tree", "nodesThere", "()I"⟩
abbrev wsX1_nodesThere : List Cond := .code yX1_nodesThere cX1_nodesThere 3 (some .int) :: wT
abbrev cX1_blocks : ByteArray := prog_3_method_13_code
abbrev yX1_blocks : MethodName := ⟨"AppendOnlyTree$Tree", "blocks", "(I)I"⟩
abbrev wsX1_blocks : List Cond := .code yX1_blocks cX1_blocks 2 (some .int) :: wT
abbrev cX1_live : ByteArray := prog_3_method_14_code
abbrev yX1_live : MethodName := ⟨"AppendOnlyTree$Tree", "live", "()I"⟩
abbrev wsX1_live : List Cond := .code yX1_live cX1_live 3 (some .int) :: wT
abbrev cX1_liesIn : ByteArray := prog_3_method_15_code
abbrev yX1_liesIn : MethodName := ⟨"AppendOnlyTree$Tree", "liesIn", "(II)Z"⟩
abbrev wsX1_liesIn : List Cond := .code yX1_liesIn cX1_liesIn 5 (some .boolean) :: wT
abbrev cX1_addNode : ByteArray := prog_3_method_16_code
abbrev yX1_addNode : MethodName := ⟨"AppendOnlyTree$Tree", "addNode", "(III)V"⟩
abbrev wsX1_addNode : List Cond := .code yX1_addNode cX1_addNode 5 none :: wT
abbrev cX1_addEntry : ByteArray := prog_3_method_17_code
abbrev yX1_addEntry : MethodName := ⟨"AppendOnlyTree$Tree", "addEntry", "(III)V"⟩
abbrev wsX1_addEntry : List Cond := .code yX1_addEntry cX1_addEntry 4 none :: wT
abbrev cX1_dropEntry : ByteArray := prog_3_method_18_code
abbrev yX1_dropEntry : MethodName := ⟨"AppendOnlyTree$Tree", "dropEntry", "(II)V"⟩
abbrev wsX1_dropEntry : List Cond := .code yX1_dropEntry cX1_dropEntry 4 none :: wT
abbrev cX1_moveEntry : ByteArray := prog_3_method_19_code
abbrev yX1_moveEntry : MethodName := ⟨"AppendOnlyTree$Tree", "moveEntry", "(IIII)V"⟩
abbrev wsX1_moveEntry : List Cond := .code yX1_moveEntry cX1_moveEntry 6 none :: wT
abbrev cX1_setInt : ByteArray := prog_3_method_20_code
abbrev yX1_setInt : MethodName := ⟨"AppendOnlyTree$Tree", "setInt", "(III)V"⟩
abbrev wsX1_setInt : List Cond := .code yX1_setInt cX1_setInt 4 none :: wT
abbrev cX1_setSize : ByteArray := prog_3_method_21_code
abbrev yX1_setSize : MethodName := ⟨"AppendOnlyTree$Tree", "setSize", "(II)V"⟩
abbrev wsX1_setSize : List Cond := .code yX1_setSize cX1_setSize 3 none :: wT
abbrev cX1_takeEntry : ByteArray := prog_3_method_22_code
abbrev yX1_takeEntry : MethodName := ⟨"AppendOnlyTree$Tree", "takeEntry", "(II)I"⟩
abbrev wsX1_takeEntry : List Cond := .code yX1_takeEntry cX1_takeEntry 4 (some .int) :: wT
abbrev cL_cell : ByteArray := method_2_code
abbrev yL_cell : MethodName := ⟨"AppendOnlyTreeLaw", "cell", "([II)I"⟩
abbrev wsL_cell : List Cond := .code yL_cell cL_cell 2 (some .int) :: wT
abbrev cL_law : ByteArray := code
abbrev yL_law : MethodName := ⟨"AppendOnlyTreeLaw", "law", "([I)Z"⟩
theorem q_0 : ((Jvm.Cond.initialized "AppendOnlyTreeLaw") : Cond) ∈ wT := lw_a (List.mem_of_getElem? (i := 0) rfl) rfl
theorem q_1 : ((Jvm.Cond.initialized "AppendOnlyTree") : Cond) ∈ wT := lw_a (List.mem_of_getElem? (i := 1) rfl) rfl
theorem q_2 : ((Jvm.Cond.initialized "java/lang/Math") : Cond) ∈ wT := lw_a (List.mem_of_getElem? (i := 2) rfl) rfl
theorem q_3 : ((Jvm.Cond.initialized "AppendOnlyTree$Tree") : Cond) ∈ wT := lw_a (List.mem_of_getElem? (i := 3) rfl) rfl
theorem q_4 : ((Jvm.Cond.initialized "AppendOnlyTree$Log") : Cond) ∈ wT := lw_a (List.mem_of_getElem? (i := 4) rfl) rfl
theorem q_5 : ((Jvm.Cond.initialized "AppendOnlyTreeModel") : Cond) ∈ wT := lw_a (List.mem_of_getElem? (i := 5) rfl) rfl
theorem q_6 : ((Jvm.Cond.initialized "java/lang/System") : Cond) ∈ wT := lw_a (List.mem_of_getElem? (i := 6) rfl) rfl
theorem q_7 : ((Jvm.Cond.classLink "AppendOnlyTreeLaw" (7 : Nat) "AppendOnlyTree") : Cond) ∈ wT := lw_a (List.mem_of_getElem? (i := 7) rfl) rfl
theorem q_8 : ((Jvm.Cond.instantiable "AppendOnlyTree" (6 : Nat)) : Cond) ∈ wT := lw_a (List.mem_of_getElem? (i := 8) rfl) rfl
theorem q_9 : ((Jvm.Cond.methodLink "AppendOnlyTreeLaw" (15 : Nat) ({ cls := "AppendOnlyTree", name := "<init>", desc := "(I)V" } : Jvm.MethodName)) : Cond) ∈ wT := lw_a (List.mem_of_getElem? (i := 9) rfl) rfl
theorem q_10 : ((Jvm.Cond.instanceMethod ({ cls := "AppendOnlyTree", name := "<init>", desc := "(I)V" } : Jvm.MethodName)) : Cond) ∈ wT := lw_a (List.mem_of_getElem? (i := 10) rfl) rfl
theorem q_11 : ((Jvm.Cond.code ({ cls := "AppendOnlyTree", name := "<init>", desc := "(I)V" } : Jvm.MethodName) prog_1_method_1_code (3 : Nat) (Option.none : Option Jvm.ClassFile.FieldType)) : Cond) ∈ wT := lw_a (List.mem_of_getElem? (i := 11) rfl) rfl
theorem q_12 : ((Jvm.Cond.methodLink "AppendOnlyTree" (1 : Nat) ({ cls := "java/lang/Object", name := "<init>", desc := "()V" } : Jvm.MethodName)) : Cond) ∈ wT := lw_a (List.mem_of_getElem? (i := 12) rfl) rfl
theorem q_13 : ((Jvm.Cond.instanceMethod ({ cls := "java/lang/Object", name := "<init>", desc := "()V" } : Jvm.MethodName)) : Cond) ∈ wT := lw_a (List.mem_of_getElem? (i := 13) rfl) rfl
theorem q_14 : ((Jvm.Cond.code ({ cls := "java/lang/Object", name := "<init>", desc := "()V" } : Jvm.MethodName) object_method_1_code (1 : Nat) (Option.none : Option Jvm.ClassFile.FieldType)) : Cond) ∈ wT := lw_a (List.mem_of_getElem? (i := 14) rfl) rfl
theorem q_15 : ((Jvm.Cond.methodLink "AppendOnlyTree" (9 : Nat) ({ cls := "java/lang/Math", name := "min", desc := "(II)I" } : Jvm.MethodName)) : Cond) ∈ wT := lw_a (List.mem_of_getElem? (i := 15) rfl) rfl
theorem q_16 : ((Jvm.Cond.static ({ cls := "java/lang/Math", name := "min", desc := "(II)I" } : Jvm.MethodName)) : Cond) ∈ wT := lw_a (List.mem_of_getElem? (i := 16) rfl) rfl
theorem q_17 : ((Jvm.Cond.code ({ cls := "java/lang/Math", name := "min", desc := "(II)I" } : Jvm.MethodName) prog_6_method_69_code (2 : Nat) (Option.some Jvm.ClassFile.FieldType.int)) : Cond) ∈ wT := lw_a (List.mem_of_getElem? (i := 17) rfl) rfl
theorem q_18 : ((Jvm.Cond.methodLink "AppendOnlyTree" (15 : Nat) ({ cls := "java/lang/Math", name := "max", desc := "(II)I" } : Jvm.MethodName)) : Cond) ∈ wT := lw_a (List.mem_of_getElem? (i := 18) rfl) rfl
theorem q_19 : ((Jvm.Cond.static ({ cls := "java/lang/Math", name := "max", desc := "(II)I" } : Jvm.MethodName)) : Cond) ∈ wT := lw_a (List.mem_of_getElem? (i := 19) rfl) rfl
theorem q_20 : ((Jvm.Cond.code ({ cls := "java/lang/Math", name := "max", desc := "(II)I" } : Jvm.MethodName) prog_6_method_65_code (2 : Nat) (Option.some Jvm.ClassFile.FieldType.int)) : Cond) ∈ wT := lw_a (List.mem_of_getElem? (i := 20) rfl) rfl
theorem q_21 : ((Jvm.Cond.classLink "AppendOnlyTree" (22 : Nat) "AppendOnlyTree$Tree") : Cond) ∈ wT := lw_a (List.mem_of_getElem? (i := 21) rfl) rfl
theorem q_22 : ((Jvm.Cond.instantiable "AppendOnlyTree$Tree" (6 : Nat)) : Cond) ∈ wT := lw_a (List.mem_of_getElem? (i := 22) rfl) rfl
theorem q_23 : ((Jvm.Cond.methodLink "AppendOnlyTree" (24 : Nat) ({ cls := "AppendOnlyTree$Tree", name := "<init>", desc := "()V" } : Jvm.MethodName)) : Cond) ∈ wT := lw_a (List.mem_of_getElem? (i := 23) rfl) rfl
theorem q_24 : ((Jvm.Cond.instanceMethod ({ cls := "AppendOnlyTree$Tree", name := "<init>", desc := "()V" } : Jvm.MethodName)) : Cond) ∈ wT := lw_a (List.mem_of_getElem? (i := 24) rfl) rfl
theorem q_25 : ((Jvm.Cond.code ({ cls := "AppendOnlyTree$Tree", name := "<init>", desc := "()V" } : Jvm.MethodName) prog_3_method_1_code (1 : Nat) (Option.none : Option Jvm.ClassFile.FieldType)) : Cond) ∈ wT := lw_a (List.mem_of_getElem? (i := 25) rfl) rfl
theorem q_26 : ((Jvm.Cond.methodLink "AppendOnlyTree$Tree" (3 : Nat) ({ cls := "java/lang/Object", name := "<init>", desc := "()V" } : Jvm.MethodName)) : Cond) ∈ wT := lw_a (List.mem_of_getElem? (i := 26) rfl) rfl
theorem q_27 : ((Jvm.Cond.fieldLink "AppendOnlyTree$Tree" (9 : Nat) "AppendOnlyTree$Tree" "kinds" "[I") : Cond) ∈ wT := lw_a (List.mem_of_getElem? (i := 27) rfl) rfl
theorem q_28 : ((Jvm.Cond.fieldLink "AppendOnlyTree$Tree" (15 : Nat) "AppendOnlyTree$Tree" "sizes" "[I") : Cond) ∈ wT := lw_a (List.mem_of_getElem? (i := 28) rfl) rfl
theorem q_29 : ((Jvm.Cond.fieldLink "AppendOnlyTree$Tree" (18 : Nat) "AppendOnlyTree$Tree" "links" "[I") : Cond) ∈ wT := lw_a (List.mem_of_getElem? (i := 29) rfl) rfl
theorem q_30 : ((Jvm.Cond.fieldLink "AppendOnlyTree$Tree" (21 : Nat) "AppendOnlyTree$Tree" "homes" "[I") : Cond) ∈ wT := lw_a (List.mem_of_getElem? (i := 30) rfl) rfl
theorem q_31 : ((Jvm.Cond.fieldLink "AppendOnlyTree$Tree" (24 : Nat) "AppendOnlyTree$Tree" "targets" "[I") : Cond) ∈ wT := lw_a (List.mem_of_getElem? (i := 31) rfl) rfl
theorem q_32 : ((Jvm.Cond.fieldLink "AppendOnlyTree$Tree" (27 : Nat) "AppendOnlyTree$Tree" "values" "[I") : Cond) ∈ wT := lw_a (List.mem_of_getElem? (i := 32) rfl) rfl
theorem q_33 : ((Jvm.Cond.arrayClass Jvm.ClassFile.FieldType.int) : Cond) ∈ wT := lw_a (List.mem_of_getElem? (i := 46) rfl) rfl
theorem q_34 : ((Jvm.Cond.classLink "AppendOnlyTree" (32 : Nat) "AppendOnlyTree$Log") : Cond) ∈ wT := lw_a (List.mem_of_getElem? (i := 47) rfl) rfl
theorem q_35 : ((Jvm.Cond.instantiable "AppendOnlyTree$Log" (2 : Nat)) : Cond) ∈ wT := lw_a (List.mem_of_getElem? (i := 48) rfl) rfl
theorem q_36 : ((Jvm.Cond.methodLink "AppendOnlyTree" (34 : Nat) ({ cls := "AppendOnlyTree$Log", name := "<init>", desc := "()V" } : Jvm.MethodName)) : Cond) ∈ wT := lw_a (List.mem_of_getElem? (i := 49) rfl) rfl
theorem q_37 : ((Jvm.Cond.instanceMethod ({ cls := "AppendOnlyTree$Log", name := "<init>", desc := "()V" } : Jvm.MethodName)) : Cond) ∈ wT := lw_a (List.mem_of_getElem? (i := 50) rfl) rfl
theorem q_38 : ((Jvm.Cond.code ({ cls := "AppendOnlyTree$Log", name := "<init>", desc := "()V" } : Jvm.MethodName) prog_2_method_1_code (1 : Nat) (Option.none : Option Jvm.ClassFile.FieldType)) : Cond) ∈ wT := lw_a (List.mem_of_getElem? (i := 51) rfl) rfl
theorem q_39 : ((Jvm.Cond.methodLink "AppendOnlyTree$Log" (3 : Nat) ({ cls := "java/lang/Object", name := "<init>", desc := "()V" } : Jvm.MethodName)) : Cond) ∈ wT := lw_a (List.mem_of_getElem? (i := 52) rfl) rfl
theorem q_40 : ((Jvm.Cond.fieldLink "AppendOnlyTree$Log" (11 : Nat) "AppendOnlyTree$Log" "rows" "[I") : Cond) ∈ wT := lw_a (List.mem_of_getElem? (i := 53) rfl) rfl
theorem q_41 : ((Jvm.Cond.fieldLink "AppendOnlyTree$Log" (15 : Nat) "AppendOnlyTree$Log" "length" "I") : Cond) ∈ wT := lw_a (List.mem_of_getElem? (i := 54) rfl) rfl
theorem q_42 : ((Jvm.Cond.methodLink "AppendOnlyTree" (39 : Nat) ({ cls := "AppendOnlyTree$Tree", name := "live", desc := "()I" } : Jvm.MethodName)) : Cond) ∈ wT := lw_a (List.mem_of_getElem? (i := 60) rfl) rfl
theorem q_43 : ((Jvm.Cond.instanceMethod ({ cls := "AppendOnlyTree$Tree", name := "live", desc := "()I" } : Jvm.MethodName)) : Cond) ∈ wT := lw_a (List.mem_of_getElem? (i := 61) rfl) rfl
theorem q_44 : ((Jvm.Cond.selects "AppendOnlyTree$Tree" ({ cls := "AppendOnlyTree$Tree", name := "live", desc := "()I" } : Jvm.MethodName) ({ cls := "AppendOnlyTree$Tree", name := "live", desc := "()I" } : Jvm.MethodName)) : Cond) ∈ wT := lw_a (List.mem_of_getElem? (i := 62) rfl) rfl
theorem q_45 : ((Jvm.Cond.code ({ cls := "AppendOnlyTree$Tree", name := "live", desc := "()I" } : Jvm.MethodName) prog_3_method_14_code (3 : Nat) (Option.some Jvm.ClassFile.FieldType.int)) : Cond) ∈ wT := lw_a (List.mem_of_getElem? (i := 63) rfl) rfl
theorem q_46 : ((Jvm.Cond.methodLink "AppendOnlyTree$Tree" (44 : Nat) ({ cls := "AppendOnlyTree$Tree", name := "blocks", desc := "(I)I" } : Jvm.MethodName)) : Cond) ∈ wT := lw_a (List.mem_of_getElem? (i := 64) rfl) rfl
theorem q_47 : ((Jvm.Cond.instanceMethod ({ cls := "AppendOnlyTree$Tree", name := "blocks", desc := "(I)I" } : Jvm.MethodName)) : Cond) ∈ wT := lw_a (List.mem_of_getElem? (i := 65) rfl) rfl
theorem q_48 : ((Jvm.Cond.selects "AppendOnlyTree$Tree" ({ cls := "AppendOnlyTree$Tree", name := "blocks", desc := "(I)I" } : Jvm.MethodName) ({ cls := "AppendOnlyTree$Tree", name := "blocks", desc := "(I)I" } : Jvm.MethodName)) : Cond) ∈ wT := lw_a (List.mem_of_getElem? (i := 66) rfl) rfl
theorem q_49 : ((Jvm.Cond.code ({ cls := "AppendOnlyTree$Tree", name := "blocks", desc := "(I)I" } : Jvm.MethodName) prog_3_method_13_code (2 : Nat) (Option.some Jvm.ClassFile.FieldType.int)) : Cond) ∈ wT := lw_a (List.mem_of_getElem? (i := 67) rfl) rfl
theorem q_50 : ((Jvm.Cond.methodLink "AppendOnlyTree$Tree" (40 : Nat) ({ cls := "AppendOnlyTree$Tree", name := "isFile", desc := "(I)Z" } : Jvm.MethodName)) : Cond) ∈ wT := lw_a (List.mem_of_getElem? (i := 68) rfl) rfl
theorem q_51 : ((Jvm.Cond.instanceMethod ({ cls := "AppendOnlyTree$Tree", name := "isFile", desc := "(I)Z" } : Jvm.MethodName)) : Cond) ∈ wT := lw_a (List.mem_of_getElem? (i := 69) rfl) rfl
theorem q_52 : ((Jvm.Cond.selects "AppendOnlyTree$Tree" ({ cls := "AppendOnlyTree$Tree", name := "isFile", desc := "(I)Z" } : Jvm.MethodName) ({ cls := "AppendOnlyTree$Tree", name := "isFile", desc := "(I)Z" } : Jvm.MethodName)) : Cond) ∈ wT := lw_a (List.mem_of_getElem? (i := 70) rfl) rfl
theorem q_53 : ((Jvm.Cond.code ({ cls := "AppendOnlyTree$Tree", name := "isFile", desc := "(I)Z" } : Jvm.MethodName) prog_3_method_4_code (2 : Nat) (Option.some Jvm.ClassFile.FieldType.boolean)) : Cond) ∈ wT := lw_a (List.mem_of_getElem? (i := 71) rfl) rfl
theorem q_54 : ((Jvm.Cond.fieldLink "AppendOnlyTree" (18 : Nat) "AppendOnlyTree" "limit" "I") : Cond) ∈ wT := lw_a (List.mem_of_getElem? (i := 72) rfl) rfl
theorem q_55 : ((Jvm.Cond.fieldLink "AppendOnlyTree" (25 : Nat) "AppendOnlyTree" "tree" "LAppendOnlyTree$Tree;") : Cond) ∈ wT := lw_a (List.mem_of_getElem? (i := 73) rfl) rfl
theorem q_56 : ((Jvm.Cond.fieldLink "AppendOnlyTree" (29 : Nat) "AppendOnlyTree" "safe" "LAppendOnlyTree$Tree;") : Cond) ∈ wT := lw_a (List.mem_of_getElem? (i := 74) rfl) rfl
theorem q_57 : ((Jvm.Cond.fieldLink "AppendOnlyTree" (35 : Nat) "AppendOnlyTree" "log" "LAppendOnlyTree$Log;") : Cond) ∈ wT := lw_a (List.mem_of_getElem? (i := 75) rfl) rfl
theorem q_58 : ((Jvm.Cond.fieldLink "AppendOnlyTree" (43 : Nat) "AppendOnlyTree" "kept" "I") : Cond) ∈ wT := lw_a (List.mem_of_getElem? (i := 76) rfl) rfl
theorem q_59 : ((Jvm.Cond.fieldLink "AppendOnlyTree" (46 : Nat) "AppendOnlyTree" "syncs" "I") : Cond) ∈ wT := lw_a (List.mem_of_getElem? (i := 77) rfl) rfl
theorem q_60 : ((Jvm.Cond.methodLink "AppendOnlyTreeLaw" (21 : Nat) ({ cls := "AppendOnlyTree", name := "create", desc := "(IIZ)I" } : Jvm.MethodName)) : Cond) ∈ wT := lw_a (List.mem_of_getElem? (i := 91) rfl) rfl
theorem q_61 : ((Jvm.Cond.instanceMethod ({ cls := "AppendOnlyTree", name := "create", desc := "(IIZ)I" } : Jvm.MethodName)) : Cond) ∈ wT := lw_a (List.mem_of_getElem? (i := 92) rfl) rfl
theorem q_62 : ((Jvm.Cond.selects "AppendOnlyTree" ({ cls := "AppendOnlyTree", name := "create", desc := "(IIZ)I" } : Jvm.MethodName) ({ cls := "AppendOnlyTree", name := "create", desc := "(IIZ)I" } : Jvm.MethodName)) : Cond) ∈ wT := lw_a (List.mem_of_getElem? (i := 93) rfl) rfl
theorem q_63 : ((Jvm.Cond.code ({ cls := "AppendOnlyTree", name := "create", desc := "(IIZ)I" } : Jvm.MethodName) prog_1_method_2_code (6 : Nat) (Option.some Jvm.ClassFile.FieldType.int)) : Cond) ∈ wT := lw_a (List.mem_of_getElem? (i := 94) rfl) rfl
theorem q_64 : ((Jvm.Cond.methodLink "AppendOnlyTree" (49 : Nat) ({ cls := "AppendOnlyTree", name := "isNode", desc := "(I)Z" } : Jvm.MethodName)) : Cond) ∈ wT := lw_a (List.mem_of_getElem? (i := 95) rfl) rfl
theorem q_65 : ((Jvm.Cond.static ({ cls := "AppendOnlyTree", name := "isNode", desc := "(I)Z" } : Jvm.MethodName)) : Cond) ∈ wT := lw_a (List.mem_of_getElem? (i := 96) rfl) rfl
theorem q_66 : ((Jvm.Cond.code ({ cls := "AppendOnlyTree", name := "isNode", desc := "(I)Z" } : Jvm.MethodName) prog_1_method_15_code (1 : Nat) (Option.some Jvm.ClassFile.FieldType.boolean)) : Cond) ∈ wT := lw_a (List.mem_of_getElem? (i := 97) rfl) rfl
theorem q_67 : ((Jvm.Cond.methodLink "AppendOnlyTree" (53 : Nat) ({ cls := "AppendOnlyTree", name := "isName", desc := "(I)Z" } : Jvm.MethodName)) : Cond) ∈ wT := lw_a (List.mem_of_getElem? (i := 98) rfl) rfl
theorem q_68 : ((Jvm.Cond.static ({ cls := "AppendOnlyTree", name := "isName", desc := "(I)Z" } : Jvm.MethodName)) : Cond) ∈ wT := lw_a (List.mem_of_getElem? (i := 99) rfl) rfl
theorem q_69 : ((Jvm.Cond.code ({ cls := "AppendOnlyTree", name := "isName", desc := "(I)Z" } : Jvm.MethodName) prog_1_method_16_code (1 : Nat) (Option.some Jvm.ClassFile.FieldType.boolean)) : Cond) ∈ wT := lw_a (List.mem_of_getElem? (i := 100) rfl) rfl
theorem q_70 : ((Jvm.Cond.methodLink "AppendOnlyTree" (56 : Nat) ({ cls := "AppendOnlyTree$Tree", name := "isDirectory", desc := "(I)Z" } : Jvm.MethodName)) : Cond) ∈ wT := lw_a (List.mem_of_getElem? (i := 101) rfl) rfl
theorem q_71 : ((Jvm.Cond.instanceMethod ({ cls := "AppendOnlyTree$Tree", name := "isDirectory", desc := "(I)Z" } : Jvm.MethodName)) : Cond) ∈ wT := lw_a (List.mem_of_getElem? (i := 102) rfl) rfl
theorem q_72 : ((Jvm.Cond.selects "AppendOnlyTree$Tree" ({ cls := "AppendOnlyTree$Tree", name := "isDirectory", desc := "(I)Z" } : Jvm.MethodName) ({ cls := "AppendOnlyTree$Tree", name := "isDirectory", desc := "(I)Z" } : Jvm.MethodName)) : Cond) ∈ wT := lw_a (List.mem_of_getElem? (i := 103) rfl) rfl
theorem q_73 : ((Jvm.Cond.code ({ cls := "AppendOnlyTree$Tree", name := "isDirectory", desc := "(I)Z" } : Jvm.MethodName) prog_3_method_5_code (2 : Nat) (Option.some Jvm.ClassFile.FieldType.boolean)) : Cond) ∈ wT := lw_a (List.mem_of_getElem? (i := 104) rfl) rfl
theorem q_74 : ((Jvm.Cond.methodLink "AppendOnlyTree" (59 : Nat) ({ cls := "AppendOnlyTree$Tree", name := "target", desc := "(II)I" } : Jvm.MethodName)) : Cond) ∈ wT := lw_a (List.mem_of_getElem? (i := 105) rfl) rfl
theorem q_75 : ((Jvm.Cond.instanceMethod ({ cls := "AppendOnlyTree$Tree", name := "target", desc := "(II)I" } : Jvm.MethodName)) : Cond) ∈ wT := lw_a (List.mem_of_getElem? (i := 106) rfl) rfl
theorem q_76 : ((Jvm.Cond.selects "AppendOnlyTree$Tree" ({ cls := "AppendOnlyTree$Tree", name := "target", desc := "(II)I" } : Jvm.MethodName) ({ cls := "AppendOnlyTree$Tree", name := "target", desc := "(II)I" } : Jvm.MethodName)) : Cond) ∈ wT := lw_a (List.mem_of_getElem? (i := 107) rfl) rfl
theorem q_77 : ((Jvm.Cond.code ({ cls := "AppendOnlyTree$Tree", name := "target", desc := "(II)I" } : Jvm.MethodName) prog_3_method_8_code (3 : Nat) (Option.some Jvm.ClassFile.FieldType.int)) : Cond) ∈ wT := lw_a (List.mem_of_getElem? (i := 108) rfl) rfl
theorem q_78 : ((Jvm.Cond.methodLink "AppendOnlyTree" (62 : Nat) ({ cls := "AppendOnlyTree$Tree", name := "leastFreeNode", desc := "()I" } : Jvm.MethodName)) : Cond) ∈ wT := lw_a (List.mem_of_getElem? (i := 109) rfl) rfl
theorem q_79 : ((Jvm.Cond.instanceMethod ({ cls := "AppendOnlyTree$Tree", name := "leastFreeNode", desc := "()I" } : Jvm.MethodName)) : Cond) ∈ wT := lw_a (List.mem_of_getElem? (i := 110) rfl) rfl
theorem q_80 : ((Jvm.Cond.selects "AppendOnlyTree$Tree" ({ cls := "AppendOnlyTree$Tree", name := "leastFreeNode", desc := "()I" } : Jvm.MethodName) ({ cls := "AppendOnlyTree$Tree", name := "leastFreeNode", desc := "()I" } : Jvm.MethodName)) : Cond) ∈ wT := lw_a (List.mem_of_getElem? (i := 111) rfl) rfl
theorem q_81 : ((Jvm.Cond.code ({ cls := "AppendOnlyTree$Tree", name := "leastFreeNode", desc := "()I" } : Jvm.MethodName) prog_3_method_11_code (2 : Nat) (Option.some Jvm.ClassFile.FieldType.int)) : Cond) ∈ wT := lw_a (List.mem_of_getElem? (i := 112) rfl) rfl
theorem q_82 : ((Jvm.Cond.methodLink "AppendOnlyTree" (65 : Nat) ({ cls := "AppendOnlyTree$Tree", name := "size", desc := "(I)I" } : Jvm.MethodName)) : Cond) ∈ wT := lw_a (List.mem_of_getElem? (i := 113) rfl) rfl
theorem q_83 : ((Jvm.Cond.instanceMethod ({ cls := "AppendOnlyTree$Tree", name := "size", desc := "(I)I" } : Jvm.MethodName)) : Cond) ∈ wT := lw_a (List.mem_of_getElem? (i := 114) rfl) rfl
theorem q_84 : ((Jvm.Cond.selects "AppendOnlyTree$Tree" ({ cls := "AppendOnlyTree$Tree", name := "size", desc := "(I)I" } : Jvm.MethodName) ({ cls := "AppendOnlyTree$Tree", name := "size", desc := "(I)I" } : Jvm.MethodName)) : Cond) ∈ wT := lw_a (List.mem_of_getElem? (i := 115) rfl) rfl
theorem q_85 : ((Jvm.Cond.code ({ cls := "AppendOnlyTree$Tree", name := "size", desc := "(I)I" } : Jvm.MethodName) prog_3_method_6_code (2 : Nat) (Option.some Jvm.ClassFile.FieldType.int)) : Cond) ∈ wT := lw_a (List.mem_of_getElem? (i := 116) rfl) rfl
theorem q_86 : ((Jvm.Cond.methodLink "AppendOnlyTree" (69 : Nat) ({ cls := "AppendOnlyTree", name := "costOf", desc := "(II)I" } : Jvm.MethodName)) : Cond) ∈ wT := lw_a (List.mem_of_getElem? (i := 117) rfl) rfl
theorem q_87 : ((Jvm.Cond.static ({ cls := "AppendOnlyTree", name := "costOf", desc := "(II)I" } : Jvm.MethodName)) : Cond) ∈ wT := lw_a (List.mem_of_getElem? (i := 118) rfl) rfl
theorem q_88 : ((Jvm.Cond.code ({ cls := "AppendOnlyTree", name := "costOf", desc := "(II)I" } : Jvm.MethodName) prog_1_method_17_code (2 : Nat) (Option.some Jvm.ClassFile.FieldType.int)) : Cond) ∈ wT := lw_a (List.mem_of_getElem? (i := 119) rfl) rfl
theorem q_89 : ((Jvm.Cond.methodLink "AppendOnlyTree" (72 : Nat) ({ cls := "AppendOnlyTree", name := "makesRoom", desc := "(II)Z" } : Jvm.MethodName)) : Cond) ∈ wT := lw_a (List.mem_of_getElem? (i := 120) rfl) rfl
theorem q_90 : ((Jvm.Cond.instanceMethod ({ cls := "AppendOnlyTree", name := "makesRoom", desc := "(II)Z" } : Jvm.MethodName)) : Cond) ∈ wT := lw_a (List.mem_of_getElem? (i := 122) rfl) rfl
theorem q_91 : ((Jvm.Cond.code ({ cls := "AppendOnlyTree", name := "makesRoom", desc := "(II)Z" } : Jvm.MethodName) prog_1_method_18_code (3 : Nat) (Option.some Jvm.ClassFile.FieldType.boolean)) : Cond) ∈ wT := lw_a (List.mem_of_getElem? (i := 123) rfl) rfl
theorem q_92 : ((Jvm.Cond.methodLink "AppendOnlyTree" (92 : Nat) ({ cls := "AppendOnlyTree", name := "countedSync", desc := "()V" } : Jvm.MethodName)) : Cond) ∈ wT := lw_a (List.mem_of_getElem? (i := 124) rfl) rfl
theorem q_93 : ((Jvm.Cond.instanceMethod ({ cls := "AppendOnlyTree", name := "countedSync", desc := "()V" } : Jvm.MethodName)) : Cond) ∈ wT := lw_a (List.mem_of_getElem? (i := 126) rfl) rfl
theorem q_94 : ((Jvm.Cond.code ({ cls := "AppendOnlyTree", name := "countedSync", desc := "()V" } : Jvm.MethodName) prog_1_method_20_code (1 : Nat) (Option.none : Option Jvm.ClassFile.FieldType)) : Cond) ∈ wT := lw_a (List.mem_of_getElem? (i := 127) rfl) rfl
theorem q_95 : ((Jvm.Cond.methodLink "AppendOnlyTree" (102 : Nat) ({ cls := "AppendOnlyTree$Tree", name := "copyFrom", desc := "(LAppendOnlyTree$Tree;)V" } : Jvm.MethodName)) : Cond) ∈ wT := lw_a (List.mem_of_getElem? (i := 128) rfl) rfl
theorem q_96 : ((Jvm.Cond.instanceMethod ({ cls := "AppendOnlyTree$Tree", name := "copyFrom", desc := "(LAppendOnlyTree$Tree;)V" } : Jvm.MethodName)) : Cond) ∈ wT := lw_a (List.mem_of_getElem? (i := 129) rfl) rfl
theorem q_97 : ((Jvm.Cond.selects "AppendOnlyTree$Tree" ({ cls := "AppendOnlyTree$Tree", name := "copyFrom", desc := "(LAppendOnlyTree$Tree;)V" } : Jvm.MethodName) ({ cls := "AppendOnlyTree$Tree", name := "copyFrom", desc := "(LAppendOnlyTree$Tree;)V" } : Jvm.MethodName)) : Cond) ∈ wT := lw_a (List.mem_of_getElem? (i := 130) rfl) rfl
theorem q_98 : ((Jvm.Cond.code ({ cls := "AppendOnlyTree$Tree", name := "copyFrom", desc := "(LAppendOnlyTree$Tree;)V" } : Jvm.MethodName) prog_3_method_2_code (2 : Nat) (Option.none : Option Jvm.ClassFile.FieldType)) : Cond) ∈ wT := lw_a (List.mem_of_getElem? (i := 131) rfl) rfl
theorem q_99 : ((Jvm.Cond.methodLink "AppendOnlyTree$Tree" (30 : Nat) ({ cls := "java/lang/System", name := "arraycopy", desc := "(Ljava/lang/Object;ILjava/lang/Object;II)V" } : Jvm.MethodName)) : Cond) ∈ wT := lw_a (List.mem_of_getElem? (i := 132) rfl) rfl
theorem q_100 : ((Jvm.Cond.static ({ cls := "java/lang/System", name := "arraycopy", desc := "(Ljava/lang/Object;ILjava/lang/Object;II)V" } : Jvm.MethodName)) : Cond) ∈ wT := lw_a (List.mem_of_getElem? (i := 133) rfl) rfl
theorem q_101 : ((Jvm.Cond.native ({ cls := "java/lang/System", name := "arraycopy", desc := "(Ljava/lang/Object;ILjava/lang/Object;II)V" } : Jvm.MethodName)) : Cond) ∈ wT := lw_a (List.mem_of_getElem? (i := 134) rfl) rfl
theorem q_102 : ((Jvm.Cond.methodLink "AppendOnlyTree" (106 : Nat) ({ cls := "AppendOnlyTree", name := "startAfresh", desc := "()V" } : Jvm.MethodName)) : Cond) ∈ wT := lw_a (List.mem_of_getElem? (i := 135) rfl) rfl
theorem q_103 : ((Jvm.Cond.instanceMethod ({ cls := "AppendOnlyTree", name := "startAfresh", desc := "()V" } : Jvm.MethodName)) : Cond) ∈ wT := lw_a (List.mem_of_getElem? (i := 137) rfl) rfl
theorem q_104 : ((Jvm.Cond.code ({ cls := "AppendOnlyTree", name := "startAfresh", desc := "()V" } : Jvm.MethodName) prog_1_method_21_code (1 : Nat) (Option.none : Option Jvm.ClassFile.FieldType)) : Cond) ∈ wT := lw_a (List.mem_of_getElem? (i := 138) rfl) rfl
theorem q_105 : ((Jvm.Cond.methodLink "AppendOnlyTree" (127 : Nat) ({ cls := "AppendOnlyTree$Log", name := "clear", desc := "()V" } : Jvm.MethodName)) : Cond) ∈ wT := lw_a (List.mem_of_getElem? (i := 139) rfl) rfl
theorem q_106 : ((Jvm.Cond.instanceMethod ({ cls := "AppendOnlyTree$Log", name := "clear", desc := "()V" } : Jvm.MethodName)) : Cond) ∈ wT := lw_a (List.mem_of_getElem? (i := 140) rfl) rfl
theorem q_107 : ((Jvm.Cond.selects "AppendOnlyTree$Log" ({ cls := "AppendOnlyTree$Log", name := "clear", desc := "()V" } : Jvm.MethodName) ({ cls := "AppendOnlyTree$Log", name := "clear", desc := "()V" } : Jvm.MethodName)) : Cond) ∈ wT := lw_a (List.mem_of_getElem? (i := 141) rfl) rfl
theorem q_108 : ((Jvm.Cond.code ({ cls := "AppendOnlyTree$Log", name := "clear", desc := "()V" } : Jvm.MethodName) prog_2_method_3_code (1 : Nat) (Option.none : Option Jvm.ClassFile.FieldType)) : Cond) ∈ wT := lw_a (List.mem_of_getElem? (i := 142) rfl) rfl
theorem q_109 : ((Jvm.Cond.methodLink "AppendOnlyTree" (76 : Nat) ({ cls := "AppendOnlyTree", name := "perform", desc := "(IIIIII)V" } : Jvm.MethodName)) : Cond) ∈ wT := lw_a (List.mem_of_getElem? (i := 143) rfl) rfl
theorem q_110 : ((Jvm.Cond.instanceMethod ({ cls := "AppendOnlyTree", name := "perform", desc := "(IIIIII)V" } : Jvm.MethodName)) : Cond) ∈ wT := lw_a (List.mem_of_getElem? (i := 145) rfl) rfl
theorem q_111 : ((Jvm.Cond.code ({ cls := "AppendOnlyTree", name := "perform", desc := "(IIIIII)V" } : Jvm.MethodName) prog_1_method_19_code (7 : Nat) (Option.none : Option Jvm.ClassFile.FieldType)) : Cond) ∈ wT := lw_a (List.mem_of_getElem? (i := 146) rfl) rfl
theorem q_112 : ((Jvm.Cond.methodLink "AppendOnlyTree" (123 : Nat) ({ cls := "AppendOnlyTree$Log", name := "append", desc := "(IIIII)V" } : Jvm.MethodName)) : Cond) ∈ wT := lw_a (List.mem_of_getElem? (i := 147) rfl) rfl
theorem q_113 : ((Jvm.Cond.instanceMethod ({ cls := "AppendOnlyTree$Log", name := "append", desc := "(IIIII)V" } : Jvm.MethodName)) : Cond) ∈ wT := lw_a (List.mem_of_getElem? (i := 148) rfl) rfl
theorem q_114 : ((Jvm.Cond.selects "AppendOnlyTree$Log" ({ cls := "AppendOnlyTree$Log", name := "append", desc := "(IIIII)V" } : Jvm.MethodName) ({ cls := "AppendOnlyTree$Log", name := "append", desc := "(IIIII)V" } : Jvm.MethodName)) : Cond) ∈ wT := lw_a (List.mem_of_getElem? (i := 149) rfl) rfl
theorem q_115 : ((Jvm.Cond.code ({ cls := "AppendOnlyTree$Log", name := "append", desc := "(IIIII)V" } : Jvm.MethodName) prog_2_method_4_code (7 : Nat) (Option.none : Option Jvm.ClassFile.FieldType)) : Cond) ∈ wT := lw_a (List.mem_of_getElem? (i := 150) rfl) rfl
theorem q_116 : ((Jvm.Cond.methodLink "AppendOnlyTree" (95 : Nat) ({ cls := "AppendOnlyTree$Log", name := "length", desc := "()I" } : Jvm.MethodName)) : Cond) ∈ wT := lw_a (List.mem_of_getElem? (i := 151) rfl) rfl
theorem q_117 : ((Jvm.Cond.instanceMethod ({ cls := "AppendOnlyTree$Log", name := "length", desc := "()I" } : Jvm.MethodName)) : Cond) ∈ wT := lw_a (List.mem_of_getElem? (i := 152) rfl) rfl
theorem q_118 : ((Jvm.Cond.selects "AppendOnlyTree$Log" ({ cls := "AppendOnlyTree$Log", name := "length", desc := "()I" } : Jvm.MethodName) ({ cls := "AppendOnlyTree$Log", name := "length", desc := "()I" } : Jvm.MethodName)) : Cond) ∈ wT := lw_a (List.mem_of_getElem? (i := 153) rfl) rfl
theorem q_119 : ((Jvm.Cond.code ({ cls := "AppendOnlyTree$Log", name := "length", desc := "()I" } : Jvm.MethodName) prog_2_method_2_code (1 : Nat) (Option.some Jvm.ClassFile.FieldType.int)) : Cond) ∈ wT := lw_a (List.mem_of_getElem? (i := 154) rfl) rfl
theorem q_120 : ((Jvm.Cond.methodLink "AppendOnlyTree" (98 : Nat) ({ cls := "AppendOnlyTree$Log", name := "redo", desc := "(ILAppendOnlyTree$Tree;)V" } : Jvm.MethodName)) : Cond) ∈ wT := lw_a (List.mem_of_getElem? (i := 155) rfl) rfl
theorem q_121 : ((Jvm.Cond.instanceMethod ({ cls := "AppendOnlyTree$Log", name := "redo", desc := "(ILAppendOnlyTree$Tree;)V" } : Jvm.MethodName)) : Cond) ∈ wT := lw_a (List.mem_of_getElem? (i := 156) rfl) rfl
theorem q_122 : ((Jvm.Cond.selects "AppendOnlyTree$Log" ({ cls := "AppendOnlyTree$Log", name := "redo", desc := "(ILAppendOnlyTree$Tree;)V" } : Jvm.MethodName) ({ cls := "AppendOnlyTree$Log", name := "redo", desc := "(ILAppendOnlyTree$Tree;)V" } : Jvm.MethodName)) : Cond) ∈ wT := lw_a (List.mem_of_getElem? (i := 157) rfl) rfl
theorem q_123 : ((Jvm.Cond.code ({ cls := "AppendOnlyTree$Log", name := "redo", desc := "(ILAppendOnlyTree$Tree;)V" } : Jvm.MethodName) prog_2_method_5_code (8 : Nat) (Option.none : Option Jvm.ClassFile.FieldType)) : Cond) ∈ wT := lw_a (List.mem_of_getElem? (i := 158) rfl) rfl
theorem q_124 : ((Jvm.Cond.methodLink "AppendOnlyTree$Log" (19 : Nat) ({ cls := "AppendOnlyTree$Tree", name := "addNode", desc := "(III)V" } : Jvm.MethodName)) : Cond) ∈ wT := lw_a (List.mem_of_getElem? (i := 159) rfl) rfl
theorem q_125 : ((Jvm.Cond.instanceMethod ({ cls := "AppendOnlyTree$Tree", name := "addNode", desc := "(III)V" } : Jvm.MethodName)) : Cond) ∈ wT := lw_a (List.mem_of_getElem? (i := 160) rfl) rfl
theorem q_126 : ((Jvm.Cond.selects "AppendOnlyTree$Tree" ({ cls := "AppendOnlyTree$Tree", name := "addNode", desc := "(III)V" } : Jvm.MethodName) ({ cls := "AppendOnlyTree$Tree", name := "addNode", desc := "(III)V" } : Jvm.MethodName)) : Cond) ∈ wT := lw_a (List.mem_of_getElem? (i := 161) rfl) rfl
theorem q_127 : ((Jvm.Cond.code ({ cls := "AppendOnlyTree$Tree", name := "addNode", desc := "(III)V" } : Jvm.MethodName) prog_3_method_16_code (5 : Nat) (Option.none : Option Jvm.ClassFile.FieldType)) : Cond) ∈ wT := lw_a (List.mem_of_getElem? (i := 162) rfl) rfl
theorem q_128 : ((Jvm.Cond.methodLink "AppendOnlyTree$Tree" (48 : Nat) ({ cls := "AppendOnlyTree$Tree", name := "leastFreeNode", desc := "()I" } : Jvm.MethodName)) : Cond) ∈ wT := lw_a (List.mem_of_getElem? (i := 163) rfl) rfl
theorem q_129 : ((Jvm.Cond.methodLink "AppendOnlyTree$Tree" (52 : Nat) ({ cls := "AppendOnlyTree$Tree", name := "addEntry", desc := "(III)V" } : Jvm.MethodName)) : Cond) ∈ wT := lw_a (List.mem_of_getElem? (i := 164) rfl) rfl
theorem q_130 : ((Jvm.Cond.instanceMethod ({ cls := "AppendOnlyTree$Tree", name := "addEntry", desc := "(III)V" } : Jvm.MethodName)) : Cond) ∈ wT := lw_a (List.mem_of_getElem? (i := 165) rfl) rfl
theorem q_131 : ((Jvm.Cond.selects "AppendOnlyTree$Tree" ({ cls := "AppendOnlyTree$Tree", name := "addEntry", desc := "(III)V" } : Jvm.MethodName) ({ cls := "AppendOnlyTree$Tree", name := "addEntry", desc := "(III)V" } : Jvm.MethodName)) : Cond) ∈ wT := lw_a (List.mem_of_getElem? (i := 166) rfl) rfl
theorem q_132 : ((Jvm.Cond.code ({ cls := "AppendOnlyTree$Tree", name := "addEntry", desc := "(III)V" } : Jvm.MethodName) prog_3_method_17_code (4 : Nat) (Option.none : Option Jvm.ClassFile.FieldType)) : Cond) ∈ wT := lw_a (List.mem_of_getElem? (i := 167) rfl) rfl
theorem q_133 : ((Jvm.Cond.methodLink "AppendOnlyTree$Log" (25 : Nat) ({ cls := "AppendOnlyTree$Tree", name := "addEntry", desc := "(III)V" } : Jvm.MethodName)) : Cond) ∈ wT := lw_a (List.mem_of_getElem? (i := 168) rfl) rfl
theorem q_134 : ((Jvm.Cond.methodLink "AppendOnlyTree$Log" (28 : Nat) ({ cls := "AppendOnlyTree$Tree", name := "dropEntry", desc := "(II)V" } : Jvm.MethodName)) : Cond) ∈ wT := lw_a (List.mem_of_getElem? (i := 169) rfl) rfl
theorem q_135 : ((Jvm.Cond.instanceMethod ({ cls := "AppendOnlyTree$Tree", name := "dropEntry", desc := "(II)V" } : Jvm.MethodName)) : Cond) ∈ wT := lw_a (List.mem_of_getElem? (i := 170) rfl) rfl
theorem q_136 : ((Jvm.Cond.selects "AppendOnlyTree$Tree" ({ cls := "AppendOnlyTree$Tree", name := "dropEntry", desc := "(II)V" } : Jvm.MethodName) ({ cls := "AppendOnlyTree$Tree", name := "dropEntry", desc := "(II)V" } : Jvm.MethodName)) : Cond) ∈ wT := lw_a (List.mem_of_getElem? (i := 171) rfl) rfl
theorem q_137 : ((Jvm.Cond.code ({ cls := "AppendOnlyTree$Tree", name := "dropEntry", desc := "(II)V" } : Jvm.MethodName) prog_3_method_18_code (4 : Nat) (Option.none : Option Jvm.ClassFile.FieldType)) : Cond) ∈ wT := lw_a (List.mem_of_getElem? (i := 172) rfl) rfl
theorem q_138 : ((Jvm.Cond.methodLink "AppendOnlyTree$Tree" (56 : Nat) ({ cls := "AppendOnlyTree$Tree", name := "takeEntry", desc := "(II)I" } : Jvm.MethodName)) : Cond) ∈ wT := lw_a (List.mem_of_getElem? (i := 173) rfl) rfl
theorem q_139 : ((Jvm.Cond.instanceMethod ({ cls := "AppendOnlyTree$Tree", name := "takeEntry", desc := "(II)I" } : Jvm.MethodName)) : Cond) ∈ wT := lw_a (List.mem_of_getElem? (i := 175) rfl) rfl
theorem q_140 : ((Jvm.Cond.code ({ cls := "AppendOnlyTree$Tree", name := "takeEntry", desc := "(II)I" } : Jvm.MethodName) prog_3_method_22_code (4 : Nat) (Option.some Jvm.ClassFile.FieldType.int)) : Cond) ∈ wT := lw_a (List.mem_of_getElem? (i := 176) rfl) rfl
theorem q_141 : ((Jvm.Cond.methodLink "AppendOnlyTree$Tree" (36 : Nat) ({ cls := "AppendOnlyTree$Tree", name := "target", desc := "(II)I" } : Jvm.MethodName)) : Cond) ∈ wT := lw_a (List.mem_of_getElem? (i := 177) rfl) rfl
theorem q_142 : ((Jvm.Cond.methodLink "AppendOnlyTree$Log" (32 : Nat) ({ cls := "AppendOnlyTree$Tree", name := "moveEntry", desc := "(IIII)V" } : Jvm.MethodName)) : Cond) ∈ wT := lw_a (List.mem_of_getElem? (i := 178) rfl) rfl
theorem q_143 : ((Jvm.Cond.instanceMethod ({ cls := "AppendOnlyTree$Tree", name := "moveEntry", desc := "(IIII)V" } : Jvm.MethodName)) : Cond) ∈ wT := lw_a (List.mem_of_getElem? (i := 179) rfl) rfl
theorem q_144 : ((Jvm.Cond.selects "AppendOnlyTree$Tree" ({ cls := "AppendOnlyTree$Tree", name := "moveEntry", desc := "(IIII)V" } : Jvm.MethodName) ({ cls := "AppendOnlyTree$Tree", name := "moveEntry", desc := "(IIII)V" } : Jvm.MethodName)) : Cond) ∈ wT := lw_a (List.mem_of_getElem? (i := 180) rfl) rfl
theorem q_145 : ((Jvm.Cond.code ({ cls := "AppendOnlyTree$Tree", name := "moveEntry", desc := "(IIII)V" } : Jvm.MethodName) prog_3_method_19_code (6 : Nat) (Option.none : Option Jvm.ClassFile.FieldType)) : Cond) ∈ wT := lw_a (List.mem_of_getElem? (i := 181) rfl) rfl
theorem q_146 : ((Jvm.Cond.methodLink "AppendOnlyTree$Log" (36 : Nat) ({ cls := "AppendOnlyTree$Tree", name := "setInt", desc := "(III)V" } : Jvm.MethodName)) : Cond) ∈ wT := lw_a (List.mem_of_getElem? (i := 182) rfl) rfl
theorem q_147 : ((Jvm.Cond.instanceMethod ({ cls := "AppendOnlyTree$Tree", name := "setInt", desc := "(III)V" } : Jvm.MethodName)) : Cond) ∈ wT := lw_a (List.mem_of_getElem? (i := 183) rfl) rfl
theorem q_148 : ((Jvm.Cond.selects "AppendOnlyTree$Tree" ({ cls := "AppendOnlyTree$Tree", name := "setInt", desc := "(III)V" } : Jvm.MethodName) ({ cls := "AppendOnlyTree$Tree", name := "setInt", desc := "(III)V" } : Jvm.MethodName)) : Cond) ∈ wT := lw_a (List.mem_of_getElem? (i := 184) rfl) rfl
theorem q_149 : ((Jvm.Cond.code ({ cls := "AppendOnlyTree$Tree", name := "setInt", desc := "(III)V" } : Jvm.MethodName) prog_3_method_20_code (4 : Nat) (Option.none : Option Jvm.ClassFile.FieldType)) : Cond) ∈ wT := lw_a (List.mem_of_getElem? (i := 185) rfl) rfl
theorem q_150 : ((Jvm.Cond.methodLink "AppendOnlyTree$Tree" (59 : Nat) ({ cls := "java/lang/Math", name := "max", desc := "(II)I" } : Jvm.MethodName)) : Cond) ∈ wT := lw_a (List.mem_of_getElem? (i := 186) rfl) rfl
theorem q_151 : ((Jvm.Cond.methodLink "AppendOnlyTree$Log" (39 : Nat) ({ cls := "AppendOnlyTree$Tree", name := "setSize", desc := "(II)V" } : Jvm.MethodName)) : Cond) ∈ wT := lw_a (List.mem_of_getElem? (i := 187) rfl) rfl
theorem q_152 : ((Jvm.Cond.instanceMethod ({ cls := "AppendOnlyTree$Tree", name := "setSize", desc := "(II)V" } : Jvm.MethodName)) : Cond) ∈ wT := lw_a (List.mem_of_getElem? (i := 188) rfl) rfl
theorem q_153 : ((Jvm.Cond.selects "AppendOnlyTree$Tree" ({ cls := "AppendOnlyTree$Tree", name := "setSize", desc := "(II)V" } : Jvm.MethodName) ({ cls := "AppendOnlyTree$Tree", name := "setSize", desc := "(II)V" } : Jvm.MethodName)) : Cond) ∈ wT := lw_a (List.mem_of_getElem? (i := 189) rfl) rfl
theorem q_154 : ((Jvm.Cond.code ({ cls := "AppendOnlyTree$Tree", name := "setSize", desc := "(II)V" } : Jvm.MethodName) prog_3_method_21_code (3 : Nat) (Option.none : Option Jvm.ClassFile.FieldType)) : Cond) ∈ wT := lw_a (List.mem_of_getElem? (i := 190) rfl) rfl
theorem q_155 : ((Jvm.Cond.methodLink "AppendOnlyTreeLaw" (26 : Nat) ({ cls := "AppendOnlyTree", name := "link", desc := "(III)I" } : Jvm.MethodName)) : Cond) ∈ wT := lw_a (List.mem_of_getElem? (i := 191) rfl) rfl
theorem q_156 : ((Jvm.Cond.instanceMethod ({ cls := "AppendOnlyTree", name := "link", desc := "(III)I" } : Jvm.MethodName)) : Cond) ∈ wT := lw_a (List.mem_of_getElem? (i := 192) rfl) rfl
theorem q_157 : ((Jvm.Cond.selects "AppendOnlyTree" ({ cls := "AppendOnlyTree", name := "link", desc := "(III)I" } : Jvm.MethodName) ({ cls := "AppendOnlyTree", name := "link", desc := "(III)I" } : Jvm.MethodName)) : Cond) ∈ wT := lw_a (List.mem_of_getElem? (i := 193) rfl) rfl
theorem q_158 : ((Jvm.Cond.code ({ cls := "AppendOnlyTree", name := "link", desc := "(III)I" } : Jvm.MethodName) prog_1_method_3_code (5 : Nat) (Option.some Jvm.ClassFile.FieldType.int)) : Cond) ∈ wT := lw_a (List.mem_of_getElem? (i := 194) rfl) rfl
theorem q_159 : ((Jvm.Cond.methodLink "AppendOnlyTree" (80 : Nat) ({ cls := "AppendOnlyTree$Tree", name := "isFile", desc := "(I)Z" } : Jvm.MethodName)) : Cond) ∈ wT := lw_a (List.mem_of_getElem? (i := 195) rfl) rfl
theorem q_160 : ((Jvm.Cond.methodLink "AppendOnlyTreeLaw" (31 : Nat) ({ cls := "AppendOnlyTree", name := "remove", desc := "(II)I" } : Jvm.MethodName)) : Cond) ∈ wT := lw_a (List.mem_of_getElem? (i := 196) rfl) rfl
theorem q_161 : ((Jvm.Cond.instanceMethod ({ cls := "AppendOnlyTree", name := "remove", desc := "(II)I" } : Jvm.MethodName)) : Cond) ∈ wT := lw_a (List.mem_of_getElem? (i := 197) rfl) rfl
theorem q_162 : ((Jvm.Cond.selects "AppendOnlyTree" ({ cls := "AppendOnlyTree", name := "remove", desc := "(II)I" } : Jvm.MethodName) ({ cls := "AppendOnlyTree", name := "remove", desc := "(II)I" } : Jvm.MethodName)) : Cond) ∈ wT := lw_a (List.mem_of_getElem? (i := 198) rfl) rfl
theorem q_163 : ((Jvm.Cond.code ({ cls := "AppendOnlyTree", name := "remove", desc := "(II)I" } : Jvm.MethodName) prog_1_method_4_code (6 : Nat) (Option.some Jvm.ClassFile.FieldType.int)) : Cond) ∈ wT := lw_a (List.mem_of_getElem? (i := 199) rfl) rfl
theorem q_164 : ((Jvm.Cond.methodLink "AppendOnlyTree" (83 : Nat) ({ cls := "AppendOnlyTree$Tree", name := "links", desc := "(I)I" } : Jvm.MethodName)) : Cond) ∈ wT := lw_a (List.mem_of_getElem? (i := 200) rfl) rfl
theorem q_165 : ((Jvm.Cond.instanceMethod ({ cls := "AppendOnlyTree$Tree", name := "links", desc := "(I)I" } : Jvm.MethodName)) : Cond) ∈ wT := lw_a (List.mem_of_getElem? (i := 201) rfl) rfl
theorem q_166 : ((Jvm.Cond.selects "AppendOnlyTree$Tree" ({ cls := "AppendOnlyTree$Tree", name := "links", desc := "(I)I" } : Jvm.MethodName) ({ cls := "AppendOnlyTree$Tree", name := "links", desc := "(I)I" } : Jvm.MethodName)) : Cond) ∈ wT := lw_a (List.mem_of_getElem? (i := 202) rfl) rfl
theorem q_167 : ((Jvm.Cond.code ({ cls := "AppendOnlyTree$Tree", name := "links", desc := "(I)I" } : Jvm.MethodName) prog_3_method_7_code (2 : Nat) (Option.some Jvm.ClassFile.FieldType.int)) : Cond) ∈ wT := lw_a (List.mem_of_getElem? (i := 203) rfl) rfl
theorem q_168 : ((Jvm.Cond.methodLink "AppendOnlyTree" (86 : Nat) ({ cls := "AppendOnlyTree$Tree", name := "blocks", desc := "(I)I" } : Jvm.MethodName)) : Cond) ∈ wT := lw_a (List.mem_of_getElem? (i := 204) rfl) rfl
theorem q_169 : ((Jvm.Cond.methodLink "AppendOnlyTreeLaw" (36 : Nat) ({ cls := "AppendOnlyTree", name := "rename", desc := "(IIII)I" } : Jvm.MethodName)) : Cond) ∈ wT := lw_a (List.mem_of_getElem? (i := 205) rfl) rfl
theorem q_170 : ((Jvm.Cond.instanceMethod ({ cls := "AppendOnlyTree", name := "rename", desc := "(IIII)I" } : Jvm.MethodName)) : Cond) ∈ wT := lw_a (List.mem_of_getElem? (i := 206) rfl) rfl
theorem q_171 : ((Jvm.Cond.selects "AppendOnlyTree" ({ cls := "AppendOnlyTree", name := "rename", desc := "(IIII)I" } : Jvm.MethodName) ({ cls := "AppendOnlyTree", name := "rename", desc := "(IIII)I" } : Jvm.MethodName)) : Cond) ∈ wT := lw_a (List.mem_of_getElem? (i := 207) rfl) rfl
theorem q_172 : ((Jvm.Cond.code ({ cls := "AppendOnlyTree", name := "rename", desc := "(IIII)I" } : Jvm.MethodName) prog_1_method_5_code (6 : Nat) (Option.some Jvm.ClassFile.FieldType.int)) : Cond) ∈ wT := lw_a (List.mem_of_getElem? (i := 208) rfl) rfl
theorem q_173 : ((Jvm.Cond.methodLink "AppendOnlyTree" (89 : Nat) ({ cls := "AppendOnlyTree$Tree", name := "liesIn", desc := "(II)Z" } : Jvm.MethodName)) : Cond) ∈ wT := lw_a (List.mem_of_getElem? (i := 209) rfl) rfl
theorem q_174 : ((Jvm.Cond.instanceMethod ({ cls := "AppendOnlyTree$Tree", name := "liesIn", desc := "(II)Z" } : Jvm.MethodName)) : Cond) ∈ wT := lw_a (List.mem_of_getElem? (i := 210) rfl) rfl
theorem q_175 : ((Jvm.Cond.selects "AppendOnlyTree$Tree" ({ cls := "AppendOnlyTree$Tree", name := "liesIn", desc := "(II)Z" } : Jvm.MethodName) ({ cls := "AppendOnlyTree$Tree", name := "liesIn", desc := "(II)Z" } : Jvm.MethodName)) : Cond) ∈ wT := lw_a (List.mem_of_getElem? (i := 211) rfl) rfl
theorem q_176 : ((Jvm.Cond.code ({ cls := "AppendOnlyTree$Tree", name := "liesIn", desc := "(II)Z" } : Jvm.MethodName) prog_3_method_15_code (5 : Nat) (Option.some Jvm.ClassFile.FieldType.boolean)) : Cond) ∈ wT := lw_a (List.mem_of_getElem? (i := 212) rfl) rfl
theorem q_177 : ((Jvm.Cond.methodLink "AppendOnlyTreeLaw" (41 : Nat) ({ cls := "AppendOnlyTree", name := "write", desc := "(III)I" } : Jvm.MethodName)) : Cond) ∈ wT := lw_a (List.mem_of_getElem? (i := 213) rfl) rfl
theorem q_178 : ((Jvm.Cond.instanceMethod ({ cls := "AppendOnlyTree", name := "write", desc := "(III)I" } : Jvm.MethodName)) : Cond) ∈ wT := lw_a (List.mem_of_getElem? (i := 214) rfl) rfl
theorem q_179 : ((Jvm.Cond.selects "AppendOnlyTree" ({ cls := "AppendOnlyTree", name := "write", desc := "(III)I" } : Jvm.MethodName) ({ cls := "AppendOnlyTree", name := "write", desc := "(III)I" } : Jvm.MethodName)) : Cond) ∈ wT := lw_a (List.mem_of_getElem? (i := 215) rfl) rfl
theorem q_180 : ((Jvm.Cond.code ({ cls := "AppendOnlyTree", name := "write", desc := "(III)I" } : Jvm.MethodName) prog_1_method_6_code (5 : Nat) (Option.some Jvm.ClassFile.FieldType.int)) : Cond) ∈ wT := lw_a (List.mem_of_getElem? (i := 216) rfl) rfl
theorem q_181 : ((Jvm.Cond.methodLink "AppendOnlyTreeLaw" (45 : Nat) ({ cls := "AppendOnlyTree", name := "cut", desc := "(II)I" } : Jvm.MethodName)) : Cond) ∈ wT := lw_a (List.mem_of_getElem? (i := 217) rfl) rfl
theorem q_182 : ((Jvm.Cond.instanceMethod ({ cls := "AppendOnlyTree", name := "cut", desc := "(II)I" } : Jvm.MethodName)) : Cond) ∈ wT := lw_a (List.mem_of_getElem? (i := 218) rfl) rfl
theorem q_183 : ((Jvm.Cond.selects "AppendOnlyTree" ({ cls := "AppendOnlyTree", name := "cut", desc := "(II)I" } : Jvm.MethodName) ({ cls := "AppendOnlyTree", name := "cut", desc := "(II)I" } : Jvm.MethodName)) : Cond) ∈ wT := lw_a (List.mem_of_getElem? (i := 219) rfl) rfl
theorem q_184 : ((Jvm.Cond.code ({ cls := "AppendOnlyTree", name := "cut", desc := "(II)I" } : Jvm.MethodName) prog_1_method_7_code (4 : Nat) (Option.some Jvm.ClassFile.FieldType.int)) : Cond) ∈ wT := lw_a (List.mem_of_getElem? (i := 220) rfl) rfl
theorem q_185 : ((Jvm.Cond.methodLink "AppendOnlyTreeLaw" (49 : Nat) ({ cls := "AppendOnlyTree", name := "sync", desc := "()I" } : Jvm.MethodName)) : Cond) ∈ wT := lw_a (List.mem_of_getElem? (i := 221) rfl) rfl
theorem q_186 : ((Jvm.Cond.instanceMethod ({ cls := "AppendOnlyTree", name := "sync", desc := "()I" } : Jvm.MethodName)) : Cond) ∈ wT := lw_a (List.mem_of_getElem? (i := 222) rfl) rfl
theorem q_187 : ((Jvm.Cond.selects "AppendOnlyTree" ({ cls := "AppendOnlyTree", name := "sync", desc := "()I" } : Jvm.MethodName) ({ cls := "AppendOnlyTree", name := "sync", desc := "()I" } : Jvm.MethodName)) : Cond) ∈ wT := lw_a (List.mem_of_getElem? (i := 223) rfl) rfl
theorem q_188 : ((Jvm.Cond.code ({ cls := "AppendOnlyTree", name := "sync", desc := "()I" } : Jvm.MethodName) prog_1_method_8_code (1 : Nat) (Option.some Jvm.ClassFile.FieldType.int)) : Cond) ∈ wT := lw_a (List.mem_of_getElem? (i := 224) rfl) rfl
theorem q_189 : ((Jvm.Cond.methodLink "AppendOnlyTreeLaw" (54 : Nat) ({ cls := "AppendOnlyTree", name := "crash", desc := "(I)I" } : Jvm.MethodName)) : Cond) ∈ wT := lw_a (List.mem_of_getElem? (i := 225) rfl) rfl
theorem q_190 : ((Jvm.Cond.instanceMethod ({ cls := "AppendOnlyTree", name := "crash", desc := "(I)I" } : Jvm.MethodName)) : Cond) ∈ wT := lw_a (List.mem_of_getElem? (i := 226) rfl) rfl
theorem q_191 : ((Jvm.Cond.selects "AppendOnlyTree" ({ cls := "AppendOnlyTree", name := "crash", desc := "(I)I" } : Jvm.MethodName) ({ cls := "AppendOnlyTree", name := "crash", desc := "(I)I" } : Jvm.MethodName)) : Cond) ∈ wT := lw_a (List.mem_of_getElem? (i := 227) rfl) rfl
theorem q_192 : ((Jvm.Cond.code ({ cls := "AppendOnlyTree", name := "crash", desc := "(I)I" } : Jvm.MethodName) prog_1_method_9_code (4 : Nat) (Option.some Jvm.ClassFile.FieldType.int)) : Cond) ∈ wT := lw_a (List.mem_of_getElem? (i := 228) rfl) rfl
theorem q_193 : ((Jvm.Cond.methodLink "AppendOnlyTreeLaw" (59 : Nat) ({ cls := "AppendOnlyTree", name := "find", desc := "(II)I" } : Jvm.MethodName)) : Cond) ∈ wT := lw_a (List.mem_of_getElem? (i := 229) rfl) rfl
theorem q_194 : ((Jvm.Cond.instanceMethod ({ cls := "AppendOnlyTree", name := "find", desc := "(II)I" } : Jvm.MethodName)) : Cond) ∈ wT := lw_a (List.mem_of_getElem? (i := 230) rfl) rfl
theorem q_195 : ((Jvm.Cond.selects "AppendOnlyTree" ({ cls := "AppendOnlyTree", name := "find", desc := "(II)I" } : Jvm.MethodName) ({ cls := "AppendOnlyTree", name := "find", desc := "(II)I" } : Jvm.MethodName)) : Cond) ∈ wT := lw_a (List.mem_of_getElem? (i := 231) rfl) rfl
theorem q_196 : ((Jvm.Cond.code ({ cls := "AppendOnlyTree", name := "find", desc := "(II)I" } : Jvm.MethodName) prog_1_method_10_code (3 : Nat) (Option.some Jvm.ClassFile.FieldType.int)) : Cond) ∈ wT := lw_a (List.mem_of_getElem? (i := 232) rfl) rfl
theorem q_197 : ((Jvm.Cond.methodLink "AppendOnlyTreeLaw" (63 : Nat) ({ cls := "AppendOnlyTree", name := "entry", desc := "(II)I" } : Jvm.MethodName)) : Cond) ∈ wT := lw_a (List.mem_of_getElem? (i := 233) rfl) rfl
theorem q_198 : ((Jvm.Cond.instanceMethod ({ cls := "AppendOnlyTree", name := "entry", desc := "(II)I" } : Jvm.MethodName)) : Cond) ∈ wT := lw_a (List.mem_of_getElem? (i := 234) rfl) rfl
theorem q_199 : ((Jvm.Cond.selects "AppendOnlyTree" ({ cls := "AppendOnlyTree", name := "entry", desc := "(II)I" } : Jvm.MethodName) ({ cls := "AppendOnlyTree", name := "entry", desc := "(II)I" } : Jvm.MethodName)) : Cond) ∈ wT := lw_a (List.mem_of_getElem? (i := 235) rfl) rfl
theorem q_200 : ((Jvm.Cond.code ({ cls := "AppendOnlyTree", name := "entry", desc := "(II)I" } : Jvm.MethodName) prog_1_method_11_code (3 : Nat) (Option.some Jvm.ClassFile.FieldType.int)) : Cond) ∈ wT := lw_a (List.mem_of_getElem? (i := 236) rfl) rfl
theorem q_201 : ((Jvm.Cond.methodLink "AppendOnlyTree" (109 : Nat) ({ cls := "AppendOnlyTree$Tree", name := "nthName", desc := "(II)I" } : Jvm.MethodName)) : Cond) ∈ wT := lw_a (List.mem_of_getElem? (i := 237) rfl) rfl
theorem q_202 : ((Jvm.Cond.instanceMethod ({ cls := "AppendOnlyTree$Tree", name := "nthName", desc := "(II)I" } : Jvm.MethodName)) : Cond) ∈ wT := lw_a (List.mem_of_getElem? (i := 238) rfl) rfl
theorem q_203 : ((Jvm.Cond.selects "AppendOnlyTree$Tree" ({ cls := "AppendOnlyTree$Tree", name := "nthName", desc := "(II)I" } : Jvm.MethodName) ({ cls := "AppendOnlyTree$Tree", name := "nthName", desc := "(II)I" } : Jvm.MethodName)) : Cond) ∈ wT := lw_a (List.mem_of_getElem? (i := 239) rfl) rfl
theorem q_204 : ((Jvm.Cond.code ({ cls := "AppendOnlyTree$Tree", name := "nthName", desc := "(II)I" } : Jvm.MethodName) prog_3_method_10_code (5 : Nat) (Option.some Jvm.ClassFile.FieldType.int)) : Cond) ∈ wT := lw_b (List.mem_of_getElem? (i := 0) rfl) rfl
theorem q_205 : ((Jvm.Cond.methodLink "AppendOnlyTreeLaw" (67 : Nat) ({ cls := "AppendOnlyTree", name := "read", desc := "(II)J" } : Jvm.MethodName)) : Cond) ∈ wT := lw_b (List.mem_of_getElem? (i := 1) rfl) rfl
theorem q_206 : ((Jvm.Cond.instanceMethod ({ cls := "AppendOnlyTree", name := "read", desc := "(II)J" } : Jvm.MethodName)) : Cond) ∈ wT := lw_b (List.mem_of_getElem? (i := 2) rfl) rfl
theorem q_207 : ((Jvm.Cond.selects "AppendOnlyTree" ({ cls := "AppendOnlyTree", name := "read", desc := "(II)J" } : Jvm.MethodName) ({ cls := "AppendOnlyTree", name := "read", desc := "(II)J" } : Jvm.MethodName)) : Cond) ∈ wT := lw_b (List.mem_of_getElem? (i := 3) rfl) rfl
theorem q_208 : ((Jvm.Cond.code ({ cls := "AppendOnlyTree", name := "read", desc := "(II)J" } : Jvm.MethodName) prog_1_method_12_code (3 : Nat) (Option.some Jvm.ClassFile.FieldType.long)) : Cond) ∈ wT := lw_b (List.mem_of_getElem? (i := 4) rfl) rfl
theorem q_209 : ((Jvm.Cond.constantLong "AppendOnlyTree" (112 : Nat) (1000000000000 : Int64)) : Cond) ∈ wT := lw_b (List.mem_of_getElem? (i := 5) rfl) rfl
theorem q_210 : ((Jvm.Cond.methodLink "AppendOnlyTree" (114 : Nat) ({ cls := "AppendOnlyTree$Tree", name := "value", desc := "(II)I" } : Jvm.MethodName)) : Cond) ∈ wT := lw_b (List.mem_of_getElem? (i := 6) rfl) rfl
theorem q_211 : ((Jvm.Cond.instanceMethod ({ cls := "AppendOnlyTree$Tree", name := "value", desc := "(II)I" } : Jvm.MethodName)) : Cond) ∈ wT := lw_b (List.mem_of_getElem? (i := 7) rfl) rfl
theorem q_212 : ((Jvm.Cond.selects "AppendOnlyTree$Tree" ({ cls := "AppendOnlyTree$Tree", name := "value", desc := "(II)I" } : Jvm.MethodName) ({ cls := "AppendOnlyTree$Tree", name := "value", desc := "(II)I" } : Jvm.MethodName)) : Cond) ∈ wT := lw_b (List.mem_of_getElem? (i := 8) rfl) rfl
theorem q_213 : ((Jvm.Cond.code ({ cls := "AppendOnlyTree$Tree", name := "value", desc := "(II)I" } : Jvm.MethodName) prog_3_method_9_code (3 : Nat) (Option.some Jvm.ClassFile.FieldType.int)) : Cond) ∈ wT := lw_b (List.mem_of_getElem? (i := 9) rfl) rfl
theorem q_214 : ((Jvm.Cond.methodLink "AppendOnlyTreeLaw" (72 : Nat) ({ cls := "AppendOnlyTree", name := "tell", desc := "(II)I" } : Jvm.MethodName)) : Cond) ∈ wT := lw_b (List.mem_of_getElem? (i := 10) rfl) rfl
theorem q_215 : ((Jvm.Cond.instanceMethod ({ cls := "AppendOnlyTree", name := "tell", desc := "(II)I" } : Jvm.MethodName)) : Cond) ∈ wT := lw_b (List.mem_of_getElem? (i := 11) rfl) rfl
theorem q_216 : ((Jvm.Cond.selects "AppendOnlyTree" ({ cls := "AppendOnlyTree", name := "tell", desc := "(II)I" } : Jvm.MethodName) ({ cls := "AppendOnlyTree", name := "tell", desc := "(II)I" } : Jvm.MethodName)) : Cond) ∈ wT := lw_b (List.mem_of_getElem? (i := 12) rfl) rfl
theorem q_217 : ((Jvm.Cond.code ({ cls := "AppendOnlyTree", name := "tell", desc := "(II)I" } : Jvm.MethodName) prog_1_method_13_code (3 : Nat) (Option.some Jvm.ClassFile.FieldType.int)) : Cond) ∈ wT := lw_b (List.mem_of_getElem? (i := 13) rfl) rfl
theorem q_218 : ((Jvm.Cond.methodLink "AppendOnlyTree" (117 : Nat) ({ cls := "AppendOnlyTree$Tree", name := "kind", desc := "(I)I" } : Jvm.MethodName)) : Cond) ∈ wT := lw_b (List.mem_of_getElem? (i := 14) rfl) rfl
theorem q_219 : ((Jvm.Cond.instanceMethod ({ cls := "AppendOnlyTree$Tree", name := "kind", desc := "(I)I" } : Jvm.MethodName)) : Cond) ∈ wT := lw_b (List.mem_of_getElem? (i := 15) rfl) rfl
theorem q_220 : ((Jvm.Cond.selects "AppendOnlyTree$Tree" ({ cls := "AppendOnlyTree$Tree", name := "kind", desc := "(I)I" } : Jvm.MethodName) ({ cls := "AppendOnlyTree$Tree", name := "kind", desc := "(I)I" } : Jvm.MethodName)) : Cond) ∈ wT := lw_b (List.mem_of_getElem? (i := 16) rfl) rfl
theorem q_221 : ((Jvm.Cond.code ({ cls := "AppendOnlyTree$Tree", name := "kind", desc := "(I)I" } : Jvm.MethodName) prog_3_method_3_code (2 : Nat) (Option.some Jvm.ClassFile.FieldType.int)) : Cond) ∈ wT := lw_b (List.mem_of_getElem? (i := 17) rfl) rfl
theorem q_222 : ((Jvm.Cond.methodLink "AppendOnlyTreeLaw" (76 : Nat) ({ cls := "AppendOnlyTree", name := "count", desc := "(I)I" } : Jvm.MethodName)) : Cond) ∈ wT := lw_b (List.mem_of_getElem? (i := 18) rfl) rfl
theorem q_223 : ((Jvm.Cond.instanceMethod ({ cls := "AppendOnlyTree", name := "count", desc := "(I)I" } : Jvm.MethodName)) : Cond) ∈ wT := lw_b (List.mem_of_getElem? (i := 19) rfl) rfl
theorem q_224 : ((Jvm.Cond.selects "AppendOnlyTree" ({ cls := "AppendOnlyTree", name := "count", desc := "(I)I" } : Jvm.MethodName) ({ cls := "AppendOnlyTree", name := "count", desc := "(I)I" } : Jvm.MethodName)) : Cond) ∈ wT := lw_b (List.mem_of_getElem? (i := 20) rfl) rfl
theorem q_225 : ((Jvm.Cond.code ({ cls := "AppendOnlyTree", name := "count", desc := "(I)I" } : Jvm.MethodName) prog_1_method_14_code (2 : Nat) (Option.some Jvm.ClassFile.FieldType.int)) : Cond) ∈ wT := lw_b (List.mem_of_getElem? (i := 21) rfl) rfl
theorem q_226 : ((Jvm.Cond.methodLink "AppendOnlyTree" (120 : Nat) ({ cls := "AppendOnlyTree$Tree", name := "nodesThere", desc := "()I" } : Jvm.MethodName)) : Cond) ∈ wT := lw_b (List.mem_of_getElem? (i := 22) rfl) rfl
theorem q_227 : ((Jvm.Cond.instanceMethod ({ cls := "AppendOnlyTree$Tree", name := "nodesThere", desc := "()I" } : Jvm.MethodName)) : Cond) ∈ wT := lw_b (List.mem_of_getElem? (i := 23) rfl) rfl
theorem q_228 : ((Jvm.Cond.selects "AppendOnlyTree$Tree" ({ cls := "AppendOnlyTree$Tree", name := "nodesThere", desc := "()I" } : Jvm.MethodName) ({ cls := "AppendOnlyTree$Tree", name := "nodesThere", desc := "()I" } : Jvm.MethodName)) : Cond) ∈ wT := lw_b (List.mem_of_getElem? (i := 24) rfl) rfl
theorem q_229 : ((Jvm.Cond.code ({ cls := "AppendOnlyTree$Tree", name := "nodesThere", desc := "()I" } : Jvm.MethodName) prog_3_method_12_code (3 : Nat) (Option.some Jvm.ClassFile.FieldType.int)) : Cond) ∈ wT := lw_b (List.mem_of_getElem? (i := 25) rfl) rfl
theorem q_230 : ((Jvm.Cond.methodLink "AppendOnlyTreeLaw" (9 : Nat) ({ cls := "AppendOnlyTreeLaw", name := "cell", desc := "([II)I" } : Jvm.MethodName)) : Cond) ∈ wT := lw_b (List.mem_of_getElem? (i := 26) rfl) rfl
theorem q_231 : ((Jvm.Cond.static ({ cls := "AppendOnlyTreeLaw", name := "cell", desc := "([II)I" } : Jvm.MethodName)) : Cond) ∈ wT := lw_b (List.mem_of_getElem? (i := 27) rfl) rfl
theorem q_232 : ((Jvm.Cond.code ({ cls := "AppendOnlyTreeLaw", name := "cell", desc := "([II)I" } : Jvm.MethodName) method_2_code (2 : Nat) (Option.some Jvm.ClassFile.FieldType.int)) : Cond) ∈ wT := lw_b (List.mem_of_getElem? (i := 28) rfl) rfl
theorem q_233 : ((Jvm.Cond.classLink "AppendOnlyTreeLaw" (18 : Nat) "AppendOnlyTreeModel") : Cond) ∈ wT := lw_b (List.mem_of_getElem? (i := 29) rfl) rfl
theorem q_234 : ((Jvm.Cond.instantiable "AppendOnlyTreeModel" (9 : Nat)) : Cond) ∈ wT := lw_b (List.mem_of_getElem? (i := 30) rfl) rfl
theorem q_235 : ((Jvm.Cond.methodLink "AppendOnlyTreeLaw" (20 : Nat) ({ cls := "AppendOnlyTreeModel", name := "<init>", desc := "(I)V" } : Jvm.MethodName)) : Cond) ∈ wT := lw_b (List.mem_of_getElem? (i := 31) rfl) rfl
theorem q_236 : ((Jvm.Cond.instanceMethod ({ cls := "AppendOnlyTreeModel", name := "<init>", desc := "(I)V" } : Jvm.MethodName)) : Cond) ∈ wT := lw_b (List.mem_of_getElem? (i := 32) rfl) rfl
theorem q_237 : ((Jvm.Cond.code ({ cls := "AppendOnlyTreeModel", name := "<init>", desc := "(I)V" } : Jvm.MethodName) prog_5_method_1_code (4 : Nat) (Option.none : Option Jvm.ClassFile.FieldType)) : Cond) ∈ wT := lw_b (List.mem_of_getElem? (i := 33) rfl) rfl
theorem q_238 : ((Jvm.Cond.methodLink "AppendOnlyTreeModel" (1 : Nat) ({ cls := "java/lang/Object", name := "<init>", desc := "()V" } : Jvm.MethodName)) : Cond) ∈ wT := lw_b (List.mem_of_getElem? (i := 34) rfl) rfl
theorem q_239 : ((Jvm.Cond.methodLink "AppendOnlyTreeModel" (32 : Nat) ({ cls := "AppendOnlyTreeModel", name := "copy", desc := "(II)V" } : Jvm.MethodName)) : Cond) ∈ wT := lw_b (List.mem_of_getElem? (i := 35) rfl) rfl
theorem q_240 : ((Jvm.Cond.instanceMethod ({ cls := "AppendOnlyTreeModel", name := "copy", desc := "(II)V" } : Jvm.MethodName)) : Cond) ∈ wT := lw_b (List.mem_of_getElem? (i := 37) rfl) rfl
theorem q_241 : ((Jvm.Cond.code ({ cls := "AppendOnlyTreeModel", name := "copy", desc := "(II)V" } : Jvm.MethodName) prog_5_method_2_code (4 : Nat) (Option.none : Option Jvm.ClassFile.FieldType)) : Cond) ∈ wT := lw_b (List.mem_of_getElem? (i := 38) rfl) rfl
theorem q_242 : ((Jvm.Cond.fieldLink "AppendOnlyTreeModel" (29 : Nat) "AppendOnlyTreeModel" "limit" "I") : Cond) ∈ wT := lw_b (List.mem_of_getElem? (i := 39) rfl) rfl
theorem q_243 : ((Jvm.Cond.fieldLink "AppendOnlyTreeModel" (7 : Nat) "AppendOnlyTreeModel" "kind" "[I") : Cond) ∈ wT := lw_b (List.mem_of_getElem? (i := 40) rfl) rfl
theorem q_244 : ((Jvm.Cond.fieldLink "AppendOnlyTreeModel" (13 : Nat) "AppendOnlyTreeModel" "size" "[I") : Cond) ∈ wT := lw_b (List.mem_of_getElem? (i := 41) rfl) rfl
theorem q_245 : ((Jvm.Cond.fieldLink "AppendOnlyTreeModel" (16 : Nat) "AppendOnlyTreeModel" "content" "[I") : Cond) ∈ wT := lw_b (List.mem_of_getElem? (i := 42) rfl) rfl
theorem q_246 : ((Jvm.Cond.fieldLink "AppendOnlyTreeModel" (19 : Nat) "AppendOnlyTreeModel" "entries" "[I") : Cond) ∈ wT := lw_b (List.mem_of_getElem? (i := 43) rfl) rfl
theorem q_247 : ((Jvm.Cond.fieldLink "AppendOnlyTreeModel" (22 : Nat) "AppendOnlyTreeModel" "kept" "I") : Cond) ∈ wT := lw_b (List.mem_of_getElem? (i := 44) rfl) rfl
theorem q_248 : ((Jvm.Cond.fieldLink "AppendOnlyTreeModel" (87 : Nat) "AppendOnlyTreeModel" "syncs" "I") : Cond) ∈ wT := lw_b (List.mem_of_getElem? (i := 45) rfl) rfl
theorem q_249 : ((Jvm.Cond.fieldLink "AppendOnlyTreeModel" (58 : Nat) "AppendOnlyTreeModel" "changes" "I") : Cond) ∈ wT := lw_b (List.mem_of_getElem? (i := 46) rfl) rfl
theorem q_250 : ((Jvm.Cond.fieldLink "AppendOnlyTreeModel" (26 : Nat) "AppendOnlyTreeModel" "change" "[I") : Cond) ∈ wT := lw_b (List.mem_of_getElem? (i := 47) rfl) rfl
theorem q_251 : ((Jvm.Cond.methodLink "AppendOnlyTreeLaw" (25 : Nat) ({ cls := "AppendOnlyTreeModel", name := "create", desc := "(IIZ)I" } : Jvm.MethodName)) : Cond) ∈ wT := lw_b (List.mem_of_getElem? (i := 67) rfl) rfl
theorem q_252 : ((Jvm.Cond.instanceMethod ({ cls := "AppendOnlyTreeModel", name := "create", desc := "(IIZ)I" } : Jvm.MethodName)) : Cond) ∈ wT := lw_b (List.mem_of_getElem? (i := 68) rfl) rfl
theorem q_253 : ((Jvm.Cond.selects "AppendOnlyTreeModel" ({ cls := "AppendOnlyTreeModel", name := "create", desc := "(IIZ)I" } : Jvm.MethodName) ({ cls := "AppendOnlyTreeModel", name := "create", desc := "(IIZ)I" } : Jvm.MethodName)) : Cond) ∈ wT := lw_b (List.mem_of_getElem? (i := 69) rfl) rfl
theorem q_254 : ((Jvm.Cond.code ({ cls := "AppendOnlyTreeModel", name := "create", desc := "(IIZ)I" } : Jvm.MethodName) prog_5_method_16_code (4 : Nat) (Option.some Jvm.ClassFile.FieldType.int)) : Cond) ∈ wT := lw_b (List.mem_of_getElem? (i := 70) rfl) rfl
theorem q_255 : ((Jvm.Cond.methodLink "AppendOnlyTreeModel" (78 : Nat) ({ cls := "AppendOnlyTreeModel", name := "out", desc := "(II)Z" } : Jvm.MethodName)) : Cond) ∈ wT := lw_b (List.mem_of_getElem? (i := 71) rfl) rfl
theorem q_256 : ((Jvm.Cond.static ({ cls := "AppendOnlyTreeModel", name := "out", desc := "(II)Z" } : Jvm.MethodName)) : Cond) ∈ wT := lw_b (List.mem_of_getElem? (i := 72) rfl) rfl
theorem q_257 : ((Jvm.Cond.code ({ cls := "AppendOnlyTreeModel", name := "out", desc := "(II)Z" } : Jvm.MethodName) prog_5_method_3_code (2 : Nat) (Option.some Jvm.ClassFile.FieldType.boolean)) : Cond) ∈ wT := lw_b (List.mem_of_getElem? (i := 73) rfl) rfl
theorem q_258 : ((Jvm.Cond.methodLink "AppendOnlyTreeModel" (81 : Nat) ({ cls := "AppendOnlyTreeModel", name := "attempt", desc := "(IIIII)I" } : Jvm.MethodName)) : Cond) ∈ wT := lw_b (List.mem_of_getElem? (i := 74) rfl) rfl
theorem q_259 : ((Jvm.Cond.instanceMethod ({ cls := "AppendOnlyTreeModel", name := "attempt", desc := "(IIIII)I" } : Jvm.MethodName)) : Cond) ∈ wT := lw_b (List.mem_of_getElem? (i := 76) rfl) rfl
theorem q_260 : ((Jvm.Cond.code ({ cls := "AppendOnlyTreeModel", name := "attempt", desc := "(IIIII)I" } : Jvm.MethodName) prog_5_method_15_code (10 : Nat) (Option.some Jvm.ClassFile.FieldType.int)) : Cond) ∈ wT := lw_b (List.mem_of_getElem? (i := 77) rfl) rfl
theorem q_261 : ((Jvm.Cond.methodLink "AppendOnlyTreeModel" (64 : Nat) ({ cls := "AppendOnlyTreeModel", name := "objection", desc := "(IIIII)I" } : Jvm.MethodName)) : Cond) ∈ wT := lw_b (List.mem_of_getElem? (i := 78) rfl) rfl
theorem q_262 : ((Jvm.Cond.instanceMethod ({ cls := "AppendOnlyTreeModel", name := "objection", desc := "(IIIII)I" } : Jvm.MethodName)) : Cond) ∈ wT := lw_b (List.mem_of_getElem? (i := 80) rfl) rfl
theorem q_263 : ((Jvm.Cond.code ({ cls := "AppendOnlyTreeModel", name := "objection", desc := "(IIIII)I" } : Jvm.MethodName) prog_5_method_11_code (6 : Nat) (Option.some Jvm.ClassFile.FieldType.int)) : Cond) ∈ wT := lw_b (List.mem_of_getElem? (i := 81) rfl) rfl
theorem q_264 : ((Jvm.Cond.methodLink "AppendOnlyTreeModel" (36 : Nat) ({ cls := "AppendOnlyTreeModel", name := "isDir", desc := "(I)Z" } : Jvm.MethodName)) : Cond) ∈ wT := lw_b (List.mem_of_getElem? (i := 82) rfl) rfl
theorem q_265 : ((Jvm.Cond.instanceMethod ({ cls := "AppendOnlyTreeModel", name := "isDir", desc := "(I)Z" } : Jvm.MethodName)) : Cond) ∈ wT := lw_b (List.mem_of_getElem? (i := 84) rfl) rfl
theorem q_266 : ((Jvm.Cond.code ({ cls := "AppendOnlyTreeModel", name := "isDir", desc := "(I)Z" } : Jvm.MethodName) prog_5_method_8_code (2 : Nat) (Option.some Jvm.ClassFile.FieldType.boolean)) : Cond) ∈ wT := lw_b (List.mem_of_getElem? (i := 85) rfl) rfl
theorem q_267 : ((Jvm.Cond.methodLink "AppendOnlyTreeModel" (40 : Nat) ({ cls := "AppendOnlyTreeModel", name := "entryCount", desc := "(I)I" } : Jvm.MethodName)) : Cond) ∈ wT := lw_b (List.mem_of_getElem? (i := 86) rfl) rfl
theorem q_268 : ((Jvm.Cond.instanceMethod ({ cls := "AppendOnlyTreeModel", name := "entryCount", desc := "(I)I" } : Jvm.MethodName)) : Cond) ∈ wT := lw_b (List.mem_of_getElem? (i := 88) rfl) rfl
theorem q_269 : ((Jvm.Cond.code ({ cls := "AppendOnlyTreeModel", name := "entryCount", desc := "(I)I" } : Jvm.MethodName) prog_5_method_6_code (4 : Nat) (Option.some Jvm.ClassFile.FieldType.int)) : Cond) ∈ wT := lw_b (List.mem_of_getElem? (i := 89) rfl) rfl
theorem q_270 : ((Jvm.Cond.methodLink "AppendOnlyTreeModel" (44 : Nat) ({ cls := "AppendOnlyTreeModel", name := "nodes", desc := "()I" } : Jvm.MethodName)) : Cond) ∈ wT := lw_b (List.mem_of_getElem? (i := 90) rfl) rfl
theorem q_271 : ((Jvm.Cond.instanceMethod ({ cls := "AppendOnlyTreeModel", name := "nodes", desc := "()I" } : Jvm.MethodName)) : Cond) ∈ wT := lw_b (List.mem_of_getElem? (i := 92) rfl) rfl
theorem q_272 : ((Jvm.Cond.code ({ cls := "AppendOnlyTreeModel", name := "nodes", desc := "()I" } : Jvm.MethodName) prog_5_method_5_code (3 : Nat) (Option.some Jvm.ClassFile.FieldType.int)) : Cond) ∈ wT := lw_b (List.mem_of_getElem? (i := 93) rfl) rfl
theorem q_273 : ((Jvm.Cond.methodLink "AppendOnlyTreeModel" (48 : Nat) ({ cls := "AppendOnlyTreeModel", name := "liesIn", desc := "(II)Z" } : Jvm.MethodName)) : Cond) ∈ wT := lw_b (List.mem_of_getElem? (i := 94) rfl) rfl
theorem q_274 : ((Jvm.Cond.instanceMethod ({ cls := "AppendOnlyTreeModel", name := "liesIn", desc := "(II)Z" } : Jvm.MethodName)) : Cond) ∈ wT := lw_b (List.mem_of_getElem? (i := 96) rfl) rfl
theorem q_275 : ((Jvm.Cond.code ({ cls := "AppendOnlyTreeModel", name := "liesIn", desc := "(II)Z" } : Jvm.MethodName) prog_5_method_9_code (7 : Nat) (Option.some Jvm.ClassFile.FieldType.boolean)) : Cond) ∈ wT := lw_b (List.mem_of_getElem? (i := 97) rfl) rfl
theorem q_276 : ((Jvm.Cond.methodLink "AppendOnlyTreeModel" (68 : Nat) ({ cls := "AppendOnlyTreeModel", name := "cost", desc := "(IIII)I" } : Jvm.MethodName)) : Cond) ∈ wT := lw_b (List.mem_of_getElem? (i := 98) rfl) rfl
theorem q_277 : ((Jvm.Cond.instanceMethod ({ cls := "AppendOnlyTreeModel", name := "cost", desc := "(IIII)I" } : Jvm.MethodName)) : Cond) ∈ wT := lw_b (List.mem_of_getElem? (i := 100) rfl) rfl
theorem q_278 : ((Jvm.Cond.code ({ cls := "AppendOnlyTreeModel", name := "cost", desc := "(IIII)I" } : Jvm.MethodName) prog_5_method_12_code (5 : Nat) (Option.some Jvm.ClassFile.FieldType.int)) : Cond) ∈ wT := lw_b (List.mem_of_getElem? (i := 101) rfl) rfl
theorem q_279 : ((Jvm.Cond.methodLink "AppendOnlyTreeModel" (52 : Nat) ({ cls := "AppendOnlyTreeModel", name := "links", desc := "(I)I" } : Jvm.MethodName)) : Cond) ∈ wT := lw_b (List.mem_of_getElem? (i := 102) rfl) rfl
theorem q_280 : ((Jvm.Cond.instanceMethod ({ cls := "AppendOnlyTreeModel", name := "links", desc := "(I)I" } : Jvm.MethodName)) : Cond) ∈ wT := lw_b (List.mem_of_getElem? (i := 104) rfl) rfl
theorem q_281 : ((Jvm.Cond.code ({ cls := "AppendOnlyTreeModel", name := "links", desc := "(I)I" } : Jvm.MethodName) prog_5_method_7_code (4 : Nat) (Option.some Jvm.ClassFile.FieldType.int)) : Cond) ∈ wT := lw_b (List.mem_of_getElem? (i := 105) rfl) rfl
theorem q_282 : ((Jvm.Cond.methodLink "AppendOnlyTreeModel" (72 : Nat) ({ cls := "AppendOnlyTreeModel", name := "sync", desc := "()I" } : Jvm.MethodName)) : Cond) ∈ wT := lw_b (List.mem_of_getElem? (i := 106) rfl) rfl
theorem q_283 : ((Jvm.Cond.instanceMethod ({ cls := "AppendOnlyTreeModel", name := "sync", desc := "()I" } : Jvm.MethodName)) : Cond) ∈ wT := lw_b (List.mem_of_getElem? (i := 107) rfl) rfl
theorem q_284 : ((Jvm.Cond.selects "AppendOnlyTreeModel" ({ cls := "AppendOnlyTreeModel", name := "sync", desc := "()I" } : Jvm.MethodName) ({ cls := "AppendOnlyTreeModel", name := "sync", desc := "()I" } : Jvm.MethodName)) : Cond) ∈ wT := lw_b (List.mem_of_getElem? (i := 108) rfl) rfl
theorem q_285 : ((Jvm.Cond.code ({ cls := "AppendOnlyTreeModel", name := "sync", desc := "()I" } : Jvm.MethodName) prog_5_method_22_code (1 : Nat) (Option.some Jvm.ClassFile.FieldType.int)) : Cond) ∈ wT := lw_b (List.mem_of_getElem? (i := 109) rfl) rfl
theorem q_286 : ((Jvm.Cond.methodLink "AppendOnlyTreeModel" (84 : Nat) ({ cls := "AppendOnlyTreeModel", name := "settle", desc := "()V" } : Jvm.MethodName)) : Cond) ∈ wT := lw_b (List.mem_of_getElem? (i := 110) rfl) rfl
theorem q_287 : ((Jvm.Cond.instanceMethod ({ cls := "AppendOnlyTreeModel", name := "settle", desc := "()V" } : Jvm.MethodName)) : Cond) ∈ wT := lw_b (List.mem_of_getElem? (i := 112) rfl) rfl
theorem q_288 : ((Jvm.Cond.code ({ cls := "AppendOnlyTreeModel", name := "settle", desc := "()V" } : Jvm.MethodName) prog_5_method_14_code (1 : Nat) (Option.none : Option Jvm.ClassFile.FieldType)) : Cond) ∈ wT := lw_b (List.mem_of_getElem? (i := 113) rfl) rfl
theorem q_289 : ((Jvm.Cond.methodLink "AppendOnlyTreeModel" (61 : Nat) ({ cls := "AppendOnlyTreeModel", name := "live", desc := "()I" } : Jvm.MethodName)) : Cond) ∈ wT := lw_b (List.mem_of_getElem? (i := 114) rfl) rfl
theorem q_290 : ((Jvm.Cond.instanceMethod ({ cls := "AppendOnlyTreeModel", name := "live", desc := "()I" } : Jvm.MethodName)) : Cond) ∈ wT := lw_b (List.mem_of_getElem? (i := 116) rfl) rfl
theorem q_291 : ((Jvm.Cond.code ({ cls := "AppendOnlyTreeModel", name := "live", desc := "()I" } : Jvm.MethodName) prog_5_method_4_code (3 : Nat) (Option.some Jvm.ClassFile.FieldType.int)) : Cond) ∈ wT := lw_b (List.mem_of_getElem? (i := 117) rfl) rfl
theorem q_292 : ((Jvm.Cond.methodLink "AppendOnlyTreeModel" (75 : Nat) ({ cls := "AppendOnlyTreeModel", name := "perform", desc := "(IIIII)I" } : Jvm.MethodName)) : Cond) ∈ wT := lw_b (List.mem_of_getElem? (i := 118) rfl) rfl
theorem q_293 : ((Jvm.Cond.instanceMethod ({ cls := "AppendOnlyTreeModel", name := "perform", desc := "(IIIII)I" } : Jvm.MethodName)) : Cond) ∈ wT := lw_b (List.mem_of_getElem? (i := 120) rfl) rfl
theorem q_294 : ((Jvm.Cond.code ({ cls := "AppendOnlyTreeModel", name := "perform", desc := "(IIIII)I" } : Jvm.MethodName) prog_5_method_13_code (7 : Nat) (Option.some Jvm.ClassFile.FieldType.int)) : Cond) ∈ wT := lw_b (List.mem_of_getElem? (i := 121) rfl) rfl
theorem q_295 : ((Jvm.Cond.methodLink "AppendOnlyTreeModel" (55 : Nat) ({ cls := "AppendOnlyTreeModel", name := "leastAbsent", desc := "()I" } : Jvm.MethodName)) : Cond) ∈ wT := lw_b (List.mem_of_getElem? (i := 122) rfl) rfl
theorem q_296 : ((Jvm.Cond.instanceMethod ({ cls := "AppendOnlyTreeModel", name := "leastAbsent", desc := "()I" } : Jvm.MethodName)) : Cond) ∈ wT := lw_b (List.mem_of_getElem? (i := 124) rfl) rfl
theorem q_297 : ((Jvm.Cond.code ({ cls := "AppendOnlyTreeModel", name := "leastAbsent", desc := "()I" } : Jvm.MethodName) prog_5_method_10_code (2 : Nat) (Option.some Jvm.ClassFile.FieldType.int)) : Cond) ∈ wT := lw_b (List.mem_of_getElem? (i := 125) rfl) rfl
theorem q_298 : ((Jvm.Cond.methodLink "AppendOnlyTreeLaw" (30 : Nat) ({ cls := "AppendOnlyTreeModel", name := "link", desc := "(III)I" } : Jvm.MethodName)) : Cond) ∈ wT := lw_b (List.mem_of_getElem? (i := 126) rfl) rfl
theorem q_299 : ((Jvm.Cond.instanceMethod ({ cls := "AppendOnlyTreeModel", name := "link", desc := "(III)I" } : Jvm.MethodName)) : Cond) ∈ wT := lw_b (List.mem_of_getElem? (i := 127) rfl) rfl
theorem q_300 : ((Jvm.Cond.selects "AppendOnlyTreeModel" ({ cls := "AppendOnlyTreeModel", name := "link", desc := "(III)I" } : Jvm.MethodName) ({ cls := "AppendOnlyTreeModel", name := "link", desc := "(III)I" } : Jvm.MethodName)) : Cond) ∈ wT := lw_b (List.mem_of_getElem? (i := 128) rfl) rfl
theorem q_301 : ((Jvm.Cond.code ({ cls := "AppendOnlyTreeModel", name := "link", desc := "(III)I" } : Jvm.MethodName) prog_5_method_17_code (4 : Nat) (Option.some Jvm.ClassFile.FieldType.int)) : Cond) ∈ wT := lw_b (List.mem_of_getElem? (i := 129) rfl) rfl
theorem q_302 : ((Jvm.Cond.methodLink "AppendOnlyTreeLaw" (35 : Nat) ({ cls := "AppendOnlyTreeModel", name := "remove", desc := "(II)I" } : Jvm.MethodName)) : Cond) ∈ wT := lw_b (List.mem_of_getElem? (i := 130) rfl) rfl
theorem q_303 : ((Jvm.Cond.instanceMethod ({ cls := "AppendOnlyTreeModel", name := "remove", desc := "(II)I" } : Jvm.MethodName)) : Cond) ∈ wT := lw_b (List.mem_of_getElem? (i := 131) rfl) rfl
theorem q_304 : ((Jvm.Cond.selects "AppendOnlyTreeModel" ({ cls := "AppendOnlyTreeModel", name := "remove", desc := "(II)I" } : Jvm.MethodName) ({ cls := "AppendOnlyTreeModel", name := "remove", desc := "(II)I" } : Jvm.MethodName)) : Cond) ∈ wT := lw_b (List.mem_of_getElem? (i := 132) rfl) rfl
theorem q_305 : ((Jvm.Cond.code ({ cls := "AppendOnlyTreeModel", name := "remove", desc := "(II)I" } : Jvm.MethodName) prog_5_method_18_code (3 : Nat) (Option.some Jvm.ClassFile.FieldType.int)) : Cond) ∈ wT := lw_b (List.mem_of_getElem? (i := 133) rfl) rfl
theorem q_306 : ((Jvm.Cond.methodLink "AppendOnlyTreeLaw" (40 : Nat) ({ cls := "AppendOnlyTreeModel", name := "rename", desc := "(IIII)I" } : Jvm.MethodName)) : Cond) ∈ wT := lw_b (List.mem_of_getElem? (i := 134) rfl) rfl
theorem q_307 : ((Jvm.Cond.instanceMethod ({ cls := "AppendOnlyTreeModel", name := "rename", desc := "(IIII)I" } : Jvm.MethodName)) : Cond) ∈ wT := lw_b (List.mem_of_getElem? (i := 135) rfl) rfl
theorem q_308 : ((Jvm.Cond.selects "AppendOnlyTreeModel" ({ cls := "AppendOnlyTreeModel", name := "rename", desc := "(IIII)I" } : Jvm.MethodName) ({ cls := "AppendOnlyTreeModel", name := "rename", desc := "(IIII)I" } : Jvm.MethodName)) : Cond) ∈ wT := lw_b (List.mem_of_getElem? (i := 136) rfl) rfl
theorem q_309 : ((Jvm.Cond.code ({ cls := "AppendOnlyTreeModel", name := "rename", desc := "(IIII)I" } : Jvm.MethodName) prog_5_method_19_code (5 : Nat) (Option.some Jvm.ClassFile.FieldType.int)) : Cond) ∈ wT := lw_b (List.mem_of_getElem? (i := 137) rfl) rfl
theorem q_310 : ((Jvm.Cond.methodLink "AppendOnlyTreeLaw" (44 : Nat) ({ cls := "AppendOnlyTreeModel", name := "write", desc := "(III)I" } : Jvm.MethodName)) : Cond) ∈ wT := lw_b (List.mem_of_getElem? (i := 138) rfl) rfl
theorem q_311 : ((Jvm.Cond.instanceMethod ({ cls := "AppendOnlyTreeModel", name := "write", desc := "(III)I" } : Jvm.MethodName)) : Cond) ∈ wT := lw_b (List.mem_of_getElem? (i := 139) rfl) rfl
theorem q_312 : ((Jvm.Cond.selects "AppendOnlyTreeModel" ({ cls := "AppendOnlyTreeModel", name := "write", desc := "(III)I" } : Jvm.MethodName) ({ cls := "AppendOnlyTreeModel", name := "write", desc := "(III)I" } : Jvm.MethodName)) : Cond) ∈ wT := lw_b (List.mem_of_getElem? (i := 140) rfl) rfl
theorem q_313 : ((Jvm.Cond.code ({ cls := "AppendOnlyTreeModel", name := "write", desc := "(III)I" } : Jvm.MethodName) prog_5_method_20_code (4 : Nat) (Option.some Jvm.ClassFile.FieldType.int)) : Cond) ∈ wT := lw_b (List.mem_of_getElem? (i := 141) rfl) rfl
theorem q_314 : ((Jvm.Cond.methodLink "AppendOnlyTreeLaw" (48 : Nat) ({ cls := "AppendOnlyTreeModel", name := "cut", desc := "(II)I" } : Jvm.MethodName)) : Cond) ∈ wT := lw_b (List.mem_of_getElem? (i := 142) rfl) rfl
theorem q_315 : ((Jvm.Cond.instanceMethod ({ cls := "AppendOnlyTreeModel", name := "cut", desc := "(II)I" } : Jvm.MethodName)) : Cond) ∈ wT := lw_b (List.mem_of_getElem? (i := 143) rfl) rfl
theorem q_316 : ((Jvm.Cond.selects "AppendOnlyTreeModel" ({ cls := "AppendOnlyTreeModel", name := "cut", desc := "(II)I" } : Jvm.MethodName) ({ cls := "AppendOnlyTreeModel", name := "cut", desc := "(II)I" } : Jvm.MethodName)) : Cond) ∈ wT := lw_b (List.mem_of_getElem? (i := 144) rfl) rfl
theorem q_317 : ((Jvm.Cond.code ({ cls := "AppendOnlyTreeModel", name := "cut", desc := "(II)I" } : Jvm.MethodName) prog_5_method_21_code (3 : Nat) (Option.some Jvm.ClassFile.FieldType.int)) : Cond) ∈ wT := lw_b (List.mem_of_getElem? (i := 145) rfl) rfl
theorem q_318 : ((Jvm.Cond.methodLink "AppendOnlyTreeLaw" (53 : Nat) ({ cls := "AppendOnlyTreeModel", name := "sync", desc := "()I" } : Jvm.MethodName)) : Cond) ∈ wT := lw_b (List.mem_of_getElem? (i := 146) rfl) rfl
theorem q_319 : ((Jvm.Cond.methodLink "AppendOnlyTreeLaw" (58 : Nat) ({ cls := "AppendOnlyTreeModel", name := "crash", desc := "(I)I" } : Jvm.MethodName)) : Cond) ∈ wT := lw_b (List.mem_of_getElem? (i := 147) rfl) rfl
theorem q_320 : ((Jvm.Cond.instanceMethod ({ cls := "AppendOnlyTreeModel", name := "crash", desc := "(I)I" } : Jvm.MethodName)) : Cond) ∈ wT := lw_b (List.mem_of_getElem? (i := 148) rfl) rfl
theorem q_321 : ((Jvm.Cond.selects "AppendOnlyTreeModel" ({ cls := "AppendOnlyTreeModel", name := "crash", desc := "(I)I" } : Jvm.MethodName) ({ cls := "AppendOnlyTreeModel", name := "crash", desc := "(I)I" } : Jvm.MethodName)) : Cond) ∈ wT := lw_b (List.mem_of_getElem? (i := 149) rfl) rfl
theorem q_322 : ((Jvm.Cond.code ({ cls := "AppendOnlyTreeModel", name := "crash", desc := "(I)I" } : Jvm.MethodName) prog_5_method_23_code (4 : Nat) (Option.some Jvm.ClassFile.FieldType.int)) : Cond) ∈ wT := lw_b (List.mem_of_getElem? (i := 150) rfl) rfl
theorem q_323 : ((Jvm.Cond.methodLink "AppendOnlyTreeLaw" (62 : Nat) ({ cls := "AppendOnlyTreeModel", name := "find", desc := "(II)I" } : Jvm.MethodName)) : Cond) ∈ wT := lw_b (List.mem_of_getElem? (i := 151) rfl) rfl
theorem q_324 : ((Jvm.Cond.instanceMethod ({ cls := "AppendOnlyTreeModel", name := "find", desc := "(II)I" } : Jvm.MethodName)) : Cond) ∈ wT := lw_b (List.mem_of_getElem? (i := 152) rfl) rfl
theorem q_325 : ((Jvm.Cond.selects "AppendOnlyTreeModel" ({ cls := "AppendOnlyTreeModel", name := "find", desc := "(II)I" } : Jvm.MethodName) ({ cls := "AppendOnlyTreeModel", name := "find", desc := "(II)I" } : Jvm.MethodName)) : Cond) ∈ wT := lw_b (List.mem_of_getElem? (i := 153) rfl) rfl
theorem q_326 : ((Jvm.Cond.code ({ cls := "AppendOnlyTreeModel", name := "find", desc := "(II)I" } : Jvm.MethodName) prog_5_method_24_code (3 : Nat) (Option.some Jvm.ClassFile.FieldType.int)) : Cond) ∈ wT := lw_b (List.mem_of_getElem? (i := 154) rfl) rfl
theorem q_327 : ((Jvm.Cond.methodLink "AppendOnlyTreeLaw" (66 : Nat) ({ cls := "AppendOnlyTreeModel", name := "entry", desc := "(II)I" } : Jvm.MethodName)) : Cond) ∈ wT := lw_b (List.mem_of_getElem? (i := 155) rfl) rfl
theorem q_328 : ((Jvm.Cond.instanceMethod ({ cls := "AppendOnlyTreeModel", name := "entry", desc := "(II)I" } : Jvm.MethodName)) : Cond) ∈ wT := lw_b (List.mem_of_getElem? (i := 156) rfl) rfl
theorem q_329 : ((Jvm.Cond.selects "AppendOnlyTreeModel" ({ cls := "AppendOnlyTreeModel", name := "entry", desc := "(II)I" } : Jvm.MethodName) ({ cls := "AppendOnlyTreeModel", name := "entry", desc := "(II)I" } : Jvm.MethodName)) : Cond) ∈ wT := lw_b (List.mem_of_getElem? (i := 157) rfl) rfl
theorem q_330 : ((Jvm.Cond.code ({ cls := "AppendOnlyTreeModel", name := "entry", desc := "(II)I" } : Jvm.MethodName) prog_5_method_25_code (5 : Nat) (Option.some Jvm.ClassFile.FieldType.int)) : Cond) ∈ wT := lw_b (List.mem_of_getElem? (i := 158) rfl) rfl
theorem q_331 : ((Jvm.Cond.methodLink "AppendOnlyTreeLaw" (71 : Nat) ({ cls := "AppendOnlyTreeModel", name := "read", desc := "(II)J" } : Jvm.MethodName)) : Cond) ∈ wT := lw_b (List.mem_of_getElem? (i := 159) rfl) rfl
theorem q_332 : ((Jvm.Cond.instanceMethod ({ cls := "AppendOnlyTreeModel", name := "read", desc := "(II)J" } : Jvm.MethodName)) : Cond) ∈ wT := lw_b (List.mem_of_getElem? (i := 160) rfl) rfl
theorem q_333 : ((Jvm.Cond.selects "AppendOnlyTreeModel" ({ cls := "AppendOnlyTreeModel", name := "read", desc := "(II)J" } : Jvm.MethodName) ({ cls := "AppendOnlyTreeModel", name := "read", desc := "(II)J" } : Jvm.MethodName)) : Cond) ∈ wT := lw_b (List.mem_of_getElem? (i := 161) rfl) rfl
theorem q_334 : ((Jvm.Cond.code ({ cls := "AppendOnlyTreeModel", name := "read", desc := "(II)J" } : Jvm.MethodName) prog_5_method_26_code (3 : Nat) (Option.some Jvm.ClassFile.FieldType.long)) : Cond) ∈ wT := lw_b (List.mem_of_getElem? (i := 162) rfl) rfl
theorem q_335 : ((Jvm.Cond.constantLong "AppendOnlyTreeModel" (90 : Nat) (1000000000000 : Int64)) : Cond) ∈ wT := lw_b (List.mem_of_getElem? (i := 163) rfl) rfl
theorem q_336 : ((Jvm.Cond.methodLink "AppendOnlyTreeLaw" (75 : Nat) ({ cls := "AppendOnlyTreeModel", name := "tell", desc := "(II)I" } : Jvm.MethodName)) : Cond) ∈ wT := lw_b (List.mem_of_getElem? (i := 164) rfl) rfl
theorem q_337 : ((Jvm.Cond.instanceMethod ({ cls := "AppendOnlyTreeModel", name := "tell", desc := "(II)I" } : Jvm.MethodName)) : Cond) ∈ wT := lw_b (List.mem_of_getElem? (i := 165) rfl) rfl
theorem q_338 : ((Jvm.Cond.selects "AppendOnlyTreeModel" ({ cls := "AppendOnlyTreeModel", name := "tell", desc := "(II)I" } : Jvm.MethodName) ({ cls := "AppendOnlyTreeModel", name := "tell", desc := "(II)I" } : Jvm.MethodName)) : Cond) ∈ wT := lw_b (List.mem_of_getElem? (i := 166) rfl) rfl
theorem q_339 : ((Jvm.Cond.code ({ cls := "AppendOnlyTreeModel", name := "tell", desc := "(II)I" } : Jvm.MethodName) prog_5_method_27_code (3 : Nat) (Option.some Jvm.ClassFile.FieldType.int)) : Cond) ∈ wT := lw_b (List.mem_of_getElem? (i := 167) rfl) rfl
theorem q_340 : ((Jvm.Cond.methodLink "AppendOnlyTreeLaw" (79 : Nat) ({ cls := "AppendOnlyTreeModel", name := "count", desc := "(I)I" } : Jvm.MethodName)) : Cond) ∈ wT := lw_b (List.mem_of_getElem? (i := 168) rfl) rfl
theorem q_341 : ((Jvm.Cond.instanceMethod ({ cls := "AppendOnlyTreeModel", name := "count", desc := "(I)I" } : Jvm.MethodName)) : Cond) ∈ wT := lw_b (List.mem_of_getElem? (i := 169) rfl) rfl
theorem q_342 : ((Jvm.Cond.selects "AppendOnlyTreeModel" ({ cls := "AppendOnlyTreeModel", name := "count", desc := "(I)I" } : Jvm.MethodName) ({ cls := "AppendOnlyTreeModel", name := "count", desc := "(I)I" } : Jvm.MethodName)) : Cond) ∈ wT := lw_b (List.mem_of_getElem? (i := 170) rfl) rfl
theorem q_343 : ((Jvm.Cond.code ({ cls := "AppendOnlyTreeModel", name := "count", desc := "(I)I" } : Jvm.MethodName) prog_5_method_28_code (2 : Nat) (Option.some Jvm.ClassFile.FieldType.int)) : Cond) ∈ wT := lw_b (List.mem_of_getElem? (i := 171) rfl) rfl
theorem q_344 : (.selects "AppendOnlyTree" ⟨"AppendOnlyTree", "makesRoom", "(II)Z"⟩ ⟨"AppendOnlyTree", "makesRoom", "(II)Z"⟩ : Cond) ∈ wT := lw_s (List.mem_of_getElem? (i := 0) rfl) rfl
theorem q_345 : (.selects "AppendOnlyTree" ⟨"AppendOnlyTree", "countedSync", "()V"⟩ ⟨"AppendOnlyTree", "countedSync", "()V"⟩ : Cond) ∈ wT := lw_s (List.mem_of_getElem? (i := 1) rfl) rfl
theorem q_346 : (.selects "AppendOnlyTree" ⟨"AppendOnlyTree", "startAfresh", "()V"⟩ ⟨"AppendOnlyTree", "startAfresh", "()V"⟩ : Cond) ∈ wT := lw_s (List.mem_of_getElem? (i := 2) rfl) rfl
theorem q_347 : (.selects "AppendOnlyTree" ⟨"AppendOnlyTree", "perform", "(IIIIII)V"⟩ ⟨"AppendOnlyTree", "perform", "(IIIIII)V"⟩ : Cond) ∈ wT := lw_s (List.mem_of_getElem? (i := 3) rfl) rfl
theorem q_348 : (.selects "AppendOnlyTree$Tree" ⟨"AppendOnlyTree$Tree", "takeEntry", "(II)I"⟩ ⟨"AppendOnlyTree$Tree", "takeEntry", "(II)I"⟩ : Cond) ∈ wT := lw_s (List.mem_of_getElem? (i := 4) rfl) rfl
theorem q_349 : (.selects "AppendOnlyTreeModel" ⟨"AppendOnlyTreeModel", "copy", "(II)V"⟩ ⟨"AppendOnlyTreeModel", "copy", "(II)V"⟩ : Cond) ∈ wT := lw_s (List.mem_of_getElem? (i := 5) rfl) rfl
theorem q_350 : (.selects "AppendOnlyTreeModel" ⟨"AppendOnlyTreeModel", "attempt", "(IIIII)I"⟩ ⟨"AppendOnlyTreeModel", "attempt", "(IIIII)I"⟩ : Cond) ∈ wT := lw_s (List.mem_of_getElem? (i := 6) rfl) rfl
theorem q_351 : (.selects "AppendOnlyTreeModel" ⟨"AppendOnlyTreeModel", "objection", "(IIIII)I"⟩ ⟨"AppendOnlyTreeModel", "objection", "(IIIII)I"⟩ : Cond) ∈ wT := lw_s (List.mem_of_getElem? (i := 7) rfl) rfl
theorem q_352 : (.selects "AppendOnlyTreeModel" ⟨"AppendOnlyTreeModel", "isDir", "(I)Z"⟩ ⟨"AppendOnlyTreeModel", "isDir", "(I)Z"⟩ : Cond) ∈ wT := lw_s (List.mem_of_getElem? (i := 8) rfl) rfl
theorem q_353 : (.selects "AppendOnlyTreeModel" ⟨"AppendOnlyTreeModel", "entryCount", "(I)I"⟩ ⟨"AppendOnlyTreeModel", "entryCount", "(I)I"⟩ : Cond) ∈ wT := lw_s (List.mem_of_getElem? (i := 9) rfl) rfl
theorem q_354 : (.selects "AppendOnlyTreeModel" ⟨"AppendOnlyTreeModel", "nodes", "()I"⟩ ⟨"AppendOnlyTreeModel", "nodes", "()I"⟩ : Cond) ∈ wT := lw_s (List.mem_of_getElem? (i := 10) rfl) rfl
theorem q_355 : (.selects "AppendOnlyTreeModel" ⟨"AppendOnlyTreeModel", "liesIn", "(II)Z"⟩ ⟨"AppendOnlyTreeModel", "liesIn", "(II)Z"⟩ : Cond) ∈ wT := lw_s (List.mem_of_getElem? (i := 11) rfl) rfl
theorem q_356 : (.selects "AppendOnlyTreeModel" ⟨"AppendOnlyTreeModel", "cost", "(IIII)I"⟩ ⟨"AppendOnlyTreeModel", "cost", "(IIII)I"⟩ : Cond) ∈ wT := lw_s (List.mem_of_getElem? (i := 12) rfl) rfl
theorem q_357 : (.selects "AppendOnlyTreeModel" ⟨"AppendOnlyTreeModel", "links", "(I)I"⟩ ⟨"AppendOnlyTreeModel", "links", "(I)I"⟩ : Cond) ∈ wT := lw_s (List.mem_of_getElem? (i := 13) rfl) rfl
theorem q_358 : (.selects "AppendOnlyTreeModel" ⟨"AppendOnlyTreeModel", "settle", "()V"⟩ ⟨"AppendOnlyTreeModel", "settle", "()V"⟩ : Cond) ∈ wT := lw_s (List.mem_of_getElem? (i := 14) rfl) rfl
theorem q_359 : (.selects "AppendOnlyTreeModel" ⟨"AppendOnlyTreeModel", "live", "()I"⟩ ⟨"AppendOnlyTreeModel", "live", "()I"⟩ : Cond) ∈ wT := lw_s (List.mem_of_getElem? (i := 15) rfl) rfl
theorem q_360 : (.selects "AppendOnlyTreeModel" ⟨"AppendOnlyTreeModel", "perform", "(IIIII)I"⟩ ⟨"AppendOnlyTreeModel", "perform", "(IIIII)I"⟩ : Cond) ∈ wT := lw_s (List.mem_of_getElem? (i := 16) rfl) rfl
theorem q_361 : (.selects "AppendOnlyTreeModel" ⟨"AppendOnlyTreeModel", "leastAbsent", "()I"⟩ ⟨"AppendOnlyTreeModel", "leastAbsent", "()I"⟩ : Cond) ∈ wT := lw_s (List.mem_of_getElem? (i := 17) rfl) rfl
