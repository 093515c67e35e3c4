section
-- ===== PART A: goes FIRST, ahead of the names: the tables' words, and 'selects' of the private methods out of them =====
/-- a private method of a class that the tables say can be made, by its rows of tables_1 -/
def lw_okq (q : MethodName × Nat) : Prop := (q.1.cls ≠ "java/lang/invoke/MethodHandle" ∧ q.1.cls ≠ "java/lang/invoke/VarHandle") ∧ Cond.instantiable q.1.cls q.2 ∈ tables_1 ∧ Cond.privateMethod q.1 ∈ tables_1 ∧ Cond.instanceMethod q.1 ∈ tables_1
theorem lw_p0 : lw_okq (⟨"ColumnIndex", "arrangeText", "()V"⟩, 6) := ⟨⟨by decide +kernel, by decide +kernel⟩, List.mem_of_getElem? (i := 10) (by decide +kernel), List.mem_of_getElem? (i := 130) (by decide +kernel), List.mem_of_getElem? (i := 131) (by decide +kernel)⟩
theorem lw_p1 : lw_okq (⟨"ColumnIndex$SuffixOrder", "rankAmongShorter", "(LColumnIndex$ByteRow;I)V"⟩, 4) := ⟨⟨by decide +kernel, by decide +kernel⟩, List.mem_of_getElem? (i := 38) (by decide +kernel), List.mem_of_getElem? (i := 138) (by decide +kernel), List.mem_of_getElem? (i := 139) (by decide +kernel)⟩
theorem lw_p2 : lw_okq (⟨"ColumnIndex$SuffixOrder", "shorterIsBefore", "(LColumnIndex$ByteRow;II)Z"⟩, 4) := ⟨⟨by decide +kernel, by decide +kernel⟩, List.mem_of_getElem? (i := 38) (by decide +kernel), List.mem_of_getElem? (i := 142) (by decide +kernel), List.mem_of_getElem? (i := 143) (by decide +kernel)⟩
theorem lw_p3 : lw_okq (⟨"ColumnIndex$FrontList", "startAgain", "()V"⟩, 2) := ⟨⟨by decide +kernel, by decide +kernel⟩, List.mem_of_getElem? (i := 61) (by decide +kernel), List.mem_of_getElem? (i := 157) (by decide +kernel), List.mem_of_getElem? (i := 158) (by decide +kernel)⟩
theorem lw_p4 : lw_okq (⟨"ColumnIndex$FrontList", "moveToFront", "(I)I"⟩, 2) := ⟨⟨by decide +kernel, by decide +kernel⟩, List.mem_of_getElem? (i := 61) (by decide +kernel), List.mem_of_getElem? (i := 161) (by decide +kernel), List.mem_of_getElem? (i := 162) (by decide +kernel)⟩
theorem lw_p5 : lw_okq (⟨"ColumnIndex", "isSuffix", "(I)Z"⟩, 6) := ⟨⟨by decide +kernel, by decide +kernel⟩, List.mem_of_getElem? (i := 10) (by decide +kernel), List.mem_of_getElem? (i := 178) (by decide +kernel), List.mem_of_getElem? (i := 179) (by decide +kernel)⟩
theorem lw_p6 : lw_okq (⟨"ColumnIndex", "countHits", "()I"⟩, 6) := ⟨⟨by decide +kernel, by decide +kernel⟩, List.mem_of_getElem? (i := 10) (by decide +kernel), List.mem_of_getElem? (i := 211) (by decide +kernel), List.mem_of_getElem? (i := 212) (by decide +kernel)⟩
theorem lw_p7 : lw_okq (⟨"ColumnIndex", "patternStandsAt", "(I)Z"⟩, 6) := ⟨⟨by decide +kernel, by decide +kernel⟩, List.mem_of_getElem? (i := 10) (by decide +kernel), List.mem_of_getElem? (i := 215) (by decide +kernel), List.mem_of_getElem? (i := 216) (by decide +kernel)⟩
theorem lw_p8 : lw_okq (⟨"ColumnIndex", "comesBeforePattern", "(I)Z"⟩, 6) := ⟨⟨by decide +kernel, by decide +kernel⟩, List.mem_of_getElem? (i := 10) (by decide +kernel), List.mem_of_getElem? (i := 232) (by decide +kernel), List.mem_of_getElem? (i := 233) (by decide +kernel)⟩
theorem lw_p9 : lw_okq (⟨"ColumnIndex$ColumnReader", "rankOfLonger", "(I)I"⟩, 2) := ⟨⟨by decide +kernel, by decide +kernel⟩, List.mem_of_getElem? (i := 75) (by decide +kernel), List.mem_of_getElem? (i := 259) (by decide +kernel), List.mem_of_getElem? (i := 260) (by decide +kernel)⟩
theorem lw_p10 : lw_okq (⟨"ColumnIndexModel", "take", "()V"⟩, 10) := ⟨⟨by decide +kernel, by decide +kernel⟩, List.mem_of_getElem? (i := 264) (by decide +kernel), List.mem_of_getElem? (i := 310) (by decide +kernel), List.mem_of_getElem? (i := 311) (by decide +kernel)⟩
theorem lw_p11 : lw_okq (⟨"ColumnIndexModel", "sort", "()V"⟩, 10) := ⟨⟨by decide +kernel, by decide +kernel⟩, List.mem_of_getElem? (i := 264) (by decide +kernel), List.mem_of_getElem? (i := 314) (by decide +kernel), List.mem_of_getElem? (i := 315) (by decide +kernel)⟩
theorem lw_p12 : lw_okq (⟨"ColumnIndexModel", "isBefore", "(II)Z"⟩, 10) := ⟨⟨by decide +kernel, by decide +kernel⟩, List.mem_of_getElem? (i := 264) (by decide +kernel), List.mem_of_getElem? (i := 318) (by decide +kernel), List.mem_of_getElem? (i := 319) (by decide +kernel)⟩
theorem lw_p13 : lw_okq (⟨"ColumnIndexModel", "alike", "(II)I"⟩, 10) := ⟨⟨by decide +kernel, by decide +kernel⟩, List.mem_of_getElem? (i := 264) (by decide +kernel), List.mem_of_getElem? (i := 322) (by decide +kernel), List.mem_of_getElem? (i := 323) (by decide +kernel)⟩
theorem lw_p14 : lw_okq (⟨"ColumnIndexModel", "before", "(I)I"⟩, 10) := ⟨⟨by decide +kernel, by decide +kernel⟩, List.mem_of_getElem? (i := 264) (by decide +kernel), List.mem_of_getElem? (i := 346) (by decide +kernel), List.mem_of_getElem? (i := 347) (by decide +kernel)⟩
theorem lw_p15 : lw_okq (⟨"ColumnIndexModel", "hits", "()I"⟩, 10) := ⟨⟨by decide +kernel, by decide +kernel⟩, List.mem_of_getElem? (i := 264) (by decide +kernel), List.mem_of_getElem? (i := 370) (by decide +kernel), List.mem_of_getElem? (i := 371) (by decide +kernel)⟩
def lw_privs_1 : List (MethodName × Nat) := [(⟨"ColumnIndex", "arrangeText", "()V"⟩, 6), (⟨"ColumnIndex$SuffixOrder", "rankAmongShorter", "(LColumnIndex$ByteRow;I)V"⟩, 4), (⟨"ColumnIndex$SuffixOrder", "shorterIsBefore", "(LColumnIndex$ByteRow;II)Z"⟩, 4), (⟨"ColumnIndex$FrontList", "startAgain", "()V"⟩, 2), (⟨"ColumnIndex$FrontList", "moveToFront", "(I)I"⟩, 2), (⟨"ColumnIndex", "isSuffix", "(I)Z"⟩, 6), (⟨"ColumnIndex", "countHits", "()I"⟩, 6), (⟨"ColumnIndex", "patternStandsAt", "(I)Z"⟩, 6), (⟨"ColumnIndex", "comesBeforePattern", "(I)Z"⟩, 6), (⟨"ColumnIndex$ColumnReader", "rankOfLonger", "(I)I"⟩, 2), (⟨"ColumnIndexModel", "take", "()V"⟩, 10), (⟨"ColumnIndexModel", "sort", "()V"⟩, 10), (⟨"ColumnIndexModel", "isBefore", "(II)Z"⟩, 10), (⟨"ColumnIndexModel", "alike", "(II)I"⟩, 10), (⟨"ColumnIndexModel", "before", "(I)I"⟩, 10), (⟨"ColumnIndexModel", "hits", "()I"⟩, 10)]
theorem lw_r1 : ∀ q ∈ lw_privs_1, lw_okq q := List.forall_mem_cons.mpr ⟨lw_p0, List.forall_mem_cons.mpr ⟨lw_p1, List.forall_mem_cons.mpr ⟨lw_p2, List.forall_mem_cons.mpr ⟨lw_p3, List.forall_mem_cons.mpr ⟨lw_p4, List.forall_mem_cons.mpr ⟨lw_p5, List.forall_mem_cons.mpr ⟨lw_p6, List.forall_mem_cons.mpr ⟨lw_p7, List.forall_mem_cons.mpr ⟨lw_p8, List.forall_mem_cons.mpr ⟨lw_p9, List.forall_mem_cons.mpr ⟨lw_p10, List.forall_mem_cons.mpr ⟨lw_p11, List.forall_mem_cons.mpr ⟨lw_p12, List.forall_mem_cons.mpr ⟨lw_p13, List.forall_mem_cons.mpr ⟨lw_p14, List.forall_mem_cons.mpr ⟨lw_p15, fun _ h => absurd h List.not_mem_nil⟩⟩⟩⟩⟩⟩⟩⟩⟩⟩⟩⟩⟩⟩⟩⟩
theorem lw_p16 : lw_okq (⟨"ColumnIndexModel", "fits", "(II)I"⟩, 10) := ⟨⟨by decide +kernel, by decide +kernel⟩, List.mem_of_getElem? (i := 264) (by decide +kernel), List.mem_of_getElem? (i := 374) (by decide +kernel), List.mem_of_getElem? (i := 375) (by decide +kernel)⟩
theorem lw_p17 : lw_okq (⟨"ColumnIndexModel", "turnBack", "(I)Z"⟩, 10) := ⟨⟨by decide +kernel, by decide +kernel⟩, List.mem_of_getElem? (i := 264) (by decide +kernel), List.mem_of_getElem? (i := 398) (by decide +kernel), List.mem_of_getElem? (i := 399) (by decide +kernel)⟩
theorem lw_p18 : lw_okq (⟨"ColumnIndexModel", "longer", "(II)I"⟩, 10) := ⟨⟨by decide +kernel, by decide +kernel⟩, List.mem_of_getElem? (i := 264) (by decide +kernel), List.mem_of_getElem? (i := 402) (by decide +kernel), List.mem_of_getElem? (i := 403) (by decide +kernel)⟩
def lw_privs_2 : List (MethodName × Nat) := [(⟨"ColumnIndexModel", "fits", "(II)I"⟩, 10), (⟨"ColumnIndexModel", "turnBack", "(I)Z"⟩, 10), (⟨"ColumnIndexModel", "longer", "(II)I"⟩, 10)]
theorem lw_r2 : ∀ q ∈ lw_privs_2, lw_okq q := List.forall_mem_cons.mpr ⟨lw_p16, List.forall_mem_cons.mpr ⟨lw_p17, List.forall_mem_cons.mpr ⟨lw_p18, fun _ h => absurd h List.not_mem_nil⟩⟩⟩
def lw_privs : List (MethodName × Nat) := lw_privs_1 ++ (lw_privs_2)
def lw_tbl : List Cond := k2_sels lw_privs ++ tables_1
theorem lw_privs_ok : ∀ q ∈ lw_privs, lw_okq q := by
  show ∀ q ∈ lw_privs_1 ++ (lw_privs_2), lw_okq q
  exact List.forall_mem_append.mpr ⟨lw_r1, lw_r2⟩
end
section
def bw : List Cond := lw_tbl.filter goodWord
theorem bw_of {w : Cond} (h : w ∈ lw_tbl) (g : goodWord w = true) : w ∈ bw := List.mem_filter.mpr ⟨h, g⟩
def R_BR : String := "ColumnIndex$ByteRow"
def T_BR : u_T := fun k => match k with
  | 0 => ("ColumnIndex$ByteRow", "bytes", "[I", true)
  | _ => ("ColumnIndex$ByteRow", "length", "I", false)
def ty_BR : Nat → FieldType := fun k => match k with
  | 0 => .array .int
  | _ => .int
theorem nm_BR : ∀ a, a < 2 → ∀ b, b < 2 → a ≠ b → (T_BR a).2.1 ≠ (T_BR b).2.1 := by decide +kernel
theorem ok_BR : ∀ k, k < 2 → parseFieldDescriptor (T_BR k).2.2.1 = some (ty_BR k) := by decide +kernel
theorem win0_BR : ∀ w ∈ u_ws R_BR T_BR 2, w ∈ bw := by decide +kernel
def R_CR : String := "ColumnIndex$ColumnReader"
def T_CR : u_T := fun k => match k with
  | 0 => ("ColumnIndex$ColumnReader", "column", "[I", true)
  | _ => ("ColumnIndex$ColumnReader", "lastRank", "I", false)
def ty_CR : Nat → FieldType := fun k => match k with
  | 0 => .array .int
  | _ => .int
theorem nm_CR : ∀ a, a < 2 → ∀ b, b < 2 → a ≠ b → (T_CR a).2.1 ≠ (T_CR b).2.1 := by decide +kernel
theorem ok_CR : ∀ k, k < 2 → parseFieldDescriptor (T_CR k).2.2.1 = some (ty_CR k) := by decide +kernel
theorem win0_CR : ∀ w ∈ u_ws R_CR T_CR 2, w ∈ bw := by decide +kernel
def R_FL : String := "ColumnIndex$FrontList"
def T_FL : u_T := fun k => match k with
  | 0 => ("ColumnIndex$FrontList", "numberAt", "[I", true)
  | _ => ("ColumnIndex$FrontList", "list", "[I", true)
def ty_FL : Nat → FieldType := fun k => match k with
  | 0 => .array .int
  | _ => .array .int
theorem nm_FL : ∀ a, a < 2 → ∀ b, b < 2 → a ≠ b → (T_FL a).2.1 ≠ (T_FL b).2.1 := by decide +kernel
theorem ok_FL : ∀ k, k < 2 → parseFieldDescriptor (T_FL k).2.2.1 = some (ty_FL k) := by decide +kernel
theorem win0_FL : ∀ w ∈ u_ws R_FL T_FL 2, w ∈ bw := by decide +kernel
def R_SO : String := "ColumnIndex$SuffixOrder"
def T_SO : u_T := fun k => match k with
  | 0 => ("ColumnIndex$SuffixOrder", "suffixAt", "[I", true)
  | 1 => ("ColumnIndex$SuffixOrder", "rankOf", "[I", true)
  | 2 => ("ColumnIndex$SuffixOrder", "commonAt", "[I", true)
  | _ => ("ColumnIndex$SuffixOrder", "columnAt", "[I", true)
def ty_SO : Nat → FieldType := fun k => match k with
  | 0 => .array .int
  | 1 => .array .int
  | 2 => .array .int
  | _ => .array .int
theorem nm_SO : ∀ a, a < 4 → ∀ b, b < 4 → a ≠ b → (T_SO a).2.1 ≠ (T_SO b).2.1 := by decide +kernel
theorem ok_SO : ∀ k, k < 4 → parseFieldDescriptor (T_SO k).2.2.1 = some (ty_SO k) := by decide +kernel
theorem win0_SO : ∀ w ∈ u_ws R_SO T_SO 4, w ∈ bw := by decide +kernel
def R_CX : String := "ColumnIndex"
def T_CX : u_T := fun k => match k with
  | 0 => ("ColumnIndex", "typed", "LColumnIndex$ByteRow;", true)
  | 1 => ("ColumnIndex", "text", "LColumnIndex$ByteRow;", true)
  | 2 => ("ColumnIndex", "pattern", "LColumnIndex$ByteRow;", true)
  | 3 => ("ColumnIndex", "order", "LColumnIndex$SuffixOrder;", true)
  | 4 => ("ColumnIndex", "front", "LColumnIndex$FrontList;", true)
  | _ => ("ColumnIndex", "reader", "LColumnIndex$ColumnReader;", true)
def ty_CX : Nat → FieldType := fun k => match k with
  | 0 => .object "ColumnIndex$ByteRow"
  | 1 => .object "ColumnIndex$ByteRow"
  | 2 => .object "ColumnIndex$ByteRow"
  | 3 => .object "ColumnIndex$SuffixOrder"
  | 4 => .object "ColumnIndex$FrontList"
  | _ => .object "ColumnIndex$ColumnReader"
theorem nm_CX : ∀ a, a < 6 → ∀ b, b < 6 → a ≠ b → (T_CX a).2.1 ≠ (T_CX b).2.1 := by decide +kernel
theorem ok_CX : ∀ k, k < 6 → parseFieldDescriptor (T_CX k).2.2.1 = some (ty_CX k) := by decide +kernel
theorem win0_CX : ∀ w ∈ u_ws R_CX T_CX 6, w ∈ bw := by decide +kernel
def R_MO : String := "ColumnIndexModel"
def T_MO : u_T := fun k => match k with
  | 0 => ("ColumnIndexModel", "typed", "I", false)
  | 1 => ("ColumnIndexModel", "typing", "[I", true)
  | 2 => ("ColumnIndexModel", "n", "I", false)
  | 3 => ("ColumnIndexModel", "text", "[I", true)
  | 4 => ("ColumnIndexModel", "order", "[I", true)
  | 5 => ("ColumnIndexModel", "length", "I", false)
  | 6 => ("ColumnIndexModel", "pattern", "[I", true)
  | 7 => ("ColumnIndexModel", "list", "[I", true)
  | 8 => ("ColumnIndexModel", "given", "[I", true)
  | _ => ("ColumnIndexModel", "old", "[I", true)
def ty_MO : Nat → FieldType := fun k => match k with
  | 0 => .int
  | 1 => .array .int
  | 2 => .int
  | 3 => .array .int
  | 4 => .array .int
  | 5 => .int
  | 6 => .array .int
  | 7 => .array .int
  | 8 => .array .int
  | _ => .array .int
theorem nm_MO : ∀ a, a < 10 → ∀ b, b < 10 → a ≠ b → (T_MO a).2.1 ≠ (T_MO b).2.1 := by decide +kernel
theorem ok_MO : ∀ k, k < 10 → parseFieldDescriptor (T_MO k).2.2.1 = some (ty_MO k) := by decide +kernel
theorem win0_MO : ∀ w ∈ u_ws R_MO T_MO 10, w ∈ bw := by decide +kernel
abbrev vwCl : List vw_C := [(R_BR, T_BR, 2), (R_CR, T_CR, 2), (R_FL, T_FL, 2), (R_SO, T_SO, 4), (R_CX, T_CX, 6), (R_MO, T_MO, 10)]
def R_LW : String := "ColumnIndexLaw"
abbrev b_CX_init : ByteArray := prog_1_method_1_code
def y_CX_init : MethodName := ⟨R_CX, "<init>", "()V"⟩
abbrev b_CX_type : ByteArray := prog_1_method_2_code
def y_CX_type : MethodName := ⟨R_CX, "type", "(JI)I"⟩
abbrev b_CX_build : ByteArray := prog_1_method_3_code
def y_CX_build : MethodName := ⟨R_CX, "build", "()I"⟩
abbrev b_CX_size : ByteArray := prog_1_method_4_code
def y_CX_size : MethodName := ⟨R_CX, "size", "()I"⟩
abbrev b_CX_at : ByteArray := prog_1_method_5_code
def y_CX_at : MethodName := ⟨R_CX, "at", "(I)I"⟩
abbrev b_CX_suffix : ByteArray := prog_1_method_6_code
def y_CX_suffix : MethodName := ⟨R_CX, "suffix", "(I)I"⟩
abbrev b_CX_rank : ByteArray := prog_1_method_7_code
def y_CX_rank : MethodName := ⟨R_CX, "rank", "(I)I"⟩
abbrev b_CX_column : ByteArray := prog_1_method_8_code
def y_CX_column : MethodName := ⟨R_CX, "column", "(I)I"⟩
abbrev b_CX_common : ByteArray := prog_1_method_9_code
def y_CX_common : MethodName := ⟨R_CX, "common", "(I)I"⟩
abbrev b_CX_moved : ByteArray := prog_1_method_10_code
def y_CX_moved : MethodName := ⟨R_CX, "moved", "(I)I"⟩
abbrev b_CX_distinct : ByteArray := prog_1_method_11_code
def y_CX_distinct : MethodName := ⟨R_CX, "distinct", "()I"⟩
abbrev b_CX_repeat : ByteArray := prog_1_method_12_code
def y_CX_repeat : MethodName := ⟨R_CX, "repeat", "()I"⟩
abbrev b_CX_seek : ByteArray := prog_1_method_13_code
def y_CX_seek : MethodName := ⟨R_CX, "seek", "()I"⟩
abbrev b_CX_extend : ByteArray := prog_1_method_14_code
def y_CX_extend : MethodName := ⟨R_CX, "extend", "(I)I"⟩
abbrev b_CX_before : ByteArray := prog_1_method_15_code
def y_CX_before : MethodName := ⟨R_CX, "before", "()I"⟩
abbrev b_CX_hit : ByteArray := prog_1_method_16_code
def y_CX_hit : MethodName := ⟨R_CX, "hit", "(I)I"⟩
abbrev b_CX_match : ByteArray := prog_1_method_17_code
def y_CX_match : MethodName := ⟨R_CX, "match", "(I)I"⟩
abbrev b_CX_revert : ByteArray := prog_1_method_18_code
def y_CX_revert : MethodName := ⟨R_CX, "revert", "(I)I"⟩
abbrev b_CX_arrangeText : ByteArray := prog_1_method_19_code
def y_CX_arrangeText : MethodName := ⟨R_CX, "arrangeText", "()V"⟩
abbrev b_CX_isSuffix : ByteArray := prog_1_method_20_code
def y_CX_isSuffix : MethodName := ⟨R_CX, "isSuffix", "(I)Z"⟩
abbrev b_CX_countHits : ByteArray := prog_1_method_21_code
def y_CX_countHits : MethodName := ⟨R_CX, "countHits", "()I"⟩
abbrev b_CX_patternStandsAt : ByteArray := prog_1_method_22_code
def y_CX_patternStandsAt : MethodName := ⟨R_CX, "patternStandsAt", "(I)Z"⟩
abbrev b_CX_comesBeforePattern : ByteArray := prog_1_method_23_code
def y_CX_comesBeforePattern : MethodName := ⟨R_CX, "comesBeforePattern", "(I)Z"⟩
abbrev b_MO_init : ByteArray := prog_7_method_1_code
def y_MO_init : MethodName := ⟨R_MO, "<init>", "()V"⟩
abbrev b_MO_type : ByteArray := prog_7_method_2_code
def y_MO_type : MethodName := ⟨R_MO, "type", "(JI)I"⟩
abbrev b_MO_alike : ByteArray := prog_7_method_3_code
def y_MO_alike : MethodName := ⟨R_MO, "alike", "(II)I"⟩
abbrev b_MO_isBefore : ByteArray := prog_7_method_4_code
def y_MO_isBefore : MethodName := ⟨R_MO, "isBefore", "(II)Z"⟩
abbrev b_MO_sort : ByteArray := prog_7_method_5_code
def y_MO_sort : MethodName := ⟨R_MO, "sort", "()V"⟩
abbrev b_MO_take : ByteArray := prog_7_method_6_code
def y_MO_take : MethodName := ⟨R_MO, "take", "()V"⟩
abbrev b_MO_build : ByteArray := prog_7_method_7_code
def y_MO_build : MethodName := ⟨R_MO, "build", "()I"⟩
abbrev b_MO_size : ByteArray := prog_7_method_8_code
def y_MO_size : MethodName := ⟨R_MO, "size", "()I"⟩
abbrev b_MO_at : ByteArray := prog_7_method_9_code
def y_MO_at : MethodName := ⟨R_MO, "at", "(I)I"⟩
abbrev b_MO_suffix : ByteArray := prog_7_method_10_code
def y_MO_suffix : MethodName := ⟨R_MO, "suffix", "(I)I"⟩
abbrev b_MO_rank : ByteArray := prog_7_method_11_code
def y_MO_rank : MethodName := ⟨R_MO, "rank", "(I)I"⟩
abbrev b_MO_before1 : ByteArray := prog_7_method_12_code
def y_MO_before1 : MethodName := ⟨R_MO, "before", "(I)I"⟩
abbrev b_MO_column : ByteArray := prog_7_method_13_code
def y_MO_column : MethodName := ⟨R_MO, "column", "(I)I"⟩
abbrev b_MO_common : ByteArray := prog_7_method_14_code
def y_MO_common : MethodName := ⟨R_MO, "common", "(I)I"⟩
abbrev b_MO_moved : ByteArray := prog_7_method_15_code
def y_MO_moved : MethodName := ⟨R_MO, "moved", "(I)I"⟩
abbrev b_MO_distinct : ByteArray := prog_7_method_16_code
def y_MO_distinct : MethodName := ⟨R_MO, "distinct", "()I"⟩
abbrev b_MO_repeat : ByteArray := prog_7_method_17_code
def y_MO_repeat : MethodName := ⟨R_MO, "repeat", "()I"⟩
abbrev b_MO_fits : ByteArray := prog_7_method_18_code
def y_MO_fits : MethodName := ⟨R_MO, "fits", "(II)I"⟩
abbrev b_MO_hits : ByteArray := prog_7_method_19_code
def y_MO_hits : MethodName := ⟨R_MO, "hits", "()I"⟩
abbrev b_MO_seek : ByteArray := prog_7_method_20_code
def y_MO_seek : MethodName := ⟨R_MO, "seek", "()I"⟩
abbrev b_MO_extend : ByteArray := prog_7_method_21_code
def y_MO_extend : MethodName := ⟨R_MO, "extend", "(I)I"⟩
abbrev b_MO_before : ByteArray := prog_7_method_22_code
def y_MO_before : MethodName := ⟨R_MO, "before", "()I"⟩
abbrev b_MO_hit : ByteArray := prog_7_method_23_code
def y_MO_hit : MethodName := ⟨R_MO, "hit", "(I)I"⟩
abbrev b_MO_match : ByteArray := prog_7_method_24_code
def y_MO_match : MethodName := ⟨R_MO, "match", "(I)I"⟩
abbrev b_MO_longer : ByteArray := prog_7_method_25_code
def y_MO_longer : MethodName := ⟨R_MO, "longer", "(II)I"⟩
abbrev b_MO_turnBack : ByteArray := prog_7_method_26_code
def y_MO_turnBack : MethodName := ⟨R_MO, "turnBack", "(I)Z"⟩
abbrev b_MO_revert : ByteArray := prog_7_method_27_code
def y_MO_revert : MethodName := ⟨R_MO, "revert", "(I)I"⟩
abbrev b_BR_init : ByteArray := prog_2_method_1_code
def y_BR_init : MethodName := ⟨R_BR, "<init>", "()V"⟩
abbrev b_BR_clear : ByteArray := prog_2_method_2_code
def y_BR_clear : MethodName := ⟨R_BR, "clear", "()V"⟩
abbrev b_BR_append : ByteArray := prog_2_method_3_code
def y_BR_append : MethodName := ⟨R_BR, "append", "(I)V"⟩
abbrev b_BR_putInFront : ByteArray := prog_2_method_4_code
def y_BR_putInFront : MethodName := ⟨R_BR, "putInFront", "(I)V"⟩
abbrev b_BR_copyFrom : ByteArray := prog_2_method_5_code
def y_BR_copyFrom : MethodName := ⟨R_BR, "copyFrom", "(LColumnIndex$ByteRow;)V"⟩
abbrev b_BR_alike : ByteArray := prog_2_method_6_code
def y_BR_alike : MethodName := ⟨R_BR, "alike", "(ILColumnIndex$ByteRow;I)I"⟩
abbrev b_CR_init : ByteArray := prog_3_method_1_code
def y_CR_init : MethodName := ⟨R_CR, "<init>", "()V"⟩
abbrev b_CR_take : ByteArray := prog_3_method_2_code
def y_CR_take : MethodName := ⟨R_CR, "take", "(LColumnIndex$ByteRow;I)V"⟩
abbrev b_CR_writeText : ByteArray := prog_3_method_3_code
def y_CR_writeText : MethodName := ⟨R_CR, "writeText", "(LColumnIndex$ByteRow;)Z"⟩
abbrev b_CR_rankOfLonger : ByteArray := prog_3_method_4_code
def y_CR_rankOfLonger : MethodName := ⟨R_CR, "rankOfLonger", "(I)I"⟩
abbrev b_FL_init : ByteArray := prog_4_method_1_code
def y_FL_init : MethodName := ⟨R_FL, "<init>", "()V"⟩
abbrev b_FL_numberColumn : ByteArray := prog_4_method_2_code
def y_FL_numberColumn : MethodName := ⟨R_FL, "numberColumn", "([II)V"⟩
abbrev b_FL_startAgain : ByteArray := prog_4_method_3_code
def y_FL_startAgain : MethodName := ⟨R_FL, "startAgain", "()V"⟩
abbrev b_FL_moveToFront : ByteArray := prog_4_method_4_code
def y_FL_moveToFront : MethodName := ⟨R_FL, "moveToFront", "(I)I"⟩
abbrev b_SO_init : ByteArray := prog_5_method_1_code
def y_SO_init : MethodName := ⟨R_SO, "<init>", "()V"⟩
abbrev b_SO_arrange : ByteArray := prog_5_method_2_code
def y_SO_arrange : MethodName := ⟨R_SO, "arrange", "(LColumnIndex$ByteRow;)V"⟩
abbrev b_SO_rankAmongShorter : ByteArray := prog_5_method_3_code
def y_SO_rankAmongShorter : MethodName := ⟨R_SO, "rankAmongShorter", "(LColumnIndex$ByteRow;I)V"⟩
abbrev b_SO_shorterIsBefore : ByteArray := prog_5_method_4_code
def y_SO_shorterIsBefore : MethodName := ⟨R_SO, "shorterIsBefore", "(LColumnIndex$ByteRow;II)Z"⟩
theorem tm {w c0 : Cond} (h : w ∈ bw) : w ∈ c0 :: bw := List.mem_cons_of_mem _ h
theorem tmw {C : String} {T : u_T} {N : Nat} {c0 : Cond} (h : ∀ w ∈ u_ws C T N, w ∈ bw) : ∀ w ∈ u_ws C T N, w ∈ c0 :: bw := fun w hw => List.mem_cons_of_mem _ (h w hw)
theorem bw_good {w : Cond} (h : w ∈ bw) : goodWord w = true := (List.mem_filter.mp h).2
theorem gi {c0 c1 : Cond} (h : c1 ∈ bw) : GoodIn (c0 :: bw) (c1 :: bw) := fun w hw => by
  have hm : w ∈ bw := (List.mem_cons.mp hw).elim (fun e => by rw [e]; exact h) (fun h2 => h2)
  exact ⟨List.mem_cons_of_mem _ hm, good_of_word (bw_good hm)⟩
theorem giL {c1 : Cond} (h : c1 ∈ bw) : GoodIn bw (c1 :: bw) := fun w hw => by
  have hm : w ∈ bw := (List.mem_cons.mp hw).elim (fun e => by rw [e]; exact h) (fun h2 => h2)
  exact ⟨hm, good_of_word (bw_good hm)⟩
theorem x_cw {R : Room} {s : State} {args : Array Value} {own C : String} {index : Nat} {y : MethodName} {bytes : ByteArray} {maxL : Nat} {ret : Option FieldType} {rm : Room} {mc ms : Nat} {Ts ws' : List Cond} (n : Nat) (ht : ∀ w ∈ Ts, w.before args s = true) (hG : GoodIn Ts (.code y bytes maxL ret :: ws')) (hrc : rm.cells = mc) (hrs : rm.slots = ms) (h1 : Cond.initialized y.cls ∈ Ts) (h2 : Cond.methodLink own index y ∈ Ts) (h3 : Cond.instanceMethod y ∈ Ts) (h4 : Cond.selects C y y ∈ Ts)
    (hd : y.cls ≠ "java/lang/invoke/MethodHandle" ∧ y.cls ≠ "java/lang/invoke/VarHandle" ∧ (parseMethodDescriptor y.desc).map (fun d => d.parameters.length) = some n) (hR : rm.frames + 1 ≤ R.frames ∧ 8 + (maxL + 11) + rm.locals ≤ R.locals) : CallW R s args own C index y bytes maxL ret (.code y bytes maxL ret :: ws') rm mc ms n :=
  ⟨callB_of n ht hG rfl hrc hrs (ht _ h1) (ht _ h2) hd hR, ht _ h3, ht _ h4⟩
theorem x_cwI {R : Room} {s : State} {args : Array Value} {own : String} {index : Nat} {y : MethodName} {bytes : ByteArray} {maxL : Nat} {rm : Room} {mc ms : Nat} {Ts ws' : List Cond} (n : Nat) (ht : ∀ w ∈ Ts, w.before args s = true) (hG : GoodIn Ts (.code y bytes maxL none :: ws')) (hrc : rm.cells = mc) (hrs : rm.slots = ms) (h1 : Cond.initialized y.cls ∈ Ts) (h2 : Cond.methodLink own index y ∈ Ts) (h3 : Cond.instanceMethod y ∈ Ts) (hy : y.name = "<init>")
    (hd : y.cls ≠ "java/lang/invoke/MethodHandle" ∧ y.cls ≠ "java/lang/invoke/VarHandle" ∧ (parseMethodDescriptor y.desc).map (fun d => d.parameters.length) = some n) (hR : rm.frames + 1 ≤ R.frames ∧ 8 + (maxL + 11) + rm.locals ≤ R.locals) : CallB R s args own index y bytes maxL none (.code y bytes maxL none :: ws') rm mc ms n ∧ y.name = "<init>" ∧ (Cond.instanceMethod y).before args s = true :=
  ⟨callB_of n ht hG rfl hrc hrs (ht _ h1) (ht _ h2) hd hR, hy, ht _ h3⟩
abbrev w_CX_init : List Cond := .code y_CX_init b_CX_init 1 none :: bw
abbrev w_CX_type : List Cond := .code y_CX_type b_CX_type 5 (some .int) :: bw
abbrev w_CX_build : List Cond := .code y_CX_build b_CX_build 1 (some .int) :: bw
abbrev w_CX_size : List Cond := .code y_CX_size b_CX_size 1 (some .int) :: bw
abbrev w_CX_at : List Cond := .code y_CX_at b_CX_at 2 (some .int) :: bw
abbrev w_CX_suffix : List Cond := .code y_CX_suffix b_CX_suffix 2 (some .int) :: bw
abbrev w_CX_rank : List Cond := .code y_CX_rank b_CX_rank 2 (some .int) :: bw
abbrev w_CX_column : List Cond := .code y_CX_column b_CX_column 2 (some .int) :: bw
abbrev w_CX_common : List Cond := .code y_CX_common b_CX_common 2 (some .int) :: bw
abbrev w_CX_moved : List Cond := .code y_CX_moved b_CX_moved 2 (some .int) :: bw
abbrev w_CX_distinct : List Cond := .code y_CX_distinct b_CX_distinct 4 (some .int) :: bw
abbrev w_CX_repeat : List Cond := .code y_CX_repeat b_CX_repeat 6 (some .int) :: bw
abbrev w_CX_seek : List Cond := .code y_CX_seek b_CX_seek 1 (some .int) :: bw
abbrev w_CX_extend : List Cond := .code y_CX_extend b_CX_extend 2 (some .int) :: bw
abbrev w_CX_before : List Cond := .code y_CX_before b_CX_before 3 (some .int) :: bw
abbrev w_CX_hit : List Cond := .code y_CX_hit b_CX_hit 4 (some .int) :: bw
abbrev w_CX_match : List Cond := .code y_CX_match b_CX_match 4 (some .int) :: bw
abbrev w_CX_revert : List Cond := .code y_CX_revert b_CX_revert 2 (some .int) :: bw
abbrev w_CX_arrangeText : List Cond := .code y_CX_arrangeText b_CX_arrangeText 1 none :: bw
abbrev w_CX_isSuffix : List Cond := .code y_CX_isSuffix b_CX_isSuffix 2 (some .boolean) :: bw
abbrev w_CX_countHits : List Cond := .code y_CX_countHits b_CX_countHits 3 (some .int) :: bw
abbrev w_CX_patternStandsAt : List Cond := .code y_CX_patternStandsAt b_CX_patternStandsAt 2 (some .boolean) :: bw
abbrev w_CX_comesBeforePattern : List Cond := .code y_CX_comesBeforePattern b_CX_comesBeforePattern 4 (some .boolean) :: bw
abbrev w_MO_init : List Cond := .code y_MO_init b_MO_init 1 none :: bw
abbrev w_MO_type : List Cond := .code y_MO_type b_MO_type 5 (some .int) :: bw
abbrev w_MO_alike : List Cond := .code y_MO_alike b_MO_alike 4 (some .int) :: bw
abbrev w_MO_isBefore : List Cond := .code y_MO_isBefore b_MO_isBefore 4 (some .boolean) :: bw
abbrev w_MO_sort : List Cond := .code y_MO_sort b_MO_sort 3 none :: bw
abbrev w_MO_take : List Cond := .code y_MO_take b_MO_take 2 none :: bw
abbrev w_MO_build : List Cond := .code y_MO_build b_MO_build 1 (some .int) :: bw
abbrev w_MO_size : List Cond := .code y_MO_size b_MO_size 1 (some .int) :: bw
abbrev w_MO_at : List Cond := .code y_MO_at b_MO_at 2 (some .int) :: bw
abbrev w_MO_suffix : List Cond := .code y_MO_suffix b_MO_suffix 2 (some .int) :: bw
abbrev w_MO_rank : List Cond := .code y_MO_rank b_MO_rank 4 (some .int) :: bw
abbrev w_MO_before1 : List Cond := .code y_MO_before1 b_MO_before1 2 (some .int) :: bw
abbrev w_MO_column : List Cond := .code y_MO_column b_MO_column 2 (some .int) :: bw
abbrev w_MO_common : List Cond := .code y_MO_common b_MO_common 2 (some .int) :: bw
abbrev w_MO_moved : List Cond := .code y_MO_moved b_MO_moved 6 (some .int) :: bw
abbrev w_MO_distinct : List Cond := .code y_MO_distinct b_MO_distinct 3 (some .int) :: bw
abbrev w_MO_repeat : List Cond := .code y_MO_repeat b_MO_repeat 6 (some .int) :: bw
abbrev w_MO_fits : List Cond := .code y_MO_fits b_MO_fits 4 (some .int) :: bw
abbrev w_MO_hits : List Cond := .code y_MO_hits b_MO_hits 3 (some .int) :: bw
abbrev w_MO_seek : List Cond := .code y_MO_seek b_MO_seek 2 (some .int) :: bw
abbrev w_MO_extend : List Cond := .code y_MO_extend b_MO_extend 3 (some .int) :: bw
abbrev w_MO_before : List Cond := .code y_MO_before b_MO_before 4 (some .int) :: bw
abbrev w_MO_hit : List Cond := .code y_MO_hit b_MO_hit 4 (some .int) :: bw
abbrev w_MO_match : List Cond := .code y_MO_match b_MO_match 5 (some .int) :: bw
abbrev w_MO_longer : List Cond := .code y_MO_longer b_MO_longer 5 (some .int) :: bw
abbrev w_MO_turnBack : List Cond := .code y_MO_turnBack b_MO_turnBack 4 (some .boolean) :: bw
abbrev w_MO_revert : List Cond := .code y_MO_revert b_MO_revert 6 (some .int) :: bw
abbrev w_BR_init : List Cond := .code y_BR_init b_BR_init 1 none :: bw
abbrev w_BR_clear : List Cond := .code y_BR_clear b_BR_clear 1 none :: bw
abbrev w_BR_append : List Cond := .code y_BR_append b_BR_append 2 none :: bw
abbrev w_BR_putInFront : List Cond := .code y_BR_putInFront b_BR_putInFront 2 none :: bw
abbrev w_BR_copyFrom : List Cond := .code y_BR_copyFrom b_BR_copyFrom 2 none :: bw
abbrev w_BR_alike : List Cond := .code y_BR_alike b_BR_alike 6 (some .int) :: bw
abbrev w_CR_init : List Cond := .code y_CR_init b_CR_init 1 none :: bw
abbrev w_CR_take : List Cond := .code y_CR_take b_CR_take 4 none :: bw
abbrev w_CR_writeText : List Cond := .code y_CR_writeText b_CR_writeText 4 (some .boolean) :: bw
abbrev w_CR_rankOfLonger : List Cond := .code y_CR_rankOfLonger b_CR_rankOfLonger 4 (some .int) :: bw
abbrev w_FL_init : List Cond := .code y_FL_init b_FL_init 1 none :: bw
abbrev w_FL_numberColumn : List Cond := .code y_FL_numberColumn b_FL_numberColumn 4 none :: bw
abbrev w_FL_startAgain : List Cond := .code y_FL_startAgain b_FL_startAgain 2 none :: bw
abbrev w_FL_moveToFront : List Cond := .code y_FL_moveToFront b_FL_moveToFront 3 (some .int) :: bw
abbrev w_SO_init : List Cond := .code y_SO_init b_SO_init 1 none :: bw
abbrev w_SO_arrange : List Cond := .code y_SO_arrange b_SO_arrange 4 none :: bw
abbrev w_SO_rankAmongShorter : List Cond := .code y_SO_rankAmongShorter b_SO_rankAmongShorter 5 none :: bw
abbrev w_SO_shorterIsBefore : List Cond := .code y_SO_shorterIsBefore b_SO_shorterIsBefore 5 (some .boolean) :: bw
theorem kw_0 : Cond.methodLink R_CX 3 Lib.objectInit ∈ bw := bw_of (List.mem_append_right _ (List.mem_of_getElem? (i := 14) (by decide +kernel))) (by decide +kernel)
theorem kw_1 : Cond.instanceMethod Lib.objectInit ∈ bw := bw_of (List.mem_append_right _ (List.mem_of_getElem? (i := 15) (by decide +kernel))) (by decide +kernel)
theorem kw_2 : Cond.code Lib.objectInit ⟨#[0xb1]⟩ 1 none ∈ bw := bw_of (List.mem_append_right _ (List.mem_of_getElem? (i := 16) (by decide +kernel))) (by decide +kernel)
theorem kw_3 : Cond.classLink R_CX 9 R_BR ∈ bw := bw_of (List.mem_append_right _ (List.mem_of_getElem? (i := 17) (by decide +kernel))) (by decide +kernel)
theorem kw_4 : Cond.instantiable R_BR 2 ∈ bw := bw_of (List.mem_append_right _ (List.mem_of_getElem? (i := 18) (by decide +kernel))) (by decide +kernel)
theorem kw_5 : Cond.initialized R_BR ∈ bw := bw_of (List.mem_append_right _ (List.mem_of_getElem? (i := 2) (by decide +kernel))) (by decide +kernel)
theorem kw_6 : Cond.code y_BR_init b_BR_init 1 none ∈ bw := bw_of (List.mem_append_right _ (List.mem_of_getElem? (i := 21) (by decide +kernel))) (by decide +kernel)
theorem kw_7 : Cond.methodLink R_CX 11 y_BR_init ∈ bw := bw_of (List.mem_append_right _ (List.mem_of_getElem? (i := 19) (by decide +kernel))) (by decide +kernel)
theorem kw_8 : Cond.instanceMethod y_BR_init ∈ bw := bw_of (List.mem_append_right _ (List.mem_of_getElem? (i := 20) (by decide +kernel))) (by decide +kernel)
theorem kw_9 : Cond.fieldLink R_CX 12 "ColumnIndex" "typed" "LColumnIndex$ByteRow;" ∈ bw := bw_of (List.mem_append_right _ (List.mem_of_getElem? (i := 87) (by decide +kernel))) (by decide +kernel)
theorem kw_10 : Cond.fieldLink R_CX 16 "ColumnIndex" "text" "LColumnIndex$ByteRow;" ∈ bw := bw_of (List.mem_append_right _ (List.mem_of_getElem? (i := 88) (by decide +kernel))) (by decide +kernel)
theorem kw_11 : Cond.fieldLink R_CX 19 "ColumnIndex" "pattern" "LColumnIndex$ByteRow;" ∈ bw := bw_of (List.mem_append_right _ (List.mem_of_getElem? (i := 89) (by decide +kernel))) (by decide +kernel)
theorem kw_12 : Cond.classLink R_CX 22 R_SO ∈ bw := bw_of (List.mem_append_right _ (List.mem_of_getElem? (i := 37) (by decide +kernel))) (by decide +kernel)
theorem kw_13 : Cond.instantiable R_SO 4 ∈ bw := bw_of (List.mem_append_right _ (List.mem_of_getElem? (i := 38) (by decide +kernel))) (by decide +kernel)
theorem kw_14 : Cond.initialized R_SO ∈ bw := bw_of (List.mem_append_right _ (List.mem_of_getElem? (i := 3) (by decide +kernel))) (by decide +kernel)
theorem kw_15 : Cond.code y_SO_init b_SO_init 1 none ∈ bw := bw_of (List.mem_append_right _ (List.mem_of_getElem? (i := 41) (by decide +kernel))) (by decide +kernel)
theorem kw_16 : Cond.methodLink R_CX 24 y_SO_init ∈ bw := bw_of (List.mem_append_right _ (List.mem_of_getElem? (i := 39) (by decide +kernel))) (by decide +kernel)
theorem kw_17 : Cond.instanceMethod y_SO_init ∈ bw := bw_of (List.mem_append_right _ (List.mem_of_getElem? (i := 40) (by decide +kernel))) (by decide +kernel)
theorem kw_18 : Cond.fieldLink R_CX 25 "ColumnIndex" "order" "LColumnIndex$SuffixOrder;" ∈ bw := bw_of (List.mem_append_right _ (List.mem_of_getElem? (i := 90) (by decide +kernel))) (by decide +kernel)
theorem kw_19 : Cond.classLink R_CX 29 R_FL ∈ bw := bw_of (List.mem_append_right _ (List.mem_of_getElem? (i := 60) (by decide +kernel))) (by decide +kernel)
theorem kw_20 : Cond.instantiable R_FL 2 ∈ bw := bw_of (List.mem_append_right _ (List.mem_of_getElem? (i := 61) (by decide +kernel))) (by decide +kernel)
theorem kw_21 : Cond.initialized R_FL ∈ bw := bw_of (List.mem_append_right _ (List.mem_of_getElem? (i := 4) (by decide +kernel))) (by decide +kernel)
theorem kw_22 : Cond.code y_FL_init b_FL_init 1 none ∈ bw := bw_of (List.mem_append_right _ (List.mem_of_getElem? (i := 64) (by decide +kernel))) (by decide +kernel)
theorem kw_23 : Cond.methodLink R_CX 31 y_FL_init ∈ bw := bw_of (List.mem_append_right _ (List.mem_of_getElem? (i := 62) (by decide +kernel))) (by decide +kernel)
theorem kw_24 : Cond.instanceMethod y_FL_init ∈ bw := bw_of (List.mem_append_right _ (List.mem_of_getElem? (i := 63) (by decide +kernel))) (by decide +kernel)
theorem kw_25 : Cond.fieldLink R_CX 32 "ColumnIndex" "front" "LColumnIndex$FrontList;" ∈ bw := bw_of (List.mem_append_right _ (List.mem_of_getElem? (i := 91) (by decide +kernel))) (by decide +kernel)
theorem kw_26 : Cond.classLink R_CX 36 R_CR ∈ bw := bw_of (List.mem_append_right _ (List.mem_of_getElem? (i := 74) (by decide +kernel))) (by decide +kernel)
theorem kw_27 : Cond.instantiable R_CR 2 ∈ bw := bw_of (List.mem_append_right _ (List.mem_of_getElem? (i := 75) (by decide +kernel))) (by decide +kernel)
theorem kw_28 : Cond.initialized R_CR ∈ bw := bw_of (List.mem_append_right _ (List.mem_of_getElem? (i := 5) (by decide +kernel))) (by decide +kernel)
theorem kw_29 : Cond.code y_CR_init b_CR_init 1 none ∈ bw := bw_of (List.mem_append_right _ (List.mem_of_getElem? (i := 78) (by decide +kernel))) (by decide +kernel)
theorem kw_30 : Cond.methodLink R_CX 38 y_CR_init ∈ bw := bw_of (List.mem_append_right _ (List.mem_of_getElem? (i := 76) (by decide +kernel))) (by decide +kernel)
theorem kw_31 : Cond.instanceMethod y_CR_init ∈ bw := bw_of (List.mem_append_right _ (List.mem_of_getElem? (i := 77) (by decide +kernel))) (by decide +kernel)
theorem kw_32 : Cond.fieldLink R_CX 39 "ColumnIndex" "reader" "LColumnIndex$ColumnReader;" ∈ bw := bw_of (List.mem_append_right _ (List.mem_of_getElem? (i := 92) (by decide +kernel))) (by decide +kernel)
theorem kw_33 : Cond.fieldLink R_CX 43 "ColumnIndex$ByteRow" "length" "I" ∈ bw := bw_of (List.mem_append_right _ (List.mem_of_getElem? (i := 30) (by decide +kernel))) (by decide +kernel)
theorem kw_34 : Cond.code y_BR_append b_BR_append 2 none ∈ bw := bw_of (List.mem_append_right _ (List.mem_of_getElem? (i := 113) (by decide +kernel))) (by decide +kernel)
theorem kw_35 : Cond.methodLink R_CX 47 y_BR_append ∈ bw := bw_of (List.mem_append_right _ (List.mem_of_getElem? (i := 110) (by decide +kernel))) (by decide +kernel)
theorem kw_36 : Cond.instanceMethod y_BR_append ∈ bw := bw_of (List.mem_append_right _ (List.mem_of_getElem? (i := 111) (by decide +kernel))) (by decide +kernel)
theorem kw_37 : Cond.selects R_BR y_BR_append y_BR_append ∈ bw := bw_of (List.mem_append_right _ (List.mem_of_getElem? (i := 112) (by decide +kernel))) (by decide +kernel)
theorem kw_38 : Cond.code y_BR_copyFrom b_BR_copyFrom 2 none ∈ bw := bw_of (List.mem_append_right _ (List.mem_of_getElem? (i := 121) (by decide +kernel))) (by decide +kernel)
theorem kw_39 : Cond.methodLink R_CX 51 y_BR_copyFrom ∈ bw := bw_of (List.mem_append_right _ (List.mem_of_getElem? (i := 118) (by decide +kernel))) (by decide +kernel)
theorem kw_40 : Cond.instanceMethod y_BR_copyFrom ∈ bw := bw_of (List.mem_append_right _ (List.mem_of_getElem? (i := 119) (by decide +kernel))) (by decide +kernel)
theorem kw_41 : Cond.selects R_BR y_BR_copyFrom y_BR_copyFrom ∈ bw := bw_of (List.mem_append_right _ (List.mem_of_getElem? (i := 120) (by decide +kernel))) (by decide +kernel)
theorem kw_42 : Cond.code y_BR_clear b_BR_clear 1 none ∈ bw := bw_of (List.mem_append_right _ (List.mem_of_getElem? (i := 128) (by decide +kernel))) (by decide +kernel)
theorem kw_43 : Cond.methodLink R_CX 55 y_BR_clear ∈ bw := bw_of (List.mem_append_right _ (List.mem_of_getElem? (i := 125) (by decide +kernel))) (by decide +kernel)
theorem kw_44 : Cond.instanceMethod y_BR_clear ∈ bw := bw_of (List.mem_append_right _ (List.mem_of_getElem? (i := 126) (by decide +kernel))) (by decide +kernel)
theorem kw_45 : Cond.selects R_BR y_BR_clear y_BR_clear ∈ bw := bw_of (List.mem_append_right _ (List.mem_of_getElem? (i := 127) (by decide +kernel))) (by decide +kernel)
theorem kw_46 : Cond.code y_CX_arrangeText b_CX_arrangeText 1 none ∈ bw := bw_of (List.mem_append_right _ (List.mem_of_getElem? (i := 132) (by decide +kernel))) (by decide +kernel)
theorem kw_47 : Cond.methodLink R_CX 58 y_CX_arrangeText ∈ bw := bw_of (List.mem_append_right _ (List.mem_of_getElem? (i := 129) (by decide +kernel))) (by decide +kernel)
theorem kw_48 : Cond.instanceMethod y_CX_arrangeText ∈ bw := bw_of (List.mem_append_right _ (List.mem_of_getElem? (i := 131) (by decide +kernel))) (by decide +kernel)
theorem kw_49 : Cond.initialized R_CX ∈ bw := bw_of (List.mem_append_right _ (List.mem_of_getElem? (i := 1) (by decide +kernel))) (by decide +kernel)
theorem kw_50 : Cond.selects R_CX y_CX_arrangeText y_CX_arrangeText ∈ bw := by decide +kernel
theorem kw_51 : Cond.fieldLink R_CX 61 "ColumnIndex$ByteRow" "bytes" "[I" ∈ bw := bw_of (List.mem_append_right _ (List.mem_of_getElem? (i := 26) (by decide +kernel))) (by decide +kernel)
theorem kw_52 : Cond.code y_CX_isSuffix b_CX_isSuffix 2 (some .boolean) ∈ bw := bw_of (List.mem_append_right _ (List.mem_of_getElem? (i := 180) (by decide +kernel))) (by decide +kernel)
theorem kw_53 : Cond.methodLink R_CX 65 y_CX_isSuffix ∈ bw := bw_of (List.mem_append_right _ (List.mem_of_getElem? (i := 177) (by decide +kernel))) (by decide +kernel)
theorem kw_54 : Cond.instanceMethod y_CX_isSuffix ∈ bw := bw_of (List.mem_append_right _ (List.mem_of_getElem? (i := 179) (by decide +kernel))) (by decide +kernel)
theorem kw_55 : Cond.selects R_CX y_CX_isSuffix y_CX_isSuffix ∈ bw := by decide +kernel
theorem kw_56 : Cond.fieldLink R_CX 69 "ColumnIndex$SuffixOrder" "suffixAt" "[I" ∈ bw := bw_of (List.mem_append_right _ (List.mem_of_getElem? (i := 44) (by decide +kernel))) (by decide +kernel)
theorem kw_57 : Cond.fieldLink R_CX 72 "ColumnIndex$SuffixOrder" "rankOf" "[I" ∈ bw := bw_of (List.mem_append_right _ (List.mem_of_getElem? (i := 46) (by decide +kernel))) (by decide +kernel)
theorem kw_58 : Cond.fieldLink R_CX 75 "ColumnIndex$SuffixOrder" "columnAt" "[I" ∈ bw := bw_of (List.mem_append_right _ (List.mem_of_getElem? (i := 50) (by decide +kernel))) (by decide +kernel)
theorem kw_59 : Cond.fieldLink R_CX 78 "ColumnIndex$SuffixOrder" "commonAt" "[I" ∈ bw := bw_of (List.mem_append_right _ (List.mem_of_getElem? (i := 48) (by decide +kernel))) (by decide +kernel)
theorem kw_60 : Cond.fieldLink R_CX 81 "ColumnIndex$FrontList" "numberAt" "[I" ∈ bw := bw_of (List.mem_append_right _ (List.mem_of_getElem? (i := 67) (by decide +kernel))) (by decide +kernel)
theorem kw_61 : Cond.methodLink R_CX 84 Lib.Math.min.name ∈ bw := bw_of (List.mem_append_right _ (List.mem_of_getElem? (i := 205) (by decide +kernel))) (by decide +kernel)
theorem kw_62 : Cond.static Lib.Math.min.name ∈ bw := bw_of (List.mem_append_right _ (List.mem_of_getElem? (i := 150) (by decide +kernel))) (by decide +kernel)
theorem kw_63 : Cond.initialized "java/lang/Math" ∈ bw := bw_of (List.mem_append_right _ (List.mem_of_getElem? (i := 8) (by decide +kernel))) (by decide +kernel)
theorem kw_64 : Cond.code Lib.Math.min.name Lib.Math.min.code 2 (some .int) ∈ bw := bw_of (List.mem_append_right _ (List.mem_of_getElem? (i := 151) (by decide +kernel))) (by decide +kernel)
theorem kw_65 : Cond.code y_CX_countHits b_CX_countHits 3 (some .int) ∈ bw := bw_of (List.mem_append_right _ (List.mem_of_getElem? (i := 213) (by decide +kernel))) (by decide +kernel)
theorem kw_66 : Cond.methodLink R_CX 90 y_CX_countHits ∈ bw := bw_of (List.mem_append_right _ (List.mem_of_getElem? (i := 210) (by decide +kernel))) (by decide +kernel)
theorem kw_67 : Cond.instanceMethod y_CX_countHits ∈ bw := bw_of (List.mem_append_right _ (List.mem_of_getElem? (i := 212) (by decide +kernel))) (by decide +kernel)
theorem kw_68 : Cond.selects R_CX y_CX_countHits y_CX_countHits ∈ bw := by decide +kernel
theorem kw_69 : Cond.code y_BR_putInFront b_BR_putInFront 2 none ∈ bw := bw_of (List.mem_append_right _ (List.mem_of_getElem? (i := 226) (by decide +kernel))) (by decide +kernel)
theorem kw_70 : Cond.methodLink R_CX 94 y_BR_putInFront ∈ bw := bw_of (List.mem_append_right _ (List.mem_of_getElem? (i := 223) (by decide +kernel))) (by decide +kernel)
theorem kw_71 : Cond.instanceMethod y_BR_putInFront ∈ bw := bw_of (List.mem_append_right _ (List.mem_of_getElem? (i := 224) (by decide +kernel))) (by decide +kernel)
theorem kw_72 : Cond.selects R_BR y_BR_putInFront y_BR_putInFront ∈ bw := bw_of (List.mem_append_right _ (List.mem_of_getElem? (i := 225) (by decide +kernel))) (by decide +kernel)
theorem kw_73 : Cond.code y_CX_comesBeforePattern b_CX_comesBeforePattern 4 (some .boolean) ∈ bw := bw_of (List.mem_append_right _ (List.mem_of_getElem? (i := 234) (by decide +kernel))) (by decide +kernel)
theorem kw_74 : Cond.methodLink R_CX 97 y_CX_comesBeforePattern ∈ bw := bw_of (List.mem_append_right _ (List.mem_of_getElem? (i := 231) (by decide +kernel))) (by decide +kernel)
theorem kw_75 : Cond.instanceMethod y_CX_comesBeforePattern ∈ bw := bw_of (List.mem_append_right _ (List.mem_of_getElem? (i := 233) (by decide +kernel))) (by decide +kernel)
theorem kw_76 : Cond.selects R_CX y_CX_comesBeforePattern y_CX_comesBeforePattern ∈ bw := by decide +kernel
theorem kw_77 : Cond.code y_CX_patternStandsAt b_CX_patternStandsAt 2 (some .boolean) ∈ bw := bw_of (List.mem_append_right _ (List.mem_of_getElem? (i := 217) (by decide +kernel))) (by decide +kernel)
theorem kw_78 : Cond.methodLink R_CX 100 y_CX_patternStandsAt ∈ bw := bw_of (List.mem_append_right _ (List.mem_of_getElem? (i := 214) (by decide +kernel))) (by decide +kernel)
theorem kw_79 : Cond.instanceMethod y_CX_patternStandsAt ∈ bw := bw_of (List.mem_append_right _ (List.mem_of_getElem? (i := 216) (by decide +kernel))) (by decide +kernel)
theorem kw_80 : Cond.selects R_CX y_CX_patternStandsAt y_CX_patternStandsAt ∈ bw := by decide +kernel
theorem kw_81 : Cond.code y_BR_alike b_BR_alike 6 (some .int) ∈ bw := bw_of (List.mem_append_right _ (List.mem_of_getElem? (i := 148) (by decide +kernel))) (by decide +kernel)
theorem kw_82 : Cond.methodLink R_CX 103 y_BR_alike ∈ bw := bw_of (List.mem_append_right _ (List.mem_of_getElem? (i := 218) (by decide +kernel))) (by decide +kernel)
theorem kw_83 : Cond.instanceMethod y_BR_alike ∈ bw := bw_of (List.mem_append_right _ (List.mem_of_getElem? (i := 146) (by decide +kernel))) (by decide +kernel)
theorem kw_84 : Cond.selects R_BR y_BR_alike y_BR_alike ∈ bw := bw_of (List.mem_append_right _ (List.mem_of_getElem? (i := 147) (by decide +kernel))) (by decide +kernel)
theorem kw_85 : Cond.methodLink R_CX 107 Lib.Math.max.name ∈ bw := bw_of (List.mem_append_right _ (List.mem_of_getElem? (i := 243) (by decide +kernel))) (by decide +kernel)
theorem kw_86 : Cond.static Lib.Math.max.name ∈ bw := bw_of (List.mem_append_right _ (List.mem_of_getElem? (i := 244) (by decide +kernel))) (by decide +kernel)
theorem kw_87 : Cond.code Lib.Math.max.name Lib.Math.max.code 2 (some .int) ∈ bw := bw_of (List.mem_append_right _ (List.mem_of_getElem? (i := 245) (by decide +kernel))) (by decide +kernel)
theorem kw_88 : Cond.code y_CR_take b_CR_take 4 none ∈ bw := bw_of (List.mem_append_right _ (List.mem_of_getElem? (i := 253) (by decide +kernel))) (by decide +kernel)
theorem kw_89 : Cond.methodLink R_CX 110 y_CR_take ∈ bw := bw_of (List.mem_append_right _ (List.mem_of_getElem? (i := 250) (by decide +kernel))) (by decide +kernel)
theorem kw_90 : Cond.instanceMethod y_CR_take ∈ bw := bw_of (List.mem_append_right _ (List.mem_of_getElem? (i := 251) (by decide +kernel))) (by decide +kernel)
theorem kw_91 : Cond.selects R_CR y_CR_take y_CR_take ∈ bw := bw_of (List.mem_append_right _ (List.mem_of_getElem? (i := 252) (by decide +kernel))) (by decide +kernel)
theorem kw_92 : Cond.code y_CR_writeText b_CR_writeText 4 (some .boolean) ∈ bw := bw_of (List.mem_append_right _ (List.mem_of_getElem? (i := 257) (by decide +kernel))) (by decide +kernel)
theorem kw_93 : Cond.methodLink R_CX 114 y_CR_writeText ∈ bw := bw_of (List.mem_append_right _ (List.mem_of_getElem? (i := 254) (by decide +kernel))) (by decide +kernel)
theorem kw_94 : Cond.instanceMethod y_CR_writeText ∈ bw := bw_of (List.mem_append_right _ (List.mem_of_getElem? (i := 255) (by decide +kernel))) (by decide +kernel)
theorem kw_95 : Cond.selects R_CR y_CR_writeText y_CR_writeText ∈ bw := bw_of (List.mem_append_right _ (List.mem_of_getElem? (i := 256) (by decide +kernel))) (by decide +kernel)
theorem kw_96 : Cond.code y_CX_build b_CX_build 1 (some .int) ∈ bw := bw_of (List.mem_append_right _ (List.mem_of_getElem? (i := 117) (by decide +kernel))) (by decide +kernel)
theorem kw_97 : Cond.methodLink R_CX 118 y_CX_build ∈ bw := bw_of (List.mem_append_right _ (List.mem_of_getElem? (i := 262) (by decide +kernel))) (by decide +kernel)
theorem kw_98 : Cond.instanceMethod y_CX_build ∈ bw := bw_of (List.mem_append_right _ (List.mem_of_getElem? (i := 115) (by decide +kernel))) (by decide +kernel)
theorem kw_99 : Cond.selects R_CX y_CX_build y_CX_build ∈ bw := bw_of (List.mem_append_right _ (List.mem_of_getElem? (i := 116) (by decide +kernel))) (by decide +kernel)
theorem kw_100 : Cond.code y_SO_arrange b_SO_arrange 4 none ∈ bw := bw_of (List.mem_append_right _ (List.mem_of_getElem? (i := 136) (by decide +kernel))) (by decide +kernel)
theorem kw_101 : Cond.methodLink R_CX 121 y_SO_arrange ∈ bw := bw_of (List.mem_append_right _ (List.mem_of_getElem? (i := 133) (by decide +kernel))) (by decide +kernel)
theorem kw_102 : Cond.instanceMethod y_SO_arrange ∈ bw := bw_of (List.mem_append_right _ (List.mem_of_getElem? (i := 134) (by decide +kernel))) (by decide +kernel)
theorem kw_103 : Cond.selects R_SO y_SO_arrange y_SO_arrange ∈ bw := bw_of (List.mem_append_right _ (List.mem_of_getElem? (i := 135) (by decide +kernel))) (by decide +kernel)
theorem kw_104 : Cond.code y_FL_numberColumn b_FL_numberColumn 4 none ∈ bw := bw_of (List.mem_append_right _ (List.mem_of_getElem? (i := 155) (by decide +kernel))) (by decide +kernel)
theorem kw_105 : Cond.methodLink R_CX 124 y_FL_numberColumn ∈ bw := bw_of (List.mem_append_right _ (List.mem_of_getElem? (i := 152) (by decide +kernel))) (by decide +kernel)
theorem kw_106 : Cond.instanceMethod y_FL_numberColumn ∈ bw := bw_of (List.mem_append_right _ (List.mem_of_getElem? (i := 153) (by decide +kernel))) (by decide +kernel)
theorem kw_107 : Cond.selects R_FL y_FL_numberColumn y_FL_numberColumn ∈ bw := bw_of (List.mem_append_right _ (List.mem_of_getElem? (i := 154) (by decide +kernel))) (by decide +kernel)
theorem kw_108 : Cond.methodLink R_MO 1 Lib.objectInit ∈ bw := bw_of (List.mem_append_right _ (List.mem_of_getElem? (i := 268) (by decide +kernel))) (by decide +kernel)
theorem kw_109 : Cond.arrayClass .int ∈ bw := bw_of (List.mem_append_right _ (List.mem_of_getElem? (i := 36) (by decide +kernel))) (by decide +kernel)
theorem kw_110 : Cond.fieldLink R_MO 7 "ColumnIndexModel" "typing" "[I" ∈ bw := bw_of (List.mem_append_right _ (List.mem_of_getElem? (i := 270) (by decide +kernel))) (by decide +kernel)
theorem kw_111 : Cond.fieldLink R_MO 13 "ColumnIndexModel" "text" "[I" ∈ bw := bw_of (List.mem_append_right _ (List.mem_of_getElem? (i := 272) (by decide +kernel))) (by decide +kernel)
theorem kw_112 : Cond.fieldLink R_MO 16 "ColumnIndexModel" "order" "[I" ∈ bw := bw_of (List.mem_append_right _ (List.mem_of_getElem? (i := 273) (by decide +kernel))) (by decide +kernel)
theorem kw_113 : Cond.fieldLink R_MO 19 "ColumnIndexModel" "pattern" "[I" ∈ bw := bw_of (List.mem_append_right _ (List.mem_of_getElem? (i := 275) (by decide +kernel))) (by decide +kernel)
theorem kw_114 : Cond.fieldLink R_MO 22 "ColumnIndexModel" "list" "[I" ∈ bw := bw_of (List.mem_append_right _ (List.mem_of_getElem? (i := 276) (by decide +kernel))) (by decide +kernel)
theorem kw_115 : Cond.fieldLink R_MO 25 "ColumnIndexModel" "given" "[I" ∈ bw := bw_of (List.mem_append_right _ (List.mem_of_getElem? (i := 277) (by decide +kernel))) (by decide +kernel)
theorem kw_116 : Cond.fieldLink R_MO 28 "ColumnIndexModel" "old" "[I" ∈ bw := bw_of (List.mem_append_right _ (List.mem_of_getElem? (i := 278) (by decide +kernel))) (by decide +kernel)
theorem kw_117 : Cond.fieldLink R_MO 31 "ColumnIndexModel" "typed" "I" ∈ bw := bw_of (List.mem_append_right _ (List.mem_of_getElem? (i := 269) (by decide +kernel))) (by decide +kernel)
theorem kw_118 : Cond.constantLong R_MO 35 255 ∈ bw := bw_of (List.mem_append_right _ (List.mem_of_getElem? (i := 304) (by decide +kernel))) (by decide +kernel)
theorem kw_119 : Cond.fieldLink R_MO 37 "ColumnIndexModel" "n" "I" ∈ bw := bw_of (List.mem_append_right _ (List.mem_of_getElem? (i := 271) (by decide +kernel))) (by decide +kernel)
theorem kw_120 : Cond.code y_MO_alike b_MO_alike 4 (some .int) ∈ bw := bw_of (List.mem_append_right _ (List.mem_of_getElem? (i := 324) (by decide +kernel))) (by decide +kernel)
theorem kw_121 : Cond.methodLink R_MO 40 y_MO_alike ∈ bw := bw_of (List.mem_append_right _ (List.mem_of_getElem? (i := 321) (by decide +kernel))) (by decide +kernel)
theorem kw_122 : Cond.instanceMethod y_MO_alike ∈ bw := bw_of (List.mem_append_right _ (List.mem_of_getElem? (i := 323) (by decide +kernel))) (by decide +kernel)
theorem kw_123 : Cond.initialized R_MO ∈ bw := bw_of (List.mem_append_right _ (List.mem_of_getElem? (i := 6) (by decide +kernel))) (by decide +kernel)
theorem kw_124 : Cond.selects R_MO y_MO_alike y_MO_alike ∈ bw := by decide +kernel
theorem kw_125 : Cond.code y_MO_isBefore b_MO_isBefore 4 (some .boolean) ∈ bw := bw_of (List.mem_append_right _ (List.mem_of_getElem? (i := 320) (by decide +kernel))) (by decide +kernel)
theorem kw_126 : Cond.methodLink R_MO 44 y_MO_isBefore ∈ bw := bw_of (List.mem_append_right _ (List.mem_of_getElem? (i := 317) (by decide +kernel))) (by decide +kernel)
theorem kw_127 : Cond.instanceMethod y_MO_isBefore ∈ bw := bw_of (List.mem_append_right _ (List.mem_of_getElem? (i := 319) (by decide +kernel))) (by decide +kernel)
theorem kw_128 : Cond.selects R_MO y_MO_isBefore y_MO_isBefore ∈ bw := by decide +kernel
theorem kw_129 : Cond.code y_MO_sort b_MO_sort 3 none ∈ bw := bw_of (List.mem_append_right _ (List.mem_of_getElem? (i := 316) (by decide +kernel))) (by decide +kernel)
theorem kw_130 : Cond.methodLink R_MO 48 y_MO_sort ∈ bw := bw_of (List.mem_append_right _ (List.mem_of_getElem? (i := 313) (by decide +kernel))) (by decide +kernel)
theorem kw_131 : Cond.instanceMethod y_MO_sort ∈ bw := bw_of (List.mem_append_right _ (List.mem_of_getElem? (i := 315) (by decide +kernel))) (by decide +kernel)
theorem kw_132 : Cond.selects R_MO y_MO_sort y_MO_sort ∈ bw := by decide +kernel
theorem kw_133 : Cond.code y_MO_take b_MO_take 2 none ∈ bw := bw_of (List.mem_append_right _ (List.mem_of_getElem? (i := 312) (by decide +kernel))) (by decide +kernel)
theorem kw_134 : Cond.methodLink R_MO 51 y_MO_take ∈ bw := bw_of (List.mem_append_right _ (List.mem_of_getElem? (i := 309) (by decide +kernel))) (by decide +kernel)
theorem kw_135 : Cond.instanceMethod y_MO_take ∈ bw := bw_of (List.mem_append_right _ (List.mem_of_getElem? (i := 311) (by decide +kernel))) (by decide +kernel)
theorem kw_136 : Cond.selects R_MO y_MO_take y_MO_take ∈ bw := by decide +kernel
theorem kw_137 : Cond.code y_MO_before1 b_MO_before1 2 (some .int) ∈ bw := bw_of (List.mem_append_right _ (List.mem_of_getElem? (i := 348) (by decide +kernel))) (by decide +kernel)
theorem kw_138 : Cond.methodLink R_MO 54 y_MO_before1 ∈ bw := bw_of (List.mem_append_right _ (List.mem_of_getElem? (i := 345) (by decide +kernel))) (by decide +kernel)
theorem kw_139 : Cond.instanceMethod y_MO_before1 ∈ bw := bw_of (List.mem_append_right _ (List.mem_of_getElem? (i := 347) (by decide +kernel))) (by decide +kernel)
theorem kw_140 : Cond.selects R_MO y_MO_before1 y_MO_before1 ∈ bw := by decide +kernel
theorem kw_141 : Cond.fieldLink R_MO 58 "ColumnIndexModel" "length" "I" ∈ bw := bw_of (List.mem_append_right _ (List.mem_of_getElem? (i := 274) (by decide +kernel))) (by decide +kernel)
theorem kw_142 : Cond.code y_MO_fits b_MO_fits 4 (some .int) ∈ bw := bw_of (List.mem_append_right _ (List.mem_of_getElem? (i := 376) (by decide +kernel))) (by decide +kernel)
theorem kw_143 : Cond.methodLink R_MO 61 y_MO_fits ∈ bw := bw_of (List.mem_append_right _ (List.mem_of_getElem? (i := 373) (by decide +kernel))) (by decide +kernel)
theorem kw_144 : Cond.instanceMethod y_MO_fits ∈ bw := bw_of (List.mem_append_right _ (List.mem_of_getElem? (i := 375) (by decide +kernel))) (by decide +kernel)
theorem kw_145 : Cond.selects R_MO y_MO_fits y_MO_fits ∈ bw := by decide +kernel
theorem kw_146 : Cond.code y_MO_hits b_MO_hits 3 (some .int) ∈ bw := bw_of (List.mem_append_right _ (List.mem_of_getElem? (i := 372) (by decide +kernel))) (by decide +kernel)
theorem kw_147 : Cond.methodLink R_MO 64 y_MO_hits ∈ bw := bw_of (List.mem_append_right _ (List.mem_of_getElem? (i := 369) (by decide +kernel))) (by decide +kernel)
theorem kw_148 : Cond.instanceMethod y_MO_hits ∈ bw := bw_of (List.mem_append_right _ (List.mem_of_getElem? (i := 371) (by decide +kernel))) (by decide +kernel)
theorem kw_149 : Cond.selects R_MO y_MO_hits y_MO_hits ∈ bw := by decide +kernel
theorem kw_150 : Cond.code y_MO_longer b_MO_longer 5 (some .int) ∈ bw := bw_of (List.mem_append_right _ (List.mem_of_getElem? (i := 404) (by decide +kernel))) (by decide +kernel)
theorem kw_151 : Cond.methodLink R_MO 68 y_MO_longer ∈ bw := bw_of (List.mem_append_right _ (List.mem_of_getElem? (i := 401) (by decide +kernel))) (by decide +kernel)
theorem kw_152 : Cond.instanceMethod y_MO_longer ∈ bw := bw_of (List.mem_append_right _ (List.mem_of_getElem? (i := 403) (by decide +kernel))) (by decide +kernel)
theorem kw_153 : Cond.selects R_MO y_MO_longer y_MO_longer ∈ bw := by decide +kernel
theorem kw_154 : Cond.code y_MO_turnBack b_MO_turnBack 4 (some .boolean) ∈ bw := bw_of (List.mem_append_right _ (List.mem_of_getElem? (i := 400) (by decide +kernel))) (by decide +kernel)
theorem kw_155 : Cond.methodLink R_MO 71 y_MO_turnBack ∈ bw := bw_of (List.mem_append_right _ (List.mem_of_getElem? (i := 397) (by decide +kernel))) (by decide +kernel)
theorem kw_156 : Cond.instanceMethod y_MO_turnBack ∈ bw := bw_of (List.mem_append_right _ (List.mem_of_getElem? (i := 399) (by decide +kernel))) (by decide +kernel)
theorem kw_157 : Cond.selects R_MO y_MO_turnBack y_MO_turnBack ∈ bw := by decide +kernel
theorem kw_158 : Cond.methodLink R_BR 3 Lib.objectInit ∈ bw := bw_of (List.mem_append_right _ (List.mem_of_getElem? (i := 22) (by decide +kernel))) (by decide +kernel)
theorem kw_159 : Cond.fieldLink R_BR 9 "ColumnIndex$ByteRow" "bytes" "[I" ∈ bw := bw_of (List.mem_append_right _ (List.mem_of_getElem? (i := 23) (by decide +kernel))) (by decide +kernel)
theorem kw_160 : Cond.fieldLink R_BR 15 "ColumnIndex$ByteRow" "length" "I" ∈ bw := bw_of (List.mem_append_right _ (List.mem_of_getElem? (i := 27) (by decide +kernel))) (by decide +kernel)
theorem kw_161 : Cond.methodLink R_BR 19 arraycopyName ∈ bw := bw_of (List.mem_append_right _ (List.mem_of_getElem? (i := 122) (by decide +kernel))) (by decide +kernel)
theorem kw_162 : Cond.native arraycopyName ∈ bw := bw_of (List.mem_append_right _ (List.mem_of_getElem? (i := 124) (by decide +kernel))) (by decide +kernel)
theorem kw_163 : Cond.static arraycopyName ∈ bw := bw_of (List.mem_append_right _ (List.mem_of_getElem? (i := 123) (by decide +kernel))) (by decide +kernel)
theorem kw_164 : Cond.initialized "java/lang/System" ∈ bw := bw_of (List.mem_append_right _ (List.mem_of_getElem? (i := 7) (by decide +kernel))) (by decide +kernel)
theorem kw_165 : Cond.methodLink R_BR 25 Lib.Math.min.name ∈ bw := bw_of (List.mem_append_right _ (List.mem_of_getElem? (i := 149) (by decide +kernel))) (by decide +kernel)
theorem kw_166 : Cond.methodLink R_CR 3 Lib.objectInit ∈ bw := bw_of (List.mem_append_right _ (List.mem_of_getElem? (i := 79) (by decide +kernel))) (by decide +kernel)
theorem kw_167 : Cond.fieldLink R_CR 9 "ColumnIndex$ColumnReader" "column" "[I" ∈ bw := bw_of (List.mem_append_right _ (List.mem_of_getElem? (i := 80) (by decide +kernel))) (by decide +kernel)
theorem kw_168 : Cond.fieldLink R_CR 15 "ColumnIndex$ColumnReader" "lastRank" "I" ∈ bw := bw_of (List.mem_append_right _ (List.mem_of_getElem? (i := 81) (by decide +kernel))) (by decide +kernel)
theorem kw_169 : Cond.fieldLink R_CR 19 "ColumnIndex$ByteRow" "length" "I" ∈ bw := bw_of (List.mem_append_right _ (List.mem_of_getElem? (i := 29) (by decide +kernel))) (by decide +kernel)
theorem kw_170 : Cond.fieldLink R_CR 24 "ColumnIndex$ByteRow" "bytes" "[I" ∈ bw := bw_of (List.mem_append_right _ (List.mem_of_getElem? (i := 24) (by decide +kernel))) (by decide +kernel)
theorem kw_171 : Cond.code y_CR_rankOfLonger b_CR_rankOfLonger 4 (some .int) ∈ bw := bw_of (List.mem_append_right _ (List.mem_of_getElem? (i := 261) (by decide +kernel))) (by decide +kernel)
theorem kw_172 : Cond.methodLink R_CR 27 y_CR_rankOfLonger ∈ bw := bw_of (List.mem_append_right _ (List.mem_of_getElem? (i := 258) (by decide +kernel))) (by decide +kernel)
theorem kw_173 : Cond.instanceMethod y_CR_rankOfLonger ∈ bw := bw_of (List.mem_append_right _ (List.mem_of_getElem? (i := 260) (by decide +kernel))) (by decide +kernel)
theorem kw_174 : Cond.selects R_CR y_CR_rankOfLonger y_CR_rankOfLonger ∈ bw := by decide +kernel
theorem kw_175 : Cond.methodLink R_FL 3 Lib.objectInit ∈ bw := bw_of (List.mem_append_right _ (List.mem_of_getElem? (i := 65) (by decide +kernel))) (by decide +kernel)
theorem kw_176 : Cond.fieldLink R_FL 9 "ColumnIndex$FrontList" "numberAt" "[I" ∈ bw := bw_of (List.mem_append_right _ (List.mem_of_getElem? (i := 66) (by decide +kernel))) (by decide +kernel)
theorem kw_177 : Cond.fieldLink R_FL 15 "ColumnIndex$FrontList" "list" "[I" ∈ bw := bw_of (List.mem_append_right _ (List.mem_of_getElem? (i := 68) (by decide +kernel))) (by decide +kernel)
theorem kw_178 : Cond.code y_FL_startAgain b_FL_startAgain 2 none ∈ bw := bw_of (List.mem_append_right _ (List.mem_of_getElem? (i := 159) (by decide +kernel))) (by decide +kernel)
theorem kw_179 : Cond.methodLink R_FL 18 y_FL_startAgain ∈ bw := bw_of (List.mem_append_right _ (List.mem_of_getElem? (i := 156) (by decide +kernel))) (by decide +kernel)
theorem kw_180 : Cond.instanceMethod y_FL_startAgain ∈ bw := bw_of (List.mem_append_right _ (List.mem_of_getElem? (i := 158) (by decide +kernel))) (by decide +kernel)
theorem kw_181 : Cond.selects R_FL y_FL_startAgain y_FL_startAgain ∈ bw := by decide +kernel
theorem kw_182 : Cond.code y_FL_moveToFront b_FL_moveToFront 3 (some .int) ∈ bw := bw_of (List.mem_append_right _ (List.mem_of_getElem? (i := 163) (by decide +kernel))) (by decide +kernel)
theorem kw_183 : Cond.methodLink R_FL 21 y_FL_moveToFront ∈ bw := bw_of (List.mem_append_right _ (List.mem_of_getElem? (i := 160) (by decide +kernel))) (by decide +kernel)
theorem kw_184 : Cond.instanceMethod y_FL_moveToFront ∈ bw := bw_of (List.mem_append_right _ (List.mem_of_getElem? (i := 162) (by decide +kernel))) (by decide +kernel)
theorem kw_185 : Cond.selects R_FL y_FL_moveToFront y_FL_moveToFront ∈ bw := by decide +kernel
theorem kw_186 : Cond.methodLink R_FL 25 arraycopyName ∈ bw := bw_of (List.mem_append_right _ (List.mem_of_getElem? (i := 164) (by decide +kernel))) (by decide +kernel)
theorem kw_187 : Cond.methodLink R_SO 3 Lib.objectInit ∈ bw := bw_of (List.mem_append_right _ (List.mem_of_getElem? (i := 42) (by decide +kernel))) (by decide +kernel)
theorem kw_188 : Cond.fieldLink R_SO 9 "ColumnIndex$SuffixOrder" "suffixAt" "[I" ∈ bw := bw_of (List.mem_append_right _ (List.mem_of_getElem? (i := 43) (by decide +kernel))) (by decide +kernel)
theorem kw_189 : Cond.fieldLink R_SO 15 "ColumnIndex$SuffixOrder" "rankOf" "[I" ∈ bw := bw_of (List.mem_append_right _ (List.mem_of_getElem? (i := 45) (by decide +kernel))) (by decide +kernel)
theorem kw_190 : Cond.fieldLink R_SO 18 "ColumnIndex$SuffixOrder" "commonAt" "[I" ∈ bw := bw_of (List.mem_append_right _ (List.mem_of_getElem? (i := 47) (by decide +kernel))) (by decide +kernel)
theorem kw_191 : Cond.fieldLink R_SO 21 "ColumnIndex$SuffixOrder" "columnAt" "[I" ∈ bw := bw_of (List.mem_append_right _ (List.mem_of_getElem? (i := 49) (by decide +kernel))) (by decide +kernel)
theorem kw_192 : Cond.fieldLink R_SO 24 "ColumnIndex$ByteRow" "length" "I" ∈ bw := bw_of (List.mem_append_right _ (List.mem_of_getElem? (i := 28) (by decide +kernel))) (by decide +kernel)
theorem kw_193 : Cond.code y_SO_rankAmongShorter b_SO_rankAmongShorter 5 none ∈ bw := bw_of (List.mem_append_right _ (List.mem_of_getElem? (i := 140) (by decide +kernel))) (by decide +kernel)
theorem kw_194 : Cond.methodLink R_SO 30 y_SO_rankAmongShorter ∈ bw := bw_of (List.mem_append_right _ (List.mem_of_getElem? (i := 137) (by decide +kernel))) (by decide +kernel)
theorem kw_195 : Cond.instanceMethod y_SO_rankAmongShorter ∈ bw := bw_of (List.mem_append_right _ (List.mem_of_getElem? (i := 139) (by decide +kernel))) (by decide +kernel)
theorem kw_196 : Cond.selects R_SO y_SO_rankAmongShorter y_SO_rankAmongShorter ∈ bw := by decide +kernel
theorem kw_197 : Cond.fieldLink R_SO 34 "ColumnIndex$ByteRow" "bytes" "[I" ∈ bw := bw_of (List.mem_append_right _ (List.mem_of_getElem? (i := 25) (by decide +kernel))) (by decide +kernel)
theorem kw_198 : Cond.methodLink R_SO 37 y_BR_alike ∈ bw := bw_of (List.mem_append_right _ (List.mem_of_getElem? (i := 145) (by decide +kernel))) (by decide +kernel)
theorem kw_199 : Cond.code y_SO_shorterIsBefore b_SO_shorterIsBefore 5 (some .boolean) ∈ bw := bw_of (List.mem_append_right _ (List.mem_of_getElem? (i := 144) (by decide +kernel))) (by decide +kernel)
theorem kw_200 : Cond.methodLink R_SO 41 y_SO_shorterIsBefore ∈ bw := bw_of (List.mem_append_right _ (List.mem_of_getElem? (i := 141) (by decide +kernel))) (by decide +kernel)
theorem kw_201 : Cond.instanceMethod y_SO_shorterIsBefore ∈ bw := bw_of (List.mem_append_right _ (List.mem_of_getElem? (i := 143) (by decide +kernel))) (by decide +kernel)
theorem kw_202 : Cond.selects R_SO y_SO_shorterIsBefore y_SO_shorterIsBefore ∈ bw := by decide +kernel
theorem kw_203 : Cond.classLink R_LW 7 R_CX ∈ bw := bw_of (List.mem_append_right _ (List.mem_of_getElem? (i := 9) (by decide +kernel))) (by decide +kernel)
theorem kw_204 : Cond.instantiable R_CX 6 ∈ bw := bw_of (List.mem_append_right _ (List.mem_of_getElem? (i := 10) (by decide +kernel))) (by decide +kernel)
theorem kw_205 : Cond.code y_CX_init b_CX_init 1 none ∈ bw := bw_of (List.mem_append_right _ (List.mem_of_getElem? (i := 13) (by decide +kernel))) (by decide +kernel)
theorem kw_206 : Cond.methodLink R_LW 9 y_CX_init ∈ bw := bw_of (List.mem_append_right _ (List.mem_of_getElem? (i := 11) (by decide +kernel))) (by decide +kernel)
theorem kw_207 : Cond.instanceMethod y_CX_init ∈ bw := bw_of (List.mem_append_right _ (List.mem_of_getElem? (i := 12) (by decide +kernel))) (by decide +kernel)
theorem kw_208 : Cond.classLink R_LW 10 R_MO ∈ bw := bw_of (List.mem_append_right _ (List.mem_of_getElem? (i := 263) (by decide +kernel))) (by decide +kernel)
theorem kw_209 : Cond.instantiable R_MO 10 ∈ bw := bw_of (List.mem_append_right _ (List.mem_of_getElem? (i := 264) (by decide +kernel))) (by decide +kernel)
theorem kw_210 : Cond.code y_MO_init b_MO_init 1 none ∈ bw := bw_of (List.mem_append_right _ (List.mem_of_getElem? (i := 267) (by decide +kernel))) (by decide +kernel)
theorem kw_211 : Cond.methodLink R_LW 12 y_MO_init ∈ bw := bw_of (List.mem_append_right _ (List.mem_of_getElem? (i := 265) (by decide +kernel))) (by decide +kernel)
theorem kw_212 : Cond.instanceMethod y_MO_init ∈ bw := bw_of (List.mem_append_right _ (List.mem_of_getElem? (i := 266) (by decide +kernel))) (by decide +kernel)
theorem kw_213 : Cond.constantLong R_LW 13 4294967295 ∈ bw := bw_of (List.mem_append_right _ (List.mem_of_getElem? (i := 405) (by decide +kernel))) (by decide +kernel)
theorem kw_214 : Cond.code y_CX_type b_CX_type 5 (some .int) ∈ bw := bw_of (List.mem_append_right _ (List.mem_of_getElem? (i := 109) (by decide +kernel))) (by decide +kernel)
theorem kw_215 : Cond.methodLink R_LW 15 y_CX_type ∈ bw := bw_of (List.mem_append_right _ (List.mem_of_getElem? (i := 106) (by decide +kernel))) (by decide +kernel)
theorem kw_216 : Cond.instanceMethod y_CX_type ∈ bw := bw_of (List.mem_append_right _ (List.mem_of_getElem? (i := 107) (by decide +kernel))) (by decide +kernel)
theorem kw_217 : Cond.selects R_CX y_CX_type y_CX_type ∈ bw := bw_of (List.mem_append_right _ (List.mem_of_getElem? (i := 108) (by decide +kernel))) (by decide +kernel)
theorem kw_218 : Cond.code y_MO_type b_MO_type 5 (some .int) ∈ bw := bw_of (List.mem_append_right _ (List.mem_of_getElem? (i := 303) (by decide +kernel))) (by decide +kernel)
theorem kw_219 : Cond.methodLink R_LW 19 y_MO_type ∈ bw := bw_of (List.mem_append_right _ (List.mem_of_getElem? (i := 300) (by decide +kernel))) (by decide +kernel)
theorem kw_220 : Cond.instanceMethod y_MO_type ∈ bw := bw_of (List.mem_append_right _ (List.mem_of_getElem? (i := 301) (by decide +kernel))) (by decide +kernel)
theorem kw_221 : Cond.selects R_MO y_MO_type y_MO_type ∈ bw := bw_of (List.mem_append_right _ (List.mem_of_getElem? (i := 302) (by decide +kernel))) (by decide +kernel)
theorem kw_222 : Cond.methodLink R_LW 20 y_CX_build ∈ bw := bw_of (List.mem_append_right _ (List.mem_of_getElem? (i := 114) (by decide +kernel))) (by decide +kernel)
theorem kw_223 : Cond.code y_MO_build b_MO_build 1 (some .int) ∈ bw := bw_of (List.mem_append_right _ (List.mem_of_getElem? (i := 308) (by decide +kernel))) (by decide +kernel)
theorem kw_224 : Cond.methodLink R_LW 24 y_MO_build ∈ bw := bw_of (List.mem_append_right _ (List.mem_of_getElem? (i := 305) (by decide +kernel))) (by decide +kernel)
theorem kw_225 : Cond.instanceMethod y_MO_build ∈ bw := bw_of (List.mem_append_right _ (List.mem_of_getElem? (i := 306) (by decide +kernel))) (by decide +kernel)
theorem kw_226 : Cond.selects R_MO y_MO_build y_MO_build ∈ bw := bw_of (List.mem_append_right _ (List.mem_of_getElem? (i := 307) (by decide +kernel))) (by decide +kernel)
theorem kw_227 : Cond.code y_CX_size b_CX_size 1 (some .int) ∈ bw := bw_of (List.mem_append_right _ (List.mem_of_getElem? (i := 168) (by decide +kernel))) (by decide +kernel)
theorem kw_228 : Cond.methodLink R_LW 25 y_CX_size ∈ bw := bw_of (List.mem_append_right _ (List.mem_of_getElem? (i := 165) (by decide +kernel))) (by decide +kernel)
theorem kw_229 : Cond.instanceMethod y_CX_size ∈ bw := bw_of (List.mem_append_right _ (List.mem_of_getElem? (i := 166) (by decide +kernel))) (by decide +kernel)
theorem kw_230 : Cond.selects R_CX y_CX_size y_CX_size ∈ bw := bw_of (List.mem_append_right _ (List.mem_of_getElem? (i := 167) (by decide +kernel))) (by decide +kernel)
theorem kw_231 : Cond.code y_MO_size b_MO_size 1 (some .int) ∈ bw := bw_of (List.mem_append_right _ (List.mem_of_getElem? (i := 328) (by decide +kernel))) (by decide +kernel)
theorem kw_232 : Cond.methodLink R_LW 28 y_MO_size ∈ bw := bw_of (List.mem_append_right _ (List.mem_of_getElem? (i := 325) (by decide +kernel))) (by decide +kernel)
theorem kw_233 : Cond.instanceMethod y_MO_size ∈ bw := bw_of (List.mem_append_right _ (List.mem_of_getElem? (i := 326) (by decide +kernel))) (by decide +kernel)
theorem kw_234 : Cond.selects R_MO y_MO_size y_MO_size ∈ bw := bw_of (List.mem_append_right _ (List.mem_of_getElem? (i := 327) (by decide +kernel))) (by decide +kernel)
theorem kw_235 : Cond.code y_CX_at b_CX_at 2 (some .int) ∈ bw := bw_of (List.mem_append_right _ (List.mem_of_getElem? (i := 172) (by decide +kernel))) (by decide +kernel)
theorem kw_236 : Cond.methodLink R_LW 29 y_CX_at ∈ bw := bw_of (List.mem_append_right _ (List.mem_of_getElem? (i := 169) (by decide +kernel))) (by decide +kernel)
theorem kw_237 : Cond.instanceMethod y_CX_at ∈ bw := bw_of (List.mem_append_right _ (List.mem_of_getElem? (i := 170) (by decide +kernel))) (by decide +kernel)
theorem kw_238 : Cond.selects R_CX y_CX_at y_CX_at ∈ bw := bw_of (List.mem_append_right _ (List.mem_of_getElem? (i := 171) (by decide +kernel))) (by decide +kernel)
theorem kw_239 : Cond.code y_MO_at b_MO_at 2 (some .int) ∈ bw := bw_of (List.mem_append_right _ (List.mem_of_getElem? (i := 332) (by decide +kernel))) (by decide +kernel)
theorem kw_240 : Cond.methodLink R_LW 33 y_MO_at ∈ bw := bw_of (List.mem_append_right _ (List.mem_of_getElem? (i := 329) (by decide +kernel))) (by decide +kernel)
theorem kw_241 : Cond.instanceMethod y_MO_at ∈ bw := bw_of (List.mem_append_right _ (List.mem_of_getElem? (i := 330) (by decide +kernel))) (by decide +kernel)
theorem kw_242 : Cond.selects R_MO y_MO_at y_MO_at ∈ bw := bw_of (List.mem_append_right _ (List.mem_of_getElem? (i := 331) (by decide +kernel))) (by decide +kernel)
theorem kw_243 : Cond.code y_CX_suffix b_CX_suffix 2 (some .int) ∈ bw := bw_of (List.mem_append_right _ (List.mem_of_getElem? (i := 176) (by decide +kernel))) (by decide +kernel)
theorem kw_244 : Cond.methodLink R_LW 34 y_CX_suffix ∈ bw := bw_of (List.mem_append_right _ (List.mem_of_getElem? (i := 173) (by decide +kernel))) (by decide +kernel)
theorem kw_245 : Cond.instanceMethod y_CX_suffix ∈ bw := bw_of (List.mem_append_right _ (List.mem_of_getElem? (i := 174) (by decide +kernel))) (by decide +kernel)
theorem kw_246 : Cond.selects R_CX y_CX_suffix y_CX_suffix ∈ bw := bw_of (List.mem_append_right _ (List.mem_of_getElem? (i := 175) (by decide +kernel))) (by decide +kernel)
theorem kw_247 : Cond.code y_MO_suffix b_MO_suffix 2 (some .int) ∈ bw := bw_of (List.mem_append_right _ (List.mem_of_getElem? (i := 336) (by decide +kernel))) (by decide +kernel)
theorem kw_248 : Cond.methodLink R_LW 37 y_MO_suffix ∈ bw := bw_of (List.mem_append_right _ (List.mem_of_getElem? (i := 333) (by decide +kernel))) (by decide +kernel)
theorem kw_249 : Cond.instanceMethod y_MO_suffix ∈ bw := bw_of (List.mem_append_right _ (List.mem_of_getElem? (i := 334) (by decide +kernel))) (by decide +kernel)
theorem kw_250 : Cond.selects R_MO y_MO_suffix y_MO_suffix ∈ bw := bw_of (List.mem_append_right _ (List.mem_of_getElem? (i := 335) (by decide +kernel))) (by decide +kernel)
theorem kw_251 : Cond.code y_CX_rank b_CX_rank 2 (some .int) ∈ bw := bw_of (List.mem_append_right _ (List.mem_of_getElem? (i := 184) (by decide +kernel))) (by decide +kernel)
theorem kw_252 : Cond.methodLink R_LW 38 y_CX_rank ∈ bw := bw_of (List.mem_append_right _ (List.mem_of_getElem? (i := 181) (by decide +kernel))) (by decide +kernel)
theorem kw_253 : Cond.instanceMethod y_CX_rank ∈ bw := bw_of (List.mem_append_right _ (List.mem_of_getElem? (i := 182) (by decide +kernel))) (by decide +kernel)
theorem kw_254 : Cond.selects R_CX y_CX_rank y_CX_rank ∈ bw := bw_of (List.mem_append_right _ (List.mem_of_getElem? (i := 183) (by decide +kernel))) (by decide +kernel)
theorem kw_255 : Cond.code y_MO_rank b_MO_rank 4 (some .int) ∈ bw := bw_of (List.mem_append_right _ (List.mem_of_getElem? (i := 340) (by decide +kernel))) (by decide +kernel)
theorem kw_256 : Cond.methodLink R_LW 41 y_MO_rank ∈ bw := bw_of (List.mem_append_right _ (List.mem_of_getElem? (i := 337) (by decide +kernel))) (by decide +kernel)
theorem kw_257 : Cond.instanceMethod y_MO_rank ∈ bw := bw_of (List.mem_append_right _ (List.mem_of_getElem? (i := 338) (by decide +kernel))) (by decide +kernel)
theorem kw_258 : Cond.selects R_MO y_MO_rank y_MO_rank ∈ bw := bw_of (List.mem_append_right _ (List.mem_of_getElem? (i := 339) (by decide +kernel))) (by decide +kernel)
theorem kw_259 : Cond.code y_CX_column b_CX_column 2 (some .int) ∈ bw := bw_of (List.mem_append_right _ (List.mem_of_getElem? (i := 188) (by decide +kernel))) (by decide +kernel)
theorem kw_260 : Cond.methodLink R_LW 42 y_CX_column ∈ bw := bw_of (List.mem_append_right _ (List.mem_of_getElem? (i := 185) (by decide +kernel))) (by decide +kernel)
theorem kw_261 : Cond.instanceMethod y_CX_column ∈ bw := bw_of (List.mem_append_right _ (List.mem_of_getElem? (i := 186) (by decide +kernel))) (by decide +kernel)
theorem kw_262 : Cond.selects R_CX y_CX_column y_CX_column ∈ bw := bw_of (List.mem_append_right _ (List.mem_of_getElem? (i := 187) (by decide +kernel))) (by decide +kernel)
theorem kw_263 : Cond.code y_MO_column b_MO_column 2 (some .int) ∈ bw := bw_of (List.mem_append_right _ (List.mem_of_getElem? (i := 344) (by decide +kernel))) (by decide +kernel)
theorem kw_264 : Cond.methodLink R_LW 45 y_MO_column ∈ bw := bw_of (List.mem_append_right _ (List.mem_of_getElem? (i := 341) (by decide +kernel))) (by decide +kernel)
theorem kw_265 : Cond.instanceMethod y_MO_column ∈ bw := bw_of (List.mem_append_right _ (List.mem_of_getElem? (i := 342) (by decide +kernel))) (by decide +kernel)
theorem kw_266 : Cond.selects R_MO y_MO_column y_MO_column ∈ bw := bw_of (List.mem_append_right _ (List.mem_of_getElem? (i := 343) (by decide +kernel))) (by decide +kernel)
theorem kw_267 : Cond.code y_CX_common b_CX_common 2 (some .int) ∈ bw := bw_of (List.mem_append_right _ (List.mem_of_getElem? (i := 192) (by decide +kernel))) (by decide +kernel)
theorem kw_268 : Cond.methodLink R_LW 46 y_CX_common ∈ bw := bw_of (List.mem_append_right _ (List.mem_of_getElem? (i := 189) (by decide +kernel))) (by decide +kernel)
theorem kw_269 : Cond.instanceMethod y_CX_common ∈ bw := bw_of (List.mem_append_right _ (List.mem_of_getElem? (i := 190) (by decide +kernel))) (by decide +kernel)
theorem kw_270 : Cond.selects R_CX y_CX_common y_CX_common ∈ bw := bw_of (List.mem_append_right _ (List.mem_of_getElem? (i := 191) (by decide +kernel))) (by decide +kernel)
theorem kw_271 : Cond.code y_MO_common b_MO_common 2 (some .int) ∈ bw := bw_of (List.mem_append_right _ (List.mem_of_getElem? (i := 352) (by decide +kernel))) (by decide +kernel)
theorem kw_272 : Cond.methodLink R_LW 49 y_MO_common ∈ bw := bw_of (List.mem_append_right _ (List.mem_of_getElem? (i := 349) (by decide +kernel))) (by decide +kernel)
theorem kw_273 : Cond.instanceMethod y_MO_common ∈ bw := bw_of (List.mem_append_right _ (List.mem_of_getElem? (i := 350) (by decide +kernel))) (by decide +kernel)
theorem kw_274 : Cond.selects R_MO y_MO_common y_MO_common ∈ bw := bw_of (List.mem_append_right _ (List.mem_of_getElem? (i := 351) (by decide +kernel))) (by decide +kernel)
theorem kw_275 : Cond.code y_CX_moved b_CX_moved 2 (some .int) ∈ bw := bw_of (List.mem_append_right _ (List.mem_of_getElem? (i := 196) (by decide +kernel))) (by decide +kernel)
theorem kw_276 : Cond.methodLink R_LW 50 y_CX_moved ∈ bw := bw_of (List.mem_append_right _ (List.mem_of_getElem? (i := 193) (by decide +kernel))) (by decide +kernel)
theorem kw_277 : Cond.instanceMethod y_CX_moved ∈ bw := bw_of (List.mem_append_right _ (List.mem_of_getElem? (i := 194) (by decide +kernel))) (by decide +kernel)
theorem kw_278 : Cond.selects R_CX y_CX_moved y_CX_moved ∈ bw := bw_of (List.mem_append_right _ (List.mem_of_getElem? (i := 195) (by decide +kernel))) (by decide +kernel)
theorem kw_279 : Cond.code y_MO_moved b_MO_moved 6 (some .int) ∈ bw := bw_of (List.mem_append_right _ (List.mem_of_getElem? (i := 356) (by decide +kernel))) (by decide +kernel)
theorem kw_280 : Cond.methodLink R_LW 53 y_MO_moved ∈ bw := bw_of (List.mem_append_right _ (List.mem_of_getElem? (i := 353) (by decide +kernel))) (by decide +kernel)
theorem kw_281 : Cond.instanceMethod y_MO_moved ∈ bw := bw_of (List.mem_append_right _ (List.mem_of_getElem? (i := 354) (by decide +kernel))) (by decide +kernel)
theorem kw_282 : Cond.selects R_MO y_MO_moved y_MO_moved ∈ bw := bw_of (List.mem_append_right _ (List.mem_of_getElem? (i := 355) (by decide +kernel))) (by decide +kernel)
theorem kw_283 : Cond.code y_CX_distinct b_CX_distinct 4 (some .int) ∈ bw := bw_of (List.mem_append_right _ (List.mem_of_getElem? (i := 200) (by decide +kernel))) (by decide +kernel)
theorem kw_284 : Cond.methodLink R_LW 54 y_CX_distinct ∈ bw := bw_of (List.mem_append_right _ (List.mem_of_getElem? (i := 197) (by decide +kernel))) (by decide +kernel)
theorem kw_285 : Cond.instanceMethod y_CX_distinct ∈ bw := bw_of (List.mem_append_right _ (List.mem_of_getElem? (i := 198) (by decide +kernel))) (by decide +kernel)
theorem kw_286 : Cond.selects R_CX y_CX_distinct y_CX_distinct ∈ bw := bw_of (List.mem_append_right _ (List.mem_of_getElem? (i := 199) (by decide +kernel))) (by decide +kernel)
theorem kw_287 : Cond.code y_MO_distinct b_MO_distinct 3 (some .int) ∈ bw := bw_of (List.mem_append_right _ (List.mem_of_getElem? (i := 360) (by decide +kernel))) (by decide +kernel)
theorem kw_288 : Cond.methodLink R_LW 57 y_MO_distinct ∈ bw := bw_of (List.mem_append_right _ (List.mem_of_getElem? (i := 357) (by decide +kernel))) (by decide +kernel)
theorem kw_289 : Cond.instanceMethod y_MO_distinct ∈ bw := bw_of (List.mem_append_right _ (List.mem_of_getElem? (i := 358) (by decide +kernel))) (by decide +kernel)
theorem kw_290 : Cond.selects R_MO y_MO_distinct y_MO_distinct ∈ bw := bw_of (List.mem_append_right _ (List.mem_of_getElem? (i := 359) (by decide +kernel))) (by decide +kernel)
theorem kw_291 : Cond.code y_CX_repeat b_CX_repeat 6 (some .int) ∈ bw := bw_of (List.mem_append_right _ (List.mem_of_getElem? (i := 204) (by decide +kernel))) (by decide +kernel)
theorem kw_292 : Cond.methodLink R_LW 58 y_CX_repeat ∈ bw := bw_of (List.mem_append_right _ (List.mem_of_getElem? (i := 201) (by decide +kernel))) (by decide +kernel)
theorem kw_293 : Cond.instanceMethod y_CX_repeat ∈ bw := bw_of (List.mem_append_right _ (List.mem_of_getElem? (i := 202) (by decide +kernel))) (by decide +kernel)
theorem kw_294 : Cond.selects R_CX y_CX_repeat y_CX_repeat ∈ bw := bw_of (List.mem_append_right _ (List.mem_of_getElem? (i := 203) (by decide +kernel))) (by decide +kernel)
theorem kw_295 : Cond.code y_MO_repeat b_MO_repeat 6 (some .int) ∈ bw := bw_of (List.mem_append_right _ (List.mem_of_getElem? (i := 364) (by decide +kernel))) (by decide +kernel)
theorem kw_296 : Cond.methodLink R_LW 61 y_MO_repeat ∈ bw := bw_of (List.mem_append_right _ (List.mem_of_getElem? (i := 361) (by decide +kernel))) (by decide +kernel)
theorem kw_297 : Cond.instanceMethod y_MO_repeat ∈ bw := bw_of (List.mem_append_right _ (List.mem_of_getElem? (i := 362) (by decide +kernel))) (by decide +kernel)
theorem kw_298 : Cond.selects R_MO y_MO_repeat y_MO_repeat ∈ bw := bw_of (List.mem_append_right _ (List.mem_of_getElem? (i := 363) (by decide +kernel))) (by decide +kernel)
theorem kw_299 : Cond.code y_CX_seek b_CX_seek 1 (some .int) ∈ bw := bw_of (List.mem_append_right _ (List.mem_of_getElem? (i := 209) (by decide +kernel))) (by decide +kernel)
theorem kw_300 : Cond.methodLink R_LW 62 y_CX_seek ∈ bw := bw_of (List.mem_append_right _ (List.mem_of_getElem? (i := 206) (by decide +kernel))) (by decide +kernel)
theorem kw_301 : Cond.instanceMethod y_CX_seek ∈ bw := bw_of (List.mem_append_right _ (List.mem_of_getElem? (i := 207) (by decide +kernel))) (by decide +kernel)
theorem kw_302 : Cond.selects R_CX y_CX_seek y_CX_seek ∈ bw := bw_of (List.mem_append_right _ (List.mem_of_getElem? (i := 208) (by decide +kernel))) (by decide +kernel)
theorem kw_303 : Cond.code y_MO_seek b_MO_seek 2 (some .int) ∈ bw := bw_of (List.mem_append_right _ (List.mem_of_getElem? (i := 368) (by decide +kernel))) (by decide +kernel)
theorem kw_304 : Cond.methodLink R_LW 65 y_MO_seek ∈ bw := bw_of (List.mem_append_right _ (List.mem_of_getElem? (i := 365) (by decide +kernel))) (by decide +kernel)
theorem kw_305 : Cond.instanceMethod y_MO_seek ∈ bw := bw_of (List.mem_append_right _ (List.mem_of_getElem? (i := 366) (by decide +kernel))) (by decide +kernel)
theorem kw_306 : Cond.selects R_MO y_MO_seek y_MO_seek ∈ bw := bw_of (List.mem_append_right _ (List.mem_of_getElem? (i := 367) (by decide +kernel))) (by decide +kernel)
theorem kw_307 : Cond.code y_CX_extend b_CX_extend 2 (some .int) ∈ bw := bw_of (List.mem_append_right _ (List.mem_of_getElem? (i := 222) (by decide +kernel))) (by decide +kernel)
theorem kw_308 : Cond.methodLink R_LW 66 y_CX_extend ∈ bw := bw_of (List.mem_append_right _ (List.mem_of_getElem? (i := 219) (by decide +kernel))) (by decide +kernel)
theorem kw_309 : Cond.instanceMethod y_CX_extend ∈ bw := bw_of (List.mem_append_right _ (List.mem_of_getElem? (i := 220) (by decide +kernel))) (by decide +kernel)
theorem kw_310 : Cond.selects R_CX y_CX_extend y_CX_extend ∈ bw := bw_of (List.mem_append_right _ (List.mem_of_getElem? (i := 221) (by decide +kernel))) (by decide +kernel)
theorem kw_311 : Cond.code y_MO_extend b_MO_extend 3 (some .int) ∈ bw := bw_of (List.mem_append_right _ (List.mem_of_getElem? (i := 380) (by decide +kernel))) (by decide +kernel)
theorem kw_312 : Cond.methodLink R_LW 69 y_MO_extend ∈ bw := bw_of (List.mem_append_right _ (List.mem_of_getElem? (i := 377) (by decide +kernel))) (by decide +kernel)
theorem kw_313 : Cond.instanceMethod y_MO_extend ∈ bw := bw_of (List.mem_append_right _ (List.mem_of_getElem? (i := 378) (by decide +kernel))) (by decide +kernel)
theorem kw_314 : Cond.selects R_MO y_MO_extend y_MO_extend ∈ bw := bw_of (List.mem_append_right _ (List.mem_of_getElem? (i := 379) (by decide +kernel))) (by decide +kernel)
theorem kw_315 : Cond.code y_CX_before b_CX_before 3 (some .int) ∈ bw := bw_of (List.mem_append_right _ (List.mem_of_getElem? (i := 230) (by decide +kernel))) (by decide +kernel)
theorem kw_316 : Cond.methodLink R_LW 70 y_CX_before ∈ bw := bw_of (List.mem_append_right _ (List.mem_of_getElem? (i := 227) (by decide +kernel))) (by decide +kernel)
theorem kw_317 : Cond.instanceMethod y_CX_before ∈ bw := bw_of (List.mem_append_right _ (List.mem_of_getElem? (i := 228) (by decide +kernel))) (by decide +kernel)
theorem kw_318 : Cond.selects R_CX y_CX_before y_CX_before ∈ bw := bw_of (List.mem_append_right _ (List.mem_of_getElem? (i := 229) (by decide +kernel))) (by decide +kernel)
theorem kw_319 : Cond.code y_MO_before b_MO_before 4 (some .int) ∈ bw := bw_of (List.mem_append_right _ (List.mem_of_getElem? (i := 384) (by decide +kernel))) (by decide +kernel)
theorem kw_320 : Cond.methodLink R_LW 73 y_MO_before ∈ bw := bw_of (List.mem_append_right _ (List.mem_of_getElem? (i := 381) (by decide +kernel))) (by decide +kernel)
theorem kw_321 : Cond.instanceMethod y_MO_before ∈ bw := bw_of (List.mem_append_right _ (List.mem_of_getElem? (i := 382) (by decide +kernel))) (by decide +kernel)
theorem kw_322 : Cond.selects R_MO y_MO_before y_MO_before ∈ bw := bw_of (List.mem_append_right _ (List.mem_of_getElem? (i := 383) (by decide +kernel))) (by decide +kernel)
theorem kw_323 : Cond.code y_CX_hit b_CX_hit 4 (some .int) ∈ bw := bw_of (List.mem_append_right _ (List.mem_of_getElem? (i := 238) (by decide +kernel))) (by decide +kernel)
theorem kw_324 : Cond.methodLink R_LW 74 y_CX_hit ∈ bw := bw_of (List.mem_append_right _ (List.mem_of_getElem? (i := 235) (by decide +kernel))) (by decide +kernel)
theorem kw_325 : Cond.instanceMethod y_CX_hit ∈ bw := bw_of (List.mem_append_right _ (List.mem_of_getElem? (i := 236) (by decide +kernel))) (by decide +kernel)
theorem kw_326 : Cond.selects R_CX y_CX_hit y_CX_hit ∈ bw := bw_of (List.mem_append_right _ (List.mem_of_getElem? (i := 237) (by decide +kernel))) (by decide +kernel)
theorem kw_327 : Cond.code y_MO_hit b_MO_hit 4 (some .int) ∈ bw := bw_of (List.mem_append_right _ (List.mem_of_getElem? (i := 388) (by decide +kernel))) (by decide +kernel)
theorem kw_328 : Cond.methodLink R_LW 77 y_MO_hit ∈ bw := bw_of (List.mem_append_right _ (List.mem_of_getElem? (i := 385) (by decide +kernel))) (by decide +kernel)
theorem kw_329 : Cond.instanceMethod y_MO_hit ∈ bw := bw_of (List.mem_append_right _ (List.mem_of_getElem? (i := 386) (by decide +kernel))) (by decide +kernel)
theorem kw_330 : Cond.selects R_MO y_MO_hit y_MO_hit ∈ bw := bw_of (List.mem_append_right _ (List.mem_of_getElem? (i := 387) (by decide +kernel))) (by decide +kernel)
theorem kw_331 : Cond.code y_CX_match b_CX_match 4 (some .int) ∈ bw := bw_of (List.mem_append_right _ (List.mem_of_getElem? (i := 242) (by decide +kernel))) (by decide +kernel)
theorem kw_332 : Cond.methodLink R_LW 78 y_CX_match ∈ bw := bw_of (List.mem_append_right _ (List.mem_of_getElem? (i := 239) (by decide +kernel))) (by decide +kernel)
theorem kw_333 : Cond.instanceMethod y_CX_match ∈ bw := bw_of (List.mem_append_right _ (List.mem_of_getElem? (i := 240) (by decide +kernel))) (by decide +kernel)
theorem kw_334 : Cond.selects R_CX y_CX_match y_CX_match ∈ bw := bw_of (List.mem_append_right _ (List.mem_of_getElem? (i := 241) (by decide +kernel))) (by decide +kernel)
theorem kw_335 : Cond.code y_MO_match b_MO_match 5 (some .int) ∈ bw := bw_of (List.mem_append_right _ (List.mem_of_getElem? (i := 392) (by decide +kernel))) (by decide +kernel)
theorem kw_336 : Cond.methodLink R_LW 81 y_MO_match ∈ bw := bw_of (List.mem_append_right _ (List.mem_of_getElem? (i := 389) (by decide +kernel))) (by decide +kernel)
theorem kw_337 : Cond.instanceMethod y_MO_match ∈ bw := bw_of (List.mem_append_right _ (List.mem_of_getElem? (i := 390) (by decide +kernel))) (by decide +kernel)
theorem kw_338 : Cond.selects R_MO y_MO_match y_MO_match ∈ bw := bw_of (List.mem_append_right _ (List.mem_of_getElem? (i := 391) (by decide +kernel))) (by decide +kernel)
theorem kw_339 : Cond.code y_CX_revert b_CX_revert 2 (some .int) ∈ bw := bw_of (List.mem_append_right _ (List.mem_of_getElem? (i := 249) (by decide +kernel))) (by decide +kernel)
theorem kw_340 : Cond.methodLink R_LW 82 y_CX_revert ∈ bw := bw_of (List.mem_append_right _ (List.mem_of_getElem? (i := 246) (by decide +kernel))) (by decide +kernel)
theorem kw_341 : Cond.instanceMethod y_CX_revert ∈ bw := bw_of (List.mem_append_right _ (List.mem_of_getElem? (i := 247) (by decide +kernel))) (by decide +kernel)
theorem kw_342 : Cond.selects R_CX y_CX_revert y_CX_revert ∈ bw := bw_of (List.mem_append_right _ (List.mem_of_getElem? (i := 248) (by decide +kernel))) (by decide +kernel)
theorem kw_343 : Cond.code y_MO_revert b_MO_revert 6 (some .int) ∈ bw := bw_of (List.mem_append_right _ (List.mem_of_getElem? (i := 396) (by decide +kernel))) (by decide +kernel)
theorem kw_344 : Cond.methodLink R_LW 85 y_MO_revert ∈ bw := bw_of (List.mem_append_right _ (List.mem_of_getElem? (i := 393) (by decide +kernel))) (by decide +kernel)
theorem kw_345 : Cond.instanceMethod y_MO_revert ∈ bw := bw_of (List.mem_append_right _ (List.mem_of_getElem? (i := 394) (by decide +kernel))) (by decide +kernel)
theorem kw_346 : Cond.selects R_MO y_MO_revert y_MO_revert ∈ bw := bw_of (List.mem_append_right _ (List.mem_of_getElem? (i := 395) (by decide +kernel))) (by decide +kernel)
end
section
theorem d_CX_init_0 : decode b_CX_init 0 = .ok (.aload_n 0, 1) := by decide +kernel
theorem d_CX_init_1 : decode b_CX_init 1 = .ok (.invokespecial 3, 3) := by decide +kernel
theorem d_CX_init_4 : decode b_CX_init 4 = .ok (.aload_n 0, 1) := by decide +kernel
theorem d_CX_init_5 : decode b_CX_init 5 = .ok (.new 9, 3) := by decide +kernel
theorem d_CX_init_8 : decode b_CX_init 8 = .ok (.dup, 1) := by decide +kernel
theorem d_CX_init_9 : decode b_CX_init 9 = .ok (.invokespecial 11, 3) := by decide +kernel
theorem d_CX_init_12 : decode b_CX_init 12 = .ok (.putfield 12, 3) := by decide +kernel
theorem d_CX_init_15 : decode b_CX_init 15 = .ok (.aload_n 0, 1) := by decide +kernel
theorem d_CX_init_16 : decode b_CX_init 16 = .ok (.new 9, 3) := by decide +kernel
theorem d_CX_init_19 : decode b_CX_init 19 = .ok (.dup, 1) := by decide +kernel
theorem d_CX_init_20 : decode b_CX_init 20 = .ok (.invokespecial 11, 3) := by decide +kernel
theorem d_CX_init_23 : decode b_CX_init 23 = .ok (.putfield 16, 3) := by decide +kernel
theorem d_CX_init_26 : decode b_CX_init 26 = .ok (.aload_n 0, 1) := by decide +kernel
theorem d_CX_init_27 : decode b_CX_init 27 = .ok (.new 9, 3) := by decide +kernel
theorem d_CX_init_30 : decode b_CX_init 30 = .ok (.dup, 1) := by decide +kernel
theorem d_CX_init_31 : decode b_CX_init 31 = .ok (.invokespecial 11, 3) := by decide +kernel
theorem d_CX_init_34 : decode b_CX_init 34 = .ok (.putfield 19, 3) := by decide +kernel
theorem d_CX_init_37 : decode b_CX_init 37 = .ok (.aload_n 0, 1) := by decide +kernel
theorem d_CX_init_38 : decode b_CX_init 38 = .ok (.new 22, 3) := by decide +kernel
theorem d_CX_init_41 : decode b_CX_init 41 = .ok (.dup, 1) := by decide +kernel
theorem d_CX_init_42 : decode b_CX_init 42 = .ok (.invokespecial 24, 3) := by decide +kernel
theorem d_CX_init_45 : decode b_CX_init 45 = .ok (.putfield 25, 3) := by decide +kernel
theorem d_CX_init_48 : decode b_CX_init 48 = .ok (.aload_n 0, 1) := by decide +kernel
theorem d_CX_init_49 : decode b_CX_init 49 = .ok (.new 29, 3) := by decide +kernel
theorem d_CX_init_52 : decode b_CX_init 52 = .ok (.dup, 1) := by decide +kernel
theorem d_CX_init_53 : decode b_CX_init 53 = .ok (.invokespecial 31, 3) := by decide +kernel
theorem d_CX_init_56 : decode b_CX_init 56 = .ok (.putfield 32, 3) := by decide +kernel
theorem d_CX_init_59 : decode b_CX_init 59 = .ok (.aload_n 0, 1) := by decide +kernel
theorem d_CX_init_60 : decode b_CX_init 60 = .ok (.new 36, 3) := by decide +kernel
theorem d_CX_init_63 : decode b_CX_init 63 = .ok (.dup, 1) := by decide +kernel
theorem d_CX_init_64 : decode b_CX_init 64 = .ok (.invokespecial 38, 3) := by decide +kernel
theorem d_CX_init_67 : decode b_CX_init 67 = .ok (.putfield 39, 3) := by decide +kernel
theorem d_CX_init_70 : decode b_CX_init 70 = .ok (.return_, 1) := by decide +kernel
theorem d_CX_type_0 : decode b_CX_type 0 = .ok (.iload_n 3, 1) := by decide +kernel
theorem d_CX_type_1 : decode b_CX_type 1 = .ok (.iconst 1, 1) := by decide +kernel
theorem d_CX_type_2 : decode b_CX_type 2 = .ok (.if_icmp .lt 9, 3) := by decide +kernel
theorem d_CX_type_5 : decode b_CX_type 5 = .ok (.iload_n 3, 1) := by decide +kernel
theorem d_CX_type_6 : decode b_CX_type 6 = .ok (.bipush 8, 2) := by decide +kernel
theorem d_CX_type_8 : decode b_CX_type 8 = .ok (.if_icmp .le 5, 3) := by decide +kernel
theorem d_CX_type_11 : decode b_CX_type 11 = .ok (.iconst (-1), 1) := by decide +kernel
theorem d_CX_type_12 : decode b_CX_type 12 = .ok (.ireturn, 1) := by decide +kernel
theorem d_CX_type_13 : decode b_CX_type 13 = .ok (.iload_n 3, 1) := by decide +kernel
theorem d_CX_type_14 : decode b_CX_type 14 = .ok (.bipush 96, 2) := by decide +kernel
theorem d_CX_type_16 : decode b_CX_type 16 = .ok (.aload_n 0, 1) := by decide +kernel
theorem d_CX_type_17 : decode b_CX_type 17 = .ok (.getfield 12, 3) := by decide +kernel
theorem d_CX_type_20 : decode b_CX_type 20 = .ok (.getfield 43, 3) := by decide +kernel
theorem d_CX_type_23 : decode b_CX_type 23 = .ok (.isub, 1) := by decide +kernel
theorem d_CX_type_24 : decode b_CX_type 24 = .ok (.if_icmp .le 6, 3) := by decide +kernel
theorem d_CX_type_27 : decode b_CX_type 27 = .ok (.bipush (-3), 2) := by decide +kernel
theorem d_CX_type_29 : decode b_CX_type 29 = .ok (.ireturn, 1) := by decide +kernel
theorem d_CX_type_30 : decode b_CX_type 30 = .ok (.iload_n 3, 1) := by decide +kernel
theorem d_CX_type_31 : decode b_CX_type 31 = .ok (.iconst 1, 1) := by decide +kernel
theorem d_CX_type_32 : decode b_CX_type 32 = .ok (.isub, 1) := by decide +kernel
theorem d_CX_type_33 : decode b_CX_type 33 = .ok (.istore 4, 2) := by decide +kernel
theorem d_CX_type_35 : decode b_CX_type 35 = .ok (.iload 4, 2) := by decide +kernel
theorem d_CX_type_37 : decode b_CX_type 37 = .ok (.ifCond .lt 28, 3) := by decide +kernel
theorem d_CX_type_40 : decode b_CX_type 40 = .ok (.aload_n 0, 1) := by decide +kernel
theorem d_CX_type_41 : decode b_CX_type 41 = .ok (.getfield 12, 3) := by decide +kernel
theorem d_CX_type_44 : decode b_CX_type 44 = .ok (.lload_n 1, 1) := by decide +kernel
theorem d_CX_type_45 : decode b_CX_type 45 = .ok (.bipush 8, 2) := by decide +kernel
theorem d_CX_type_47 : decode b_CX_type 47 = .ok (.iload 4, 2) := by decide +kernel
theorem d_CX_type_49 : decode b_CX_type 49 = .ok (.imul, 1) := by decide +kernel
theorem d_CX_type_50 : decode b_CX_type 50 = .ok (.lushr, 1) := by decide +kernel
theorem d_CX_type_51 : decode b_CX_type 51 = .ok (.l2i, 1) := by decide +kernel
theorem d_CX_type_52 : decode b_CX_type 52 = .ok (.sipush 255, 3) := by decide +kernel
theorem d_CX_type_55 : decode b_CX_type 55 = .ok (.iand, 1) := by decide +kernel
theorem d_CX_type_56 : decode b_CX_type 56 = .ok (.invokevirtual 47, 3) := by decide +kernel
theorem d_CX_type_59 : decode b_CX_type 59 = .ok (.iinc 4 (-1), 3) := by decide +kernel
theorem d_CX_type_62 : decode b_CX_type 62 = .ok (.goto (-27), 3) := by decide +kernel
theorem d_CX_type_65 : decode b_CX_type 65 = .ok (.aload_n 0, 1) := by decide +kernel
theorem d_CX_type_66 : decode b_CX_type 66 = .ok (.getfield 12, 3) := by decide +kernel
theorem d_CX_type_69 : decode b_CX_type 69 = .ok (.getfield 43, 3) := by decide +kernel
theorem d_CX_type_72 : decode b_CX_type 72 = .ok (.ireturn, 1) := by decide +kernel
theorem d_CX_build_0 : decode b_CX_build 0 = .ok (.aload_n 0, 1) := by decide +kernel
theorem d_CX_build_1 : decode b_CX_build 1 = .ok (.getfield 16, 3) := by decide +kernel
theorem d_CX_build_4 : decode b_CX_build 4 = .ok (.aload_n 0, 1) := by decide +kernel
theorem d_CX_build_5 : decode b_CX_build 5 = .ok (.getfield 12, 3) := by decide +kernel
theorem d_CX_build_8 : decode b_CX_build 8 = .ok (.invokevirtual 51, 3) := by decide +kernel
theorem d_CX_build_11 : decode b_CX_build 11 = .ok (.aload_n 0, 1) := by decide +kernel
theorem d_CX_build_12 : decode b_CX_build 12 = .ok (.getfield 12, 3) := by decide +kernel
theorem d_CX_build_15 : decode b_CX_build 15 = .ok (.invokevirtual 55, 3) := by decide +kernel
theorem d_CX_build_18 : decode b_CX_build 18 = .ok (.aload_n 0, 1) := by decide +kernel
theorem d_CX_build_19 : decode b_CX_build 19 = .ok (.invokevirtual 58, 3) := by decide +kernel
theorem d_CX_build_22 : decode b_CX_build 22 = .ok (.aload_n 0, 1) := by decide +kernel
theorem d_CX_build_23 : decode b_CX_build 23 = .ok (.getfield 16, 3) := by decide +kernel
theorem d_CX_build_26 : decode b_CX_build 26 = .ok (.getfield 43, 3) := by decide +kernel
theorem d_CX_build_29 : decode b_CX_build 29 = .ok (.ireturn, 1) := by decide +kernel
theorem d_CX_size_0 : decode b_CX_size 0 = .ok (.aload_n 0, 1) := by decide +kernel
theorem d_CX_size_1 : decode b_CX_size 1 = .ok (.getfield 16, 3) := by decide +kernel
theorem d_CX_size_4 : decode b_CX_size 4 = .ok (.getfield 43, 3) := by decide +kernel
theorem d_CX_size_7 : decode b_CX_size 7 = .ok (.ireturn, 1) := by decide +kernel
theorem d_CX_at_0 : decode b_CX_at 0 = .ok (.iload_n 1, 1) := by decide +kernel
theorem d_CX_at_1 : decode b_CX_at 1 = .ok (.ifCond .lt 26, 3) := by decide +kernel
theorem d_CX_at_4 : decode b_CX_at 4 = .ok (.iload_n 1, 1) := by decide +kernel
theorem d_CX_at_5 : decode b_CX_at 5 = .ok (.aload_n 0, 1) := by decide +kernel
theorem d_CX_at_6 : decode b_CX_at 6 = .ok (.getfield 16, 3) := by decide +kernel
theorem d_CX_at_9 : decode b_CX_at 9 = .ok (.getfield 43, 3) := by decide +kernel
theorem d_CX_at_12 : decode b_CX_at 12 = .ok (.if_icmp .ge 15, 3) := by decide +kernel
theorem d_CX_at_15 : decode b_CX_at 15 = .ok (.aload_n 0, 1) := by decide +kernel
theorem d_CX_at_16 : decode b_CX_at 16 = .ok (.getfield 16, 3) := by decide +kernel
theorem d_CX_at_19 : decode b_CX_at 19 = .ok (.getfield 61, 3) := by decide +kernel
theorem d_CX_at_22 : decode b_CX_at 22 = .ok (.iload_n 1, 1) := by decide +kernel
theorem d_CX_at_23 : decode b_CX_at 23 = .ok (.iaload, 1) := by decide +kernel
theorem d_CX_at_24 : decode b_CX_at 24 = .ok (.goto 4, 3) := by decide +kernel
theorem d_CX_at_27 : decode b_CX_at 27 = .ok (.iconst (-1), 1) := by decide +kernel
theorem d_CX_at_28 : decode b_CX_at 28 = .ok (.ireturn, 1) := by decide +kernel
theorem d_CX_suffix_0 : decode b_CX_suffix 0 = .ok (.aload_n 0, 1) := by decide +kernel
theorem d_CX_suffix_1 : decode b_CX_suffix 1 = .ok (.iload_n 1, 1) := by decide +kernel
theorem d_CX_suffix_2 : decode b_CX_suffix 2 = .ok (.invokevirtual 65, 3) := by decide +kernel
theorem d_CX_suffix_5 : decode b_CX_suffix 5 = .ok (.ifCond .eq 15, 3) := by decide +kernel
theorem d_CX_suffix_8 : decode b_CX_suffix 8 = .ok (.aload_n 0, 1) := by decide +kernel
theorem d_CX_suffix_9 : decode b_CX_suffix 9 = .ok (.getfield 25, 3) := by decide +kernel
theorem d_CX_suffix_12 : decode b_CX_suffix 12 = .ok (.getfield 69, 3) := by decide +kernel
theorem d_CX_suffix_15 : decode b_CX_suffix 15 = .ok (.iload_n 1, 1) := by decide +kernel
theorem d_CX_suffix_16 : decode b_CX_suffix 16 = .ok (.iaload, 1) := by decide +kernel
theorem d_CX_suffix_17 : decode b_CX_suffix 17 = .ok (.goto 4, 3) := by decide +kernel
theorem d_CX_suffix_20 : decode b_CX_suffix 20 = .ok (.iconst (-1), 1) := by decide +kernel
theorem d_CX_suffix_21 : decode b_CX_suffix 21 = .ok (.ireturn, 1) := by decide +kernel
theorem d_CX_rank_0 : decode b_CX_rank 0 = .ok (.aload_n 0, 1) := by decide +kernel
theorem d_CX_rank_1 : decode b_CX_rank 1 = .ok (.iload_n 1, 1) := by decide +kernel
theorem d_CX_rank_2 : decode b_CX_rank 2 = .ok (.invokevirtual 65, 3) := by decide +kernel
theorem d_CX_rank_5 : decode b_CX_rank 5 = .ok (.ifCond .eq 15, 3) := by decide +kernel
theorem d_CX_rank_8 : decode b_CX_rank 8 = .ok (.aload_n 0, 1) := by decide +kernel
theorem d_CX_rank_9 : decode b_CX_rank 9 = .ok (.getfield 25, 3) := by decide +kernel
theorem d_CX_rank_12 : decode b_CX_rank 12 = .ok (.getfield 72, 3) := by decide +kernel
theorem d_CX_rank_15 : decode b_CX_rank 15 = .ok (.iload_n 1, 1) := by decide +kernel
theorem d_CX_rank_16 : decode b_CX_rank 16 = .ok (.iaload, 1) := by decide +kernel
theorem d_CX_rank_17 : decode b_CX_rank 17 = .ok (.goto 4, 3) := by decide +kernel
theorem d_CX_rank_20 : decode b_CX_rank 20 = .ok (.iconst (-1), 1) := by decide +kernel
theorem d_CX_rank_21 : decode b_CX_rank 21 = .ok (.ireturn, 1) := by decide +kernel
theorem d_CX_column_0 : decode b_CX_column 0 = .ok (.aload_n 0, 1) := by decide +kernel
theorem d_CX_column_1 : decode b_CX_column 1 = .ok (.iload_n 1, 1) := by decide +kernel
theorem d_CX_column_2 : decode b_CX_column 2 = .ok (.invokevirtual 65, 3) := by decide +kernel
theorem d_CX_column_5 : decode b_CX_column 5 = .ok (.ifCond .eq 15, 3) := by decide +kernel
theorem d_CX_column_8 : decode b_CX_column 8 = .ok (.aload_n 0, 1) := by decide +kernel
theorem d_CX_column_9 : decode b_CX_column 9 = .ok (.getfield 25, 3) := by decide +kernel
theorem d_CX_column_12 : decode b_CX_column 12 = .ok (.getfield 75, 3) := by decide +kernel
theorem d_CX_column_15 : decode b_CX_column 15 = .ok (.iload_n 1, 1) := by decide +kernel
theorem d_CX_column_16 : decode b_CX_column 16 = .ok (.iaload, 1) := by decide +kernel
theorem d_CX_column_17 : decode b_CX_column 17 = .ok (.goto 4, 3) := by decide +kernel
theorem d_CX_column_20 : decode b_CX_column 20 = .ok (.iconst (-1), 1) := by decide +kernel
theorem d_CX_column_21 : decode b_CX_column 21 = .ok (.ireturn, 1) := by decide +kernel
theorem d_CX_common_0 : decode b_CX_common 0 = .ok (.iload_n 1, 1) := by decide +kernel
theorem d_CX_common_1 : decode b_CX_common 1 = .ok (.ifCond .lt 26, 3) := by decide +kernel
theorem d_CX_common_4 : decode b_CX_common 4 = .ok (.iload_n 1, 1) := by decide +kernel
theorem d_CX_common_5 : decode b_CX_common 5 = .ok (.aload_n 0, 1) := by decide +kernel
theorem d_CX_common_6 : decode b_CX_common 6 = .ok (.getfield 16, 3) := by decide +kernel
theorem d_CX_common_9 : decode b_CX_common 9 = .ok (.getfield 43, 3) := by decide +kernel
theorem d_CX_common_12 : decode b_CX_common 12 = .ok (.if_icmp .ge 15, 3) := by decide +kernel
theorem d_CX_common_15 : decode b_CX_common 15 = .ok (.aload_n 0, 1) := by decide +kernel
theorem d_CX_common_16 : decode b_CX_common 16 = .ok (.getfield 25, 3) := by decide +kernel
theorem d_CX_common_19 : decode b_CX_common 19 = .ok (.getfield 78, 3) := by decide +kernel
theorem d_CX_common_22 : decode b_CX_common 22 = .ok (.iload_n 1, 1) := by decide +kernel
theorem d_CX_common_23 : decode b_CX_common 23 = .ok (.iaload, 1) := by decide +kernel
theorem d_CX_common_24 : decode b_CX_common 24 = .ok (.goto 4, 3) := by decide +kernel
theorem d_CX_common_27 : decode b_CX_common 27 = .ok (.iconst (-1), 1) := by decide +kernel
theorem d_CX_common_28 : decode b_CX_common 28 = .ok (.ireturn, 1) := by decide +kernel
theorem d_CX_moved_0 : decode b_CX_moved 0 = .ok (.aload_n 0, 1) := by decide +kernel
theorem d_CX_moved_1 : decode b_CX_moved 1 = .ok (.iload_n 1, 1) := by decide +kernel
theorem d_CX_moved_2 : decode b_CX_moved 2 = .ok (.invokevirtual 65, 3) := by decide +kernel
theorem d_CX_moved_5 : decode b_CX_moved 5 = .ok (.ifCond .eq 15, 3) := by decide +kernel
theorem d_CX_moved_8 : decode b_CX_moved 8 = .ok (.aload_n 0, 1) := by decide +kernel
theorem d_CX_moved_9 : decode b_CX_moved 9 = .ok (.getfield 32, 3) := by decide +kernel
theorem d_CX_moved_12 : decode b_CX_moved 12 = .ok (.getfield 81, 3) := by decide +kernel
theorem d_CX_moved_15 : decode b_CX_moved 15 = .ok (.iload_n 1, 1) := by decide +kernel
theorem d_CX_moved_16 : decode b_CX_moved 16 = .ok (.iaload, 1) := by decide +kernel
theorem d_CX_moved_17 : decode b_CX_moved 17 = .ok (.goto 4, 3) := by decide +kernel
theorem d_CX_moved_20 : decode b_CX_moved 20 = .ok (.iconst (-1), 1) := by decide +kernel
theorem d_CX_moved_21 : decode b_CX_moved 21 = .ok (.ireturn, 1) := by decide +kernel
theorem d_CX_distinct_0 : decode b_CX_distinct 0 = .ok (.iconst 0, 1) := by decide +kernel
theorem d_CX_distinct_1 : decode b_CX_distinct 1 = .ok (.istore_n 1, 1) := by decide +kernel
theorem d_CX_distinct_2 : decode b_CX_distinct 2 = .ok (.iconst 0, 1) := by decide +kernel
theorem d_CX_distinct_3 : decode b_CX_distinct 3 = .ok (.istore_n 2, 1) := by decide +kernel
theorem d_CX_distinct_4 : decode b_CX_distinct 4 = .ok (.iload_n 2, 1) := by decide +kernel
theorem d_CX_distinct_5 : decode b_CX_distinct 5 = .ok (.aload_n 0, 1) := by decide +kernel
theorem d_CX_distinct_6 : decode b_CX_distinct 6 = .ok (.getfield 16, 3) := by decide +kernel
theorem d_CX_distinct_9 : decode b_CX_distinct 9 = .ok (.getfield 43, 3) := by decide +kernel
theorem d_CX_distinct_12 : decode b_CX_distinct 12 = .ok (.if_icmp .ge 43, 3) := by decide +kernel
theorem d_CX_distinct_15 : decode b_CX_distinct 15 = .ok (.aload_n 0, 1) := by decide +kernel
theorem d_CX_distinct_16 : decode b_CX_distinct 16 = .ok (.getfield 25, 3) := by decide +kernel
theorem d_CX_distinct_19 : decode b_CX_distinct 19 = .ok (.getfield 69, 3) := by decide +kernel
theorem d_CX_distinct_22 : decode b_CX_distinct 22 = .ok (.iload_n 2, 1) := by decide +kernel
theorem d_CX_distinct_23 : decode b_CX_distinct 23 = .ok (.iconst 1, 1) := by decide +kernel
theorem d_CX_distinct_24 : decode b_CX_distinct 24 = .ok (.iadd, 1) := by decide +kernel
theorem d_CX_distinct_25 : decode b_CX_distinct 25 = .ok (.iaload, 1) := by decide +kernel
theorem d_CX_distinct_26 : decode b_CX_distinct 26 = .ok (.istore_n 3, 1) := by decide +kernel
theorem d_CX_distinct_27 : decode b_CX_distinct 27 = .ok (.iload_n 1, 1) := by decide +kernel
theorem d_CX_distinct_28 : decode b_CX_distinct 28 = .ok (.aload_n 0, 1) := by decide +kernel
theorem d_CX_distinct_29 : decode b_CX_distinct 29 = .ok (.getfield 16, 3) := by decide +kernel
theorem d_CX_distinct_32 : decode b_CX_distinct 32 = .ok (.getfield 43, 3) := by decide +kernel
theorem d_CX_distinct_35 : decode b_CX_distinct 35 = .ok (.iload_n 3, 1) := by decide +kernel
theorem d_CX_distinct_36 : decode b_CX_distinct 36 = .ok (.isub, 1) := by decide +kernel
theorem d_CX_distinct_37 : decode b_CX_distinct 37 = .ok (.aload_n 0, 1) := by decide +kernel
theorem d_CX_distinct_38 : decode b_CX_distinct 38 = .ok (.getfield 25, 3) := by decide +kernel
theorem d_CX_distinct_41 : decode b_CX_distinct 41 = .ok (.getfield 78, 3) := by decide +kernel
theorem d_CX_distinct_44 : decode b_CX_distinct 44 = .ok (.iload_n 2, 1) := by decide +kernel
theorem d_CX_distinct_45 : decode b_CX_distinct 45 = .ok (.iaload, 1) := by decide +kernel
theorem d_CX_distinct_46 : decode b_CX_distinct 46 = .ok (.isub, 1) := by decide +kernel
theorem d_CX_distinct_47 : decode b_CX_distinct 47 = .ok (.iadd, 1) := by decide +kernel
theorem d_CX_distinct_48 : decode b_CX_distinct 48 = .ok (.istore_n 1, 1) := by decide +kernel
theorem d_CX_distinct_49 : decode b_CX_distinct 49 = .ok (.iinc 2 1, 3) := by decide +kernel
theorem d_CX_distinct_52 : decode b_CX_distinct 52 = .ok (.goto (-48), 3) := by decide +kernel
theorem d_CX_distinct_55 : decode b_CX_distinct 55 = .ok (.iload_n 1, 1) := by decide +kernel
theorem d_CX_distinct_56 : decode b_CX_distinct 56 = .ok (.ireturn, 1) := by decide +kernel
theorem d_CX_repeat_0 : decode b_CX_repeat 0 = .ok (.iconst 0, 1) := by decide +kernel
theorem d_CX_repeat_1 : decode b_CX_repeat 1 = .ok (.istore_n 1, 1) := by decide +kernel
theorem d_CX_repeat_2 : decode b_CX_repeat 2 = .ok (.iconst 0, 1) := by decide +kernel
theorem d_CX_repeat_3 : decode b_CX_repeat 3 = .ok (.istore_n 2, 1) := by decide +kernel
theorem d_CX_repeat_4 : decode b_CX_repeat 4 = .ok (.iconst 0, 1) := by decide +kernel
theorem d_CX_repeat_5 : decode b_CX_repeat 5 = .ok (.istore_n 3, 1) := by decide +kernel
theorem d_CX_repeat_6 : decode b_CX_repeat 6 = .ok (.iload_n 3, 1) := by decide +kernel
theorem d_CX_repeat_7 : decode b_CX_repeat 7 = .ok (.aload_n 0, 1) := by decide +kernel
theorem d_CX_repeat_8 : decode b_CX_repeat 8 = .ok (.getfield 16, 3) := by decide +kernel
theorem d_CX_repeat_11 : decode b_CX_repeat 11 = .ok (.getfield 43, 3) := by decide +kernel
theorem d_CX_repeat_14 : decode b_CX_repeat 14 = .ok (.if_icmp .ge 69, 3) := by decide +kernel
theorem d_CX_repeat_17 : decode b_CX_repeat 17 = .ok (.aload_n 0, 1) := by decide +kernel
theorem d_CX_repeat_18 : decode b_CX_repeat 18 = .ok (.getfield 25, 3) := by decide +kernel
theorem d_CX_repeat_21 : decode b_CX_repeat 21 = .ok (.getfield 78, 3) := by decide +kernel
theorem d_CX_repeat_24 : decode b_CX_repeat 24 = .ok (.iload_n 3, 1) := by decide +kernel
theorem d_CX_repeat_25 : decode b_CX_repeat 25 = .ok (.iaload, 1) := by decide +kernel
theorem d_CX_repeat_26 : decode b_CX_repeat 26 = .ok (.istore 4, 2) := by decide +kernel
theorem d_CX_repeat_28 : decode b_CX_repeat 28 = .ok (.aload_n 0, 1) := by decide +kernel
theorem d_CX_repeat_29 : decode b_CX_repeat 29 = .ok (.getfield 25, 3) := by decide +kernel
theorem d_CX_repeat_32 : decode b_CX_repeat 32 = .ok (.getfield 69, 3) := by decide +kernel
theorem d_CX_repeat_35 : decode b_CX_repeat 35 = .ok (.iload_n 3, 1) := by decide +kernel
theorem d_CX_repeat_36 : decode b_CX_repeat 36 = .ok (.iaload, 1) := by decide +kernel
theorem d_CX_repeat_37 : decode b_CX_repeat 37 = .ok (.aload_n 0, 1) := by decide +kernel
theorem d_CX_repeat_38 : decode b_CX_repeat 38 = .ok (.getfield 25, 3) := by decide +kernel
theorem d_CX_repeat_41 : decode b_CX_repeat 41 = .ok (.getfield 69, 3) := by decide +kernel
theorem d_CX_repeat_44 : decode b_CX_repeat 44 = .ok (.iload_n 3, 1) := by decide +kernel
theorem d_CX_repeat_45 : decode b_CX_repeat 45 = .ok (.iconst 1, 1) := by decide +kernel
theorem d_CX_repeat_46 : decode b_CX_repeat 46 = .ok (.iadd, 1) := by decide +kernel
theorem d_CX_repeat_47 : decode b_CX_repeat 47 = .ok (.iaload, 1) := by decide +kernel
theorem d_CX_repeat_48 : decode b_CX_repeat 48 = .ok (.invokestatic 84, 3) := by decide +kernel
theorem d_CX_repeat_51 : decode b_CX_repeat 51 = .ok (.istore 5, 2) := by decide +kernel
theorem d_CX_repeat_53 : decode b_CX_repeat 53 = .ok (.iload 4, 2) := by decide +kernel
theorem d_CX_repeat_55 : decode b_CX_repeat 55 = .ok (.iload_n 1, 1) := by decide +kernel
theorem d_CX_repeat_56 : decode b_CX_repeat 56 = .ok (.if_icmp .gt 15, 3) := by decide +kernel
theorem d_CX_repeat_59 : decode b_CX_repeat 59 = .ok (.iload 4, 2) := by decide +kernel
theorem d_CX_repeat_61 : decode b_CX_repeat 61 = .ok (.iload_n 1, 1) := by decide +kernel
theorem d_CX_repeat_62 : decode b_CX_repeat 62 = .ok (.if_icmp .ne 15, 3) := by decide +kernel
theorem d_CX_repeat_65 : decode b_CX_repeat 65 = .ok (.iload 5, 2) := by decide +kernel
theorem d_CX_repeat_67 : decode b_CX_repeat 67 = .ok (.iload_n 2, 1) := by decide +kernel
theorem d_CX_repeat_68 : decode b_CX_repeat 68 = .ok (.if_icmp .ge 9, 3) := by decide +kernel
theorem d_CX_repeat_71 : decode b_CX_repeat 71 = .ok (.iload 4, 2) := by decide +kernel
theorem d_CX_repeat_73 : decode b_CX_repeat 73 = .ok (.istore_n 1, 1) := by decide +kernel
theorem d_CX_repeat_74 : decode b_CX_repeat 74 = .ok (.iload 5, 2) := by decide +kernel
theorem d_CX_repeat_76 : decode b_CX_repeat 76 = .ok (.istore_n 2, 1) := by decide +kernel
theorem d_CX_repeat_77 : decode b_CX_repeat 77 = .ok (.iinc 3 1, 3) := by decide +kernel
theorem d_CX_repeat_80 : decode b_CX_repeat 80 = .ok (.goto (-74), 3) := by decide +kernel
theorem d_CX_repeat_83 : decode b_CX_repeat 83 = .ok (.iload_n 1, 1) := by decide +kernel
theorem d_CX_repeat_84 : decode b_CX_repeat 84 = .ok (.ifCond .ne 7, 3) := by decide +kernel
theorem d_CX_repeat_87 : decode b_CX_repeat 87 = .ok (.iconst 0, 1) := by decide +kernel
theorem d_CX_repeat_88 : decode b_CX_repeat 88 = .ok (.goto 10, 3) := by decide +kernel
theorem d_CX_repeat_91 : decode b_CX_repeat 91 = .ok (.sipush 128, 3) := by decide +kernel
theorem d_CX_repeat_94 : decode b_CX_repeat 94 = .ok (.iload_n 1, 1) := by decide +kernel
theorem d_CX_repeat_95 : decode b_CX_repeat 95 = .ok (.imul, 1) := by decide +kernel
theorem d_CX_repeat_96 : decode b_CX_repeat 96 = .ok (.iload_n 2, 1) := by decide +kernel
theorem d_CX_repeat_97 : decode b_CX_repeat 97 = .ok (.iadd, 1) := by decide +kernel
theorem d_CX_repeat_98 : decode b_CX_repeat 98 = .ok (.ireturn, 1) := by decide +kernel
theorem d_CX_seek_0 : decode b_CX_seek 0 = .ok (.aload_n 0, 1) := by decide +kernel
theorem d_CX_seek_1 : decode b_CX_seek 1 = .ok (.getfield 19, 3) := by decide +kernel
theorem d_CX_seek_4 : decode b_CX_seek 4 = .ok (.aload_n 0, 1) := by decide +kernel
theorem d_CX_seek_5 : decode b_CX_seek 5 = .ok (.getfield 12, 3) := by decide +kernel
theorem d_CX_seek_8 : decode b_CX_seek 8 = .ok (.invokevirtual 51, 3) := by decide +kernel
theorem d_CX_seek_11 : decode b_CX_seek 11 = .ok (.aload_n 0, 1) := by decide +kernel
theorem d_CX_seek_12 : decode b_CX_seek 12 = .ok (.getfield 12, 3) := by decide +kernel
theorem d_CX_seek_15 : decode b_CX_seek 15 = .ok (.invokevirtual 55, 3) := by decide +kernel
theorem d_CX_seek_18 : decode b_CX_seek 18 = .ok (.aload_n 0, 1) := by decide +kernel
theorem d_CX_seek_19 : decode b_CX_seek 19 = .ok (.invokevirtual 90, 3) := by decide +kernel
theorem d_CX_seek_22 : decode b_CX_seek 22 = .ok (.ireturn, 1) := by decide +kernel
theorem d_CX_extend_0 : decode b_CX_extend 0 = .ok (.iload_n 1, 1) := by decide +kernel
theorem d_CX_extend_1 : decode b_CX_extend 1 = .ok (.ifCond .lt 10, 3) := by decide +kernel
theorem d_CX_extend_4 : decode b_CX_extend 4 = .ok (.iload_n 1, 1) := by decide +kernel
theorem d_CX_extend_5 : decode b_CX_extend 5 = .ok (.sipush 256, 3) := by decide +kernel
theorem d_CX_extend_8 : decode b_CX_extend 8 = .ok (.if_icmp .lt 5, 3) := by decide +kernel
theorem d_CX_extend_11 : decode b_CX_extend 11 = .ok (.iconst (-1), 1) := by decide +kernel
theorem d_CX_extend_12 : decode b_CX_extend 12 = .ok (.ireturn, 1) := by decide +kernel
theorem d_CX_extend_13 : decode b_CX_extend 13 = .ok (.aload_n 0, 1) := by decide +kernel
theorem d_CX_extend_14 : decode b_CX_extend 14 = .ok (.getfield 19, 3) := by decide +kernel
theorem d_CX_extend_17 : decode b_CX_extend 17 = .ok (.getfield 43, 3) := by decide +kernel
theorem d_CX_extend_20 : decode b_CX_extend 20 = .ok (.bipush 96, 2) := by decide +kernel
theorem d_CX_extend_22 : decode b_CX_extend 22 = .ok (.if_icmp .lt 6, 3) := by decide +kernel
theorem d_CX_extend_25 : decode b_CX_extend 25 = .ok (.bipush (-3), 2) := by decide +kernel
theorem d_CX_extend_27 : decode b_CX_extend 27 = .ok (.ireturn, 1) := by decide +kernel
theorem d_CX_extend_28 : decode b_CX_extend 28 = .ok (.aload_n 0, 1) := by decide +kernel
theorem d_CX_extend_29 : decode b_CX_extend 29 = .ok (.getfield 19, 3) := by decide +kernel
theorem d_CX_extend_32 : decode b_CX_extend 32 = .ok (.iload_n 1, 1) := by decide +kernel
theorem d_CX_extend_33 : decode b_CX_extend 33 = .ok (.invokevirtual 94, 3) := by decide +kernel
theorem d_CX_extend_36 : decode b_CX_extend 36 = .ok (.aload_n 0, 1) := by decide +kernel
theorem d_CX_extend_37 : decode b_CX_extend 37 = .ok (.invokevirtual 90, 3) := by decide +kernel
theorem d_CX_extend_40 : decode b_CX_extend 40 = .ok (.ireturn, 1) := by decide +kernel
theorem d_CX_before_0 : decode b_CX_before 0 = .ok (.iconst 0, 1) := by decide +kernel
theorem d_CX_before_1 : decode b_CX_before 1 = .ok (.istore_n 1, 1) := by decide +kernel
theorem d_CX_before_2 : decode b_CX_before 2 = .ok (.iconst 0, 1) := by decide +kernel
theorem d_CX_before_3 : decode b_CX_before 3 = .ok (.istore_n 2, 1) := by decide +kernel
theorem d_CX_before_4 : decode b_CX_before 4 = .ok (.iload_n 2, 1) := by decide +kernel
theorem d_CX_before_5 : decode b_CX_before 5 = .ok (.aload_n 0, 1) := by decide +kernel
theorem d_CX_before_6 : decode b_CX_before 6 = .ok (.getfield 16, 3) := by decide +kernel
theorem d_CX_before_9 : decode b_CX_before 9 = .ok (.getfield 43, 3) := by decide +kernel
theorem d_CX_before_12 : decode b_CX_before 12 = .ok (.if_icmp .gt 20, 3) := by decide +kernel
theorem d_CX_before_15 : decode b_CX_before 15 = .ok (.aload_n 0, 1) := by decide +kernel
theorem d_CX_before_16 : decode b_CX_before 16 = .ok (.iload_n 2, 1) := by decide +kernel
theorem d_CX_before_17 : decode b_CX_before 17 = .ok (.invokevirtual 97, 3) := by decide +kernel
theorem d_CX_before_20 : decode b_CX_before 20 = .ok (.ifCond .eq 6, 3) := by decide +kernel
theorem d_CX_before_23 : decode b_CX_before 23 = .ok (.iinc 1 1, 3) := by decide +kernel
theorem d_CX_before_26 : decode b_CX_before 26 = .ok (.iinc 2 1, 3) := by decide +kernel
theorem d_CX_before_29 : decode b_CX_before 29 = .ok (.goto (-25), 3) := by decide +kernel
theorem d_CX_before_32 : decode b_CX_before 32 = .ok (.iload_n 1, 1) := by decide +kernel
theorem d_CX_before_33 : decode b_CX_before 33 = .ok (.ireturn, 1) := by decide +kernel
theorem d_CX_hit_0 : decode b_CX_hit 0 = .ok (.iconst 0, 1) := by decide +kernel
theorem d_CX_hit_1 : decode b_CX_hit 1 = .ok (.istore_n 2, 1) := by decide +kernel
theorem d_CX_hit_2 : decode b_CX_hit 2 = .ok (.iconst 0, 1) := by decide +kernel
theorem d_CX_hit_3 : decode b_CX_hit 3 = .ok (.istore_n 3, 1) := by decide +kernel
theorem d_CX_hit_4 : decode b_CX_hit 4 = .ok (.iload_n 3, 1) := by decide +kernel
theorem d_CX_hit_5 : decode b_CX_hit 5 = .ok (.aload_n 0, 1) := by decide +kernel
theorem d_CX_hit_6 : decode b_CX_hit 6 = .ok (.getfield 16, 3) := by decide +kernel
theorem d_CX_hit_9 : decode b_CX_hit 9 = .ok (.getfield 43, 3) := by decide +kernel
theorem d_CX_hit_12 : decode b_CX_hit 12 = .ok (.if_icmp .gt 27, 3) := by decide +kernel
theorem d_CX_hit_15 : decode b_CX_hit 15 = .ok (.aload_n 0, 1) := by decide +kernel
theorem d_CX_hit_16 : decode b_CX_hit 16 = .ok (.iload_n 3, 1) := by decide +kernel
theorem d_CX_hit_17 : decode b_CX_hit 17 = .ok (.invokevirtual 100, 3) := by decide +kernel
theorem d_CX_hit_20 : decode b_CX_hit 20 = .ok (.ifCond .eq 13, 3) := by decide +kernel
theorem d_CX_hit_23 : decode b_CX_hit 23 = .ok (.iload_n 2, 1) := by decide +kernel
theorem d_CX_hit_24 : decode b_CX_hit 24 = .ok (.iload_n 1, 1) := by decide +kernel
theorem d_CX_hit_25 : decode b_CX_hit 25 = .ok (.if_icmp .ne 5, 3) := by decide +kernel
theorem d_CX_hit_28 : decode b_CX_hit 28 = .ok (.iload_n 3, 1) := by decide +kernel
theorem d_CX_hit_29 : decode b_CX_hit 29 = .ok (.ireturn, 1) := by decide +kernel
theorem d_CX_hit_30 : decode b_CX_hit 30 = .ok (.iinc 2 1, 3) := by decide +kernel
theorem d_CX_hit_33 : decode b_CX_hit 33 = .ok (.iinc 3 1, 3) := by decide +kernel
theorem d_CX_hit_36 : decode b_CX_hit 36 = .ok (.goto (-32), 3) := by decide +kernel
theorem d_CX_hit_39 : decode b_CX_hit 39 = .ok (.iconst (-1), 1) := by decide +kernel
theorem d_CX_hit_40 : decode b_CX_hit 40 = .ok (.ireturn, 1) := by decide +kernel
theorem d_CX_match_0 : decode b_CX_match 0 = .ok (.iload_n 1, 1) := by decide +kernel
theorem d_CX_match_1 : decode b_CX_match 1 = .ok (.ifCond .lt 14, 3) := by decide +kernel
theorem d_CX_match_4 : decode b_CX_match 4 = .ok (.iload_n 1, 1) := by decide +kernel
theorem d_CX_match_5 : decode b_CX_match 5 = .ok (.aload_n 0, 1) := by decide +kernel
theorem d_CX_match_6 : decode b_CX_match 6 = .ok (.getfield 19, 3) := by decide +kernel
theorem d_CX_match_9 : decode b_CX_match 9 = .ok (.getfield 43, 3) := by decide +kernel
theorem d_CX_match_12 : decode b_CX_match 12 = .ok (.if_icmp .le 5, 3) := by decide +kernel
theorem d_CX_match_15 : decode b_CX_match 15 = .ok (.iconst (-1), 1) := by decide +kernel
theorem d_CX_match_16 : decode b_CX_match 16 = .ok (.ireturn, 1) := by decide +kernel
theorem d_CX_match_17 : decode b_CX_match 17 = .ok (.iconst 0, 1) := by decide +kernel
theorem d_CX_match_18 : decode b_CX_match 18 = .ok (.istore_n 2, 1) := by decide +kernel
theorem d_CX_match_19 : decode b_CX_match 19 = .ok (.iconst 0, 1) := by decide +kernel
theorem d_CX_match_20 : decode b_CX_match 20 = .ok (.istore_n 3, 1) := by decide +kernel
theorem d_CX_match_21 : decode b_CX_match 21 = .ok (.iload_n 3, 1) := by decide +kernel
theorem d_CX_match_22 : decode b_CX_match 22 = .ok (.aload_n 0, 1) := by decide +kernel
theorem d_CX_match_23 : decode b_CX_match 23 = .ok (.getfield 16, 3) := by decide +kernel
theorem d_CX_match_26 : decode b_CX_match 26 = .ok (.getfield 43, 3) := by decide +kernel
theorem d_CX_match_29 : decode b_CX_match 29 = .ok (.if_icmp .gt 27, 3) := by decide +kernel
theorem d_CX_match_32 : decode b_CX_match 32 = .ok (.iload_n 2, 1) := by decide +kernel
theorem d_CX_match_33 : decode b_CX_match 33 = .ok (.aload_n 0, 1) := by decide +kernel
theorem d_CX_match_34 : decode b_CX_match 34 = .ok (.getfield 19, 3) := by decide +kernel
theorem d_CX_match_37 : decode b_CX_match 37 = .ok (.iload_n 1, 1) := by decide +kernel
theorem d_CX_match_38 : decode b_CX_match 38 = .ok (.aload_n 0, 1) := by decide +kernel
theorem d_CX_match_39 : decode b_CX_match 39 = .ok (.getfield 16, 3) := by decide +kernel
theorem d_CX_match_42 : decode b_CX_match 42 = .ok (.iload_n 3, 1) := by decide +kernel
theorem d_CX_match_43 : decode b_CX_match 43 = .ok (.invokevirtual 103, 3) := by decide +kernel
theorem d_CX_match_46 : decode b_CX_match 46 = .ok (.invokestatic 107, 3) := by decide +kernel
theorem d_CX_match_49 : decode b_CX_match 49 = .ok (.istore_n 2, 1) := by decide +kernel
theorem d_CX_match_50 : decode b_CX_match 50 = .ok (.iinc 3 1, 3) := by decide +kernel
theorem d_CX_match_53 : decode b_CX_match 53 = .ok (.goto (-32), 3) := by decide +kernel
theorem d_CX_match_56 : decode b_CX_match 56 = .ok (.iload_n 2, 1) := by decide +kernel
theorem d_CX_match_57 : decode b_CX_match 57 = .ok (.ireturn, 1) := by decide +kernel
theorem d_CX_revert_0 : decode b_CX_revert 0 = .ok (.iload_n 1, 1) := by decide +kernel
theorem d_CX_revert_1 : decode b_CX_revert 1 = .ok (.ifCond .lt 14, 3) := by decide +kernel
theorem d_CX_revert_4 : decode b_CX_revert 4 = .ok (.iload_n 1, 1) := by decide +kernel
theorem d_CX_revert_5 : decode b_CX_revert 5 = .ok (.aload_n 0, 1) := by decide +kernel
theorem d_CX_revert_6 : decode b_CX_revert 6 = .ok (.getfield 12, 3) := by decide +kernel
theorem d_CX_revert_9 : decode b_CX_revert 9 = .ok (.getfield 43, 3) := by decide +kernel
theorem d_CX_revert_12 : decode b_CX_revert 12 = .ok (.if_icmp .le 5, 3) := by decide +kernel
theorem d_CX_revert_15 : decode b_CX_revert 15 = .ok (.iconst (-1), 1) := by decide +kernel
theorem d_CX_revert_16 : decode b_CX_revert 16 = .ok (.ireturn, 1) := by decide +kernel
theorem d_CX_revert_17 : decode b_CX_revert 17 = .ok (.aload_n 0, 1) := by decide +kernel
theorem d_CX_revert_18 : decode b_CX_revert 18 = .ok (.getfield 39, 3) := by decide +kernel
theorem d_CX_revert_21 : decode b_CX_revert 21 = .ok (.aload_n 0, 1) := by decide +kernel
theorem d_CX_revert_22 : decode b_CX_revert 22 = .ok (.getfield 12, 3) := by decide +kernel
theorem d_CX_revert_25 : decode b_CX_revert 25 = .ok (.iload_n 1, 1) := by decide +kernel
theorem d_CX_revert_26 : decode b_CX_revert 26 = .ok (.invokevirtual 110, 3) := by decide +kernel
theorem d_CX_revert_29 : decode b_CX_revert 29 = .ok (.aload_n 0, 1) := by decide +kernel
theorem d_CX_revert_30 : decode b_CX_revert 30 = .ok (.getfield 39, 3) := by decide +kernel
theorem d_CX_revert_33 : decode b_CX_revert 33 = .ok (.aload_n 0, 1) := by decide +kernel
theorem d_CX_revert_34 : decode b_CX_revert 34 = .ok (.getfield 12, 3) := by decide +kernel
theorem d_CX_revert_37 : decode b_CX_revert 37 = .ok (.invokevirtual 114, 3) := by decide +kernel
theorem d_CX_revert_40 : decode b_CX_revert 40 = .ok (.ifCond .ne 13, 3) := by decide +kernel
theorem d_CX_revert_43 : decode b_CX_revert 43 = .ok (.aload_n 0, 1) := by decide +kernel
theorem d_CX_revert_44 : decode b_CX_revert 44 = .ok (.getfield 12, 3) := by decide +kernel
theorem d_CX_revert_47 : decode b_CX_revert 47 = .ok (.invokevirtual 55, 3) := by decide +kernel
theorem d_CX_revert_50 : decode b_CX_revert 50 = .ok (.bipush (-4), 2) := by decide +kernel
theorem d_CX_revert_52 : decode b_CX_revert 52 = .ok (.ireturn, 1) := by decide +kernel
theorem d_CX_revert_53 : decode b_CX_revert 53 = .ok (.aload_n 0, 1) := by decide +kernel
theorem d_CX_revert_54 : decode b_CX_revert 54 = .ok (.invokevirtual 118, 3) := by decide +kernel
theorem d_CX_revert_57 : decode b_CX_revert 57 = .ok (.ireturn, 1) := by decide +kernel
theorem d_CX_arrangeText_0 : decode b_CX_arrangeText 0 = .ok (.aload_n 0, 1) := by decide +kernel
theorem d_CX_arrangeText_1 : decode b_CX_arrangeText 1 = .ok (.getfield 25, 3) := by decide +kernel
theorem d_CX_arrangeText_4 : decode b_CX_arrangeText 4 = .ok (.aload_n 0, 1) := by decide +kernel
theorem d_CX_arrangeText_5 : decode b_CX_arrangeText 5 = .ok (.getfield 16, 3) := by decide +kernel
theorem d_CX_arrangeText_8 : decode b_CX_arrangeText 8 = .ok (.invokevirtual 121, 3) := by decide +kernel
theorem d_CX_arrangeText_11 : decode b_CX_arrangeText 11 = .ok (.aload_n 0, 1) := by decide +kernel
end
section
theorem d_CX_arrangeText_12 : decode b_CX_arrangeText 12 = .ok (.getfield 32, 3) := by decide +kernel
theorem d_CX_arrangeText_15 : decode b_CX_arrangeText 15 = .ok (.aload_n 0, 1) := by decide +kernel
theorem d_CX_arrangeText_16 : decode b_CX_arrangeText 16 = .ok (.getfield 25, 3) := by decide +kernel
theorem d_CX_arrangeText_19 : decode b_CX_arrangeText 19 = .ok (.getfield 75, 3) := by decide +kernel
theorem d_CX_arrangeText_22 : decode b_CX_arrangeText 22 = .ok (.aload_n 0, 1) := by decide +kernel
theorem d_CX_arrangeText_23 : decode b_CX_arrangeText 23 = .ok (.getfield 16, 3) := by decide +kernel
theorem d_CX_arrangeText_26 : decode b_CX_arrangeText 26 = .ok (.getfield 43, 3) := by decide +kernel
theorem d_CX_arrangeText_29 : decode b_CX_arrangeText 29 = .ok (.invokevirtual 124, 3) := by decide +kernel
theorem d_CX_arrangeText_32 : decode b_CX_arrangeText 32 = .ok (.return_, 1) := by decide +kernel
theorem d_CX_isSuffix_0 : decode b_CX_isSuffix 0 = .ok (.iload_n 1, 1) := by decide +kernel
theorem d_CX_isSuffix_1 : decode b_CX_isSuffix 1 = .ok (.ifCond .lt 18, 3) := by decide +kernel
theorem d_CX_isSuffix_4 : decode b_CX_isSuffix 4 = .ok (.iload_n 1, 1) := by decide +kernel
theorem d_CX_isSuffix_5 : decode b_CX_isSuffix 5 = .ok (.aload_n 0, 1) := by decide +kernel
theorem d_CX_isSuffix_6 : decode b_CX_isSuffix 6 = .ok (.getfield 16, 3) := by decide +kernel
theorem d_CX_isSuffix_9 : decode b_CX_isSuffix 9 = .ok (.getfield 43, 3) := by decide +kernel
theorem d_CX_isSuffix_12 : decode b_CX_isSuffix 12 = .ok (.if_icmp .gt 7, 3) := by decide +kernel
theorem d_CX_isSuffix_15 : decode b_CX_isSuffix 15 = .ok (.iconst 1, 1) := by decide +kernel
theorem d_CX_isSuffix_16 : decode b_CX_isSuffix 16 = .ok (.goto 4, 3) := by decide +kernel
theorem d_CX_isSuffix_19 : decode b_CX_isSuffix 19 = .ok (.iconst 0, 1) := by decide +kernel
theorem d_CX_isSuffix_20 : decode b_CX_isSuffix 20 = .ok (.ireturn, 1) := by decide +kernel
theorem d_CX_countHits_0 : decode b_CX_countHits 0 = .ok (.iconst 0, 1) := by decide +kernel
theorem d_CX_countHits_1 : decode b_CX_countHits 1 = .ok (.istore_n 1, 1) := by decide +kernel
theorem d_CX_countHits_2 : decode b_CX_countHits 2 = .ok (.iconst 0, 1) := by decide +kernel
theorem d_CX_countHits_3 : decode b_CX_countHits 3 = .ok (.istore_n 2, 1) := by decide +kernel
theorem d_CX_countHits_4 : decode b_CX_countHits 4 = .ok (.iload_n 2, 1) := by decide +kernel
theorem d_CX_countHits_5 : decode b_CX_countHits 5 = .ok (.aload_n 0, 1) := by decide +kernel
theorem d_CX_countHits_6 : decode b_CX_countHits 6 = .ok (.getfield 16, 3) := by decide +kernel
theorem d_CX_countHits_9 : decode b_CX_countHits 9 = .ok (.getfield 43, 3) := by decide +kernel
theorem d_CX_countHits_12 : decode b_CX_countHits 12 = .ok (.if_icmp .gt 20, 3) := by decide +kernel
theorem d_CX_countHits_15 : decode b_CX_countHits 15 = .ok (.aload_n 0, 1) := by decide +kernel
theorem d_CX_countHits_16 : decode b_CX_countHits 16 = .ok (.iload_n 2, 1) := by decide +kernel
theorem d_CX_countHits_17 : decode b_CX_countHits 17 = .ok (.invokevirtual 100, 3) := by decide +kernel
theorem d_CX_countHits_20 : decode b_CX_countHits 20 = .ok (.ifCond .eq 6, 3) := by decide +kernel
theorem d_CX_countHits_23 : decode b_CX_countHits 23 = .ok (.iinc 1 1, 3) := by decide +kernel
theorem d_CX_countHits_26 : decode b_CX_countHits 26 = .ok (.iinc 2 1, 3) := by decide +kernel
theorem d_CX_countHits_29 : decode b_CX_countHits 29 = .ok (.goto (-25), 3) := by decide +kernel
theorem d_CX_countHits_32 : decode b_CX_countHits 32 = .ok (.iload_n 1, 1) := by decide +kernel
theorem d_CX_countHits_33 : decode b_CX_countHits 33 = .ok (.ireturn, 1) := by decide +kernel
theorem d_CX_patternStandsAt_0 : decode b_CX_patternStandsAt 0 = .ok (.aload_n 0, 1) := by decide +kernel
theorem d_CX_patternStandsAt_1 : decode b_CX_patternStandsAt 1 = .ok (.getfield 19, 3) := by decide +kernel
theorem d_CX_patternStandsAt_4 : decode b_CX_patternStandsAt 4 = .ok (.iconst 0, 1) := by decide +kernel
theorem d_CX_patternStandsAt_5 : decode b_CX_patternStandsAt 5 = .ok (.aload_n 0, 1) := by decide +kernel
theorem d_CX_patternStandsAt_6 : decode b_CX_patternStandsAt 6 = .ok (.getfield 16, 3) := by decide +kernel
theorem d_CX_patternStandsAt_9 : decode b_CX_patternStandsAt 9 = .ok (.iload_n 1, 1) := by decide +kernel
theorem d_CX_patternStandsAt_10 : decode b_CX_patternStandsAt 10 = .ok (.invokevirtual 103, 3) := by decide +kernel
theorem d_CX_patternStandsAt_13 : decode b_CX_patternStandsAt 13 = .ok (.aload_n 0, 1) := by decide +kernel
theorem d_CX_patternStandsAt_14 : decode b_CX_patternStandsAt 14 = .ok (.getfield 19, 3) := by decide +kernel
theorem d_CX_patternStandsAt_17 : decode b_CX_patternStandsAt 17 = .ok (.getfield 43, 3) := by decide +kernel
theorem d_CX_patternStandsAt_20 : decode b_CX_patternStandsAt 20 = .ok (.if_icmp .ne 7, 3) := by decide +kernel
theorem d_CX_patternStandsAt_23 : decode b_CX_patternStandsAt 23 = .ok (.iconst 1, 1) := by decide +kernel
theorem d_CX_patternStandsAt_24 : decode b_CX_patternStandsAt 24 = .ok (.goto 4, 3) := by decide +kernel
theorem d_CX_patternStandsAt_27 : decode b_CX_patternStandsAt 27 = .ok (.iconst 0, 1) := by decide +kernel
theorem d_CX_patternStandsAt_28 : decode b_CX_patternStandsAt 28 = .ok (.ireturn, 1) := by decide +kernel
theorem d_CX_comesBeforePattern_0 : decode b_CX_comesBeforePattern 0 = .ok (.aload_n 0, 1) := by decide +kernel
theorem d_CX_comesBeforePattern_1 : decode b_CX_comesBeforePattern 1 = .ok (.getfield 19, 3) := by decide +kernel
theorem d_CX_comesBeforePattern_4 : decode b_CX_comesBeforePattern 4 = .ok (.iconst 0, 1) := by decide +kernel
theorem d_CX_comesBeforePattern_5 : decode b_CX_comesBeforePattern 5 = .ok (.aload_n 0, 1) := by decide +kernel
theorem d_CX_comesBeforePattern_6 : decode b_CX_comesBeforePattern 6 = .ok (.getfield 16, 3) := by decide +kernel
theorem d_CX_comesBeforePattern_9 : decode b_CX_comesBeforePattern 9 = .ok (.iload_n 1, 1) := by decide +kernel
theorem d_CX_comesBeforePattern_10 : decode b_CX_comesBeforePattern 10 = .ok (.invokevirtual 103, 3) := by decide +kernel
theorem d_CX_comesBeforePattern_13 : decode b_CX_comesBeforePattern 13 = .ok (.istore_n 2, 1) := by decide +kernel
theorem d_CX_comesBeforePattern_14 : decode b_CX_comesBeforePattern 14 = .ok (.iload_n 2, 1) := by decide +kernel
theorem d_CX_comesBeforePattern_15 : decode b_CX_comesBeforePattern 15 = .ok (.aload_n 0, 1) := by decide +kernel
theorem d_CX_comesBeforePattern_16 : decode b_CX_comesBeforePattern 16 = .ok (.getfield 19, 3) := by decide +kernel
theorem d_CX_comesBeforePattern_19 : decode b_CX_comesBeforePattern 19 = .ok (.getfield 43, 3) := by decide +kernel
theorem d_CX_comesBeforePattern_22 : decode b_CX_comesBeforePattern 22 = .ok (.if_icmp .ne 5, 3) := by decide +kernel
theorem d_CX_comesBeforePattern_25 : decode b_CX_comesBeforePattern 25 = .ok (.iconst 0, 1) := by decide +kernel
theorem d_CX_comesBeforePattern_26 : decode b_CX_comesBeforePattern 26 = .ok (.ireturn, 1) := by decide +kernel
theorem d_CX_comesBeforePattern_27 : decode b_CX_comesBeforePattern 27 = .ok (.iload_n 1, 1) := by decide +kernel
theorem d_CX_comesBeforePattern_28 : decode b_CX_comesBeforePattern 28 = .ok (.iload_n 2, 1) := by decide +kernel
theorem d_CX_comesBeforePattern_29 : decode b_CX_comesBeforePattern 29 = .ok (.iadd, 1) := by decide +kernel
theorem d_CX_comesBeforePattern_30 : decode b_CX_comesBeforePattern 30 = .ok (.istore_n 3, 1) := by decide +kernel
theorem d_CX_comesBeforePattern_31 : decode b_CX_comesBeforePattern 31 = .ok (.iload_n 3, 1) := by decide +kernel
theorem d_CX_comesBeforePattern_32 : decode b_CX_comesBeforePattern 32 = .ok (.aload_n 0, 1) := by decide +kernel
theorem d_CX_comesBeforePattern_33 : decode b_CX_comesBeforePattern 33 = .ok (.getfield 16, 3) := by decide +kernel
theorem d_CX_comesBeforePattern_36 : decode b_CX_comesBeforePattern 36 = .ok (.getfield 43, 3) := by decide +kernel
theorem d_CX_comesBeforePattern_39 : decode b_CX_comesBeforePattern 39 = .ok (.if_icmp .eq 24, 3) := by decide +kernel
theorem d_CX_comesBeforePattern_42 : decode b_CX_comesBeforePattern 42 = .ok (.aload_n 0, 1) := by decide +kernel
theorem d_CX_comesBeforePattern_43 : decode b_CX_comesBeforePattern 43 = .ok (.getfield 16, 3) := by decide +kernel
theorem d_CX_comesBeforePattern_46 : decode b_CX_comesBeforePattern 46 = .ok (.getfield 61, 3) := by decide +kernel
theorem d_CX_comesBeforePattern_49 : decode b_CX_comesBeforePattern 49 = .ok (.iload_n 3, 1) := by decide +kernel
theorem d_CX_comesBeforePattern_50 : decode b_CX_comesBeforePattern 50 = .ok (.iaload, 1) := by decide +kernel
theorem d_CX_comesBeforePattern_51 : decode b_CX_comesBeforePattern 51 = .ok (.aload_n 0, 1) := by decide +kernel
theorem d_CX_comesBeforePattern_52 : decode b_CX_comesBeforePattern 52 = .ok (.getfield 19, 3) := by decide +kernel
theorem d_CX_comesBeforePattern_55 : decode b_CX_comesBeforePattern 55 = .ok (.getfield 61, 3) := by decide +kernel
theorem d_CX_comesBeforePattern_58 : decode b_CX_comesBeforePattern 58 = .ok (.iload_n 2, 1) := by decide +kernel
theorem d_CX_comesBeforePattern_59 : decode b_CX_comesBeforePattern 59 = .ok (.iaload, 1) := by decide +kernel
theorem d_CX_comesBeforePattern_60 : decode b_CX_comesBeforePattern 60 = .ok (.if_icmp .ge 7, 3) := by decide +kernel
theorem d_CX_comesBeforePattern_63 : decode b_CX_comesBeforePattern 63 = .ok (.iconst 1, 1) := by decide +kernel
theorem d_CX_comesBeforePattern_64 : decode b_CX_comesBeforePattern 64 = .ok (.goto 4, 3) := by decide +kernel
theorem d_CX_comesBeforePattern_67 : decode b_CX_comesBeforePattern 67 = .ok (.iconst 0, 1) := by decide +kernel
theorem d_CX_comesBeforePattern_68 : decode b_CX_comesBeforePattern 68 = .ok (.ireturn, 1) := by decide +kernel
theorem d_MO_init_0 : decode b_MO_init 0 = .ok (.aload_n 0, 1) := by decide +kernel
theorem d_MO_init_1 : decode b_MO_init 1 = .ok (.invokespecial 1, 3) := by decide +kernel
theorem d_MO_init_4 : decode b_MO_init 4 = .ok (.aload_n 0, 1) := by decide +kernel
theorem d_MO_init_5 : decode b_MO_init 5 = .ok (.bipush 96, 2) := by decide +kernel
theorem d_MO_init_7 : decode b_MO_init 7 = .ok (.newarray .int, 2) := by decide +kernel
theorem d_MO_init_9 : decode b_MO_init 9 = .ok (.putfield 7, 3) := by decide +kernel
theorem d_MO_init_12 : decode b_MO_init 12 = .ok (.aload_n 0, 1) := by decide +kernel
theorem d_MO_init_13 : decode b_MO_init 13 = .ok (.bipush 96, 2) := by decide +kernel
theorem d_MO_init_15 : decode b_MO_init 15 = .ok (.newarray .int, 2) := by decide +kernel
theorem d_MO_init_17 : decode b_MO_init 17 = .ok (.putfield 13, 3) := by decide +kernel
theorem d_MO_init_20 : decode b_MO_init 20 = .ok (.aload_n 0, 1) := by decide +kernel
theorem d_MO_init_21 : decode b_MO_init 21 = .ok (.bipush 97, 2) := by decide +kernel
theorem d_MO_init_23 : decode b_MO_init 23 = .ok (.newarray .int, 2) := by decide +kernel
theorem d_MO_init_25 : decode b_MO_init 25 = .ok (.putfield 16, 3) := by decide +kernel
theorem d_MO_init_28 : decode b_MO_init 28 = .ok (.aload_n 0, 1) := by decide +kernel
theorem d_MO_init_29 : decode b_MO_init 29 = .ok (.bipush 96, 2) := by decide +kernel
theorem d_MO_init_31 : decode b_MO_init 31 = .ok (.newarray .int, 2) := by decide +kernel
theorem d_MO_init_33 : decode b_MO_init 33 = .ok (.putfield 19, 3) := by decide +kernel
theorem d_MO_init_36 : decode b_MO_init 36 = .ok (.aload_n 0, 1) := by decide +kernel
theorem d_MO_init_37 : decode b_MO_init 37 = .ok (.sipush 257, 3) := by decide +kernel
theorem d_MO_init_40 : decode b_MO_init 40 = .ok (.newarray .int, 2) := by decide +kernel
theorem d_MO_init_42 : decode b_MO_init 42 = .ok (.putfield 22, 3) := by decide +kernel
theorem d_MO_init_45 : decode b_MO_init 45 = .ok (.aload_n 0, 1) := by decide +kernel
theorem d_MO_init_46 : decode b_MO_init 46 = .ok (.bipush 97, 2) := by decide +kernel
theorem d_MO_init_48 : decode b_MO_init 48 = .ok (.newarray .int, 2) := by decide +kernel
theorem d_MO_init_50 : decode b_MO_init 50 = .ok (.putfield 25, 3) := by decide +kernel
theorem d_MO_init_53 : decode b_MO_init 53 = .ok (.aload_n 0, 1) := by decide +kernel
theorem d_MO_init_54 : decode b_MO_init 54 = .ok (.bipush 96, 2) := by decide +kernel
theorem d_MO_init_56 : decode b_MO_init 56 = .ok (.newarray .int, 2) := by decide +kernel
theorem d_MO_init_58 : decode b_MO_init 58 = .ok (.putfield 28, 3) := by decide +kernel
theorem d_MO_init_61 : decode b_MO_init 61 = .ok (.return_, 1) := by decide +kernel
theorem d_MO_type_0 : decode b_MO_type 0 = .ok (.iload_n 3, 1) := by decide +kernel
theorem d_MO_type_1 : decode b_MO_type 1 = .ok (.iconst 1, 1) := by decide +kernel
theorem d_MO_type_2 : decode b_MO_type 2 = .ok (.if_icmp .lt 9, 3) := by decide +kernel
theorem d_MO_type_5 : decode b_MO_type 5 = .ok (.iload_n 3, 1) := by decide +kernel
theorem d_MO_type_6 : decode b_MO_type 6 = .ok (.bipush 8, 2) := by decide +kernel
theorem d_MO_type_8 : decode b_MO_type 8 = .ok (.if_icmp .le 5, 3) := by decide +kernel
theorem d_MO_type_11 : decode b_MO_type 11 = .ok (.iconst (-1), 1) := by decide +kernel
theorem d_MO_type_12 : decode b_MO_type 12 = .ok (.ireturn, 1) := by decide +kernel
theorem d_MO_type_13 : decode b_MO_type 13 = .ok (.aload_n 0, 1) := by decide +kernel
theorem d_MO_type_14 : decode b_MO_type 14 = .ok (.getfield 31, 3) := by decide +kernel
theorem d_MO_type_17 : decode b_MO_type 17 = .ok (.iload_n 3, 1) := by decide +kernel
theorem d_MO_type_18 : decode b_MO_type 18 = .ok (.iadd, 1) := by decide +kernel
theorem d_MO_type_19 : decode b_MO_type 19 = .ok (.bipush 96, 2) := by decide +kernel
theorem d_MO_type_21 : decode b_MO_type 21 = .ok (.if_icmp .le 6, 3) := by decide +kernel
theorem d_MO_type_24 : decode b_MO_type 24 = .ok (.bipush (-3), 2) := by decide +kernel
theorem d_MO_type_26 : decode b_MO_type 26 = .ok (.ireturn, 1) := by decide +kernel
theorem d_MO_type_27 : decode b_MO_type 27 = .ok (.iload_n 3, 1) := by decide +kernel
theorem d_MO_type_28 : decode b_MO_type 28 = .ok (.iconst 1, 1) := by decide +kernel
theorem d_MO_type_29 : decode b_MO_type 29 = .ok (.isub, 1) := by decide +kernel
theorem d_MO_type_30 : decode b_MO_type 30 = .ok (.istore 4, 2) := by decide +kernel
theorem d_MO_type_32 : decode b_MO_type 32 = .ok (.iload 4, 2) := by decide +kernel
theorem d_MO_type_34 : decode b_MO_type 34 = .ok (.ifCond .lt 40, 3) := by decide +kernel
theorem d_MO_type_37 : decode b_MO_type 37 = .ok (.aload_n 0, 1) := by decide +kernel
theorem d_MO_type_38 : decode b_MO_type 38 = .ok (.getfield 7, 3) := by decide +kernel
theorem d_MO_type_41 : decode b_MO_type 41 = .ok (.aload_n 0, 1) := by decide +kernel
theorem d_MO_type_42 : decode b_MO_type 42 = .ok (.getfield 31, 3) := by decide +kernel
theorem d_MO_type_45 : decode b_MO_type 45 = .ok (.lload_n 1, 1) := by decide +kernel
theorem d_MO_type_46 : decode b_MO_type 46 = .ok (.bipush 8, 2) := by decide +kernel
theorem d_MO_type_48 : decode b_MO_type 48 = .ok (.iload 4, 2) := by decide +kernel
theorem d_MO_type_50 : decode b_MO_type 50 = .ok (.imul, 1) := by decide +kernel
theorem d_MO_type_51 : decode b_MO_type 51 = .ok (.lshr, 1) := by decide +kernel
theorem d_MO_type_52 : decode b_MO_type 52 = .ok (.ldc2_w 35, 3) := by decide +kernel
theorem d_MO_type_55 : decode b_MO_type 55 = .ok (.land, 1) := by decide +kernel
theorem d_MO_type_56 : decode b_MO_type 56 = .ok (.l2i, 1) := by decide +kernel
theorem d_MO_type_57 : decode b_MO_type 57 = .ok (.iastore, 1) := by decide +kernel
theorem d_MO_type_58 : decode b_MO_type 58 = .ok (.aload_n 0, 1) := by decide +kernel
theorem d_MO_type_59 : decode b_MO_type 59 = .ok (.dup, 1) := by decide +kernel
theorem d_MO_type_60 : decode b_MO_type 60 = .ok (.getfield 31, 3) := by decide +kernel
theorem d_MO_type_63 : decode b_MO_type 63 = .ok (.iconst 1, 1) := by decide +kernel
theorem d_MO_type_64 : decode b_MO_type 64 = .ok (.iadd, 1) := by decide +kernel
theorem d_MO_type_65 : decode b_MO_type 65 = .ok (.putfield 31, 3) := by decide +kernel
theorem d_MO_type_68 : decode b_MO_type 68 = .ok (.iinc 4 (-1), 3) := by decide +kernel
theorem d_MO_type_71 : decode b_MO_type 71 = .ok (.goto (-39), 3) := by decide +kernel
theorem d_MO_type_74 : decode b_MO_type 74 = .ok (.aload_n 0, 1) := by decide +kernel
theorem d_MO_type_75 : decode b_MO_type 75 = .ok (.getfield 31, 3) := by decide +kernel
theorem d_MO_type_78 : decode b_MO_type 78 = .ok (.ireturn, 1) := by decide +kernel
theorem d_MO_alike_0 : decode b_MO_alike 0 = .ok (.iconst 0, 1) := by decide +kernel
theorem d_MO_alike_1 : decode b_MO_alike 1 = .ok (.istore_n 3, 1) := by decide +kernel
theorem d_MO_alike_2 : decode b_MO_alike 2 = .ok (.iload_n 1, 1) := by decide +kernel
theorem d_MO_alike_3 : decode b_MO_alike 3 = .ok (.iload_n 3, 1) := by decide +kernel
theorem d_MO_alike_4 : decode b_MO_alike 4 = .ok (.iadd, 1) := by decide +kernel
theorem d_MO_alike_5 : decode b_MO_alike 5 = .ok (.aload_n 0, 1) := by decide +kernel
theorem d_MO_alike_6 : decode b_MO_alike 6 = .ok (.getfield 37, 3) := by decide +kernel
theorem d_MO_alike_9 : decode b_MO_alike 9 = .ok (.if_icmp .ge 38, 3) := by decide +kernel
theorem d_MO_alike_12 : decode b_MO_alike 12 = .ok (.iload_n 2, 1) := by decide +kernel
theorem d_MO_alike_13 : decode b_MO_alike 13 = .ok (.iload_n 3, 1) := by decide +kernel
theorem d_MO_alike_14 : decode b_MO_alike 14 = .ok (.iadd, 1) := by decide +kernel
theorem d_MO_alike_15 : decode b_MO_alike 15 = .ok (.aload_n 0, 1) := by decide +kernel
theorem d_MO_alike_16 : decode b_MO_alike 16 = .ok (.getfield 37, 3) := by decide +kernel
theorem d_MO_alike_19 : decode b_MO_alike 19 = .ok (.if_icmp .ge 28, 3) := by decide +kernel
theorem d_MO_alike_22 : decode b_MO_alike 22 = .ok (.aload_n 0, 1) := by decide +kernel
theorem d_MO_alike_23 : decode b_MO_alike 23 = .ok (.getfield 13, 3) := by decide +kernel
theorem d_MO_alike_26 : decode b_MO_alike 26 = .ok (.iload_n 1, 1) := by decide +kernel
theorem d_MO_alike_27 : decode b_MO_alike 27 = .ok (.iload_n 3, 1) := by decide +kernel
theorem d_MO_alike_28 : decode b_MO_alike 28 = .ok (.iadd, 1) := by decide +kernel
theorem d_MO_alike_29 : decode b_MO_alike 29 = .ok (.iaload, 1) := by decide +kernel
theorem d_MO_alike_30 : decode b_MO_alike 30 = .ok (.aload_n 0, 1) := by decide +kernel
theorem d_MO_alike_31 : decode b_MO_alike 31 = .ok (.getfield 13, 3) := by decide +kernel
theorem d_MO_alike_34 : decode b_MO_alike 34 = .ok (.iload_n 2, 1) := by decide +kernel
theorem d_MO_alike_35 : decode b_MO_alike 35 = .ok (.iload_n 3, 1) := by decide +kernel
theorem d_MO_alike_36 : decode b_MO_alike 36 = .ok (.iadd, 1) := by decide +kernel
theorem d_MO_alike_37 : decode b_MO_alike 37 = .ok (.iaload, 1) := by decide +kernel
theorem d_MO_alike_38 : decode b_MO_alike 38 = .ok (.if_icmp .ne 9, 3) := by decide +kernel
theorem d_MO_alike_41 : decode b_MO_alike 41 = .ok (.iinc 3 1, 3) := by decide +kernel
theorem d_MO_alike_44 : decode b_MO_alike 44 = .ok (.goto (-42), 3) := by decide +kernel
theorem d_MO_alike_47 : decode b_MO_alike 47 = .ok (.iload_n 3, 1) := by decide +kernel
theorem d_MO_alike_48 : decode b_MO_alike 48 = .ok (.ireturn, 1) := by decide +kernel
theorem d_MO_isBefore_0 : decode b_MO_isBefore 0 = .ok (.aload_n 0, 1) := by decide +kernel
theorem d_MO_isBefore_1 : decode b_MO_isBefore 1 = .ok (.iload_n 1, 1) := by decide +kernel
theorem d_MO_isBefore_2 : decode b_MO_isBefore 2 = .ok (.iload_n 2, 1) := by decide +kernel
theorem d_MO_isBefore_3 : decode b_MO_isBefore 3 = .ok (.invokevirtual 40, 3) := by decide +kernel
theorem d_MO_isBefore_6 : decode b_MO_isBefore 6 = .ok (.istore_n 3, 1) := by decide +kernel
theorem d_MO_isBefore_7 : decode b_MO_isBefore 7 = .ok (.iload_n 1, 1) := by decide +kernel
theorem d_MO_isBefore_8 : decode b_MO_isBefore 8 = .ok (.iload_n 3, 1) := by decide +kernel
theorem d_MO_isBefore_9 : decode b_MO_isBefore 9 = .ok (.iadd, 1) := by decide +kernel
theorem d_MO_isBefore_10 : decode b_MO_isBefore 10 = .ok (.aload_n 0, 1) := by decide +kernel
theorem d_MO_isBefore_11 : decode b_MO_isBefore 11 = .ok (.getfield 37, 3) := by decide +kernel
theorem d_MO_isBefore_14 : decode b_MO_isBefore 14 = .ok (.if_icmp .ne 21, 3) := by decide +kernel
theorem d_MO_isBefore_17 : decode b_MO_isBefore 17 = .ok (.iload_n 2, 1) := by decide +kernel
theorem d_MO_isBefore_18 : decode b_MO_isBefore 18 = .ok (.iload_n 3, 1) := by decide +kernel
theorem d_MO_isBefore_19 : decode b_MO_isBefore 19 = .ok (.iadd, 1) := by decide +kernel
theorem d_MO_isBefore_20 : decode b_MO_isBefore 20 = .ok (.aload_n 0, 1) := by decide +kernel
theorem d_MO_isBefore_21 : decode b_MO_isBefore 21 = .ok (.getfield 37, 3) := by decide +kernel
theorem d_MO_isBefore_24 : decode b_MO_isBefore 24 = .ok (.if_icmp .ge 7, 3) := by decide +kernel
theorem d_MO_isBefore_27 : decode b_MO_isBefore 27 = .ok (.iconst 1, 1) := by decide +kernel
theorem d_MO_isBefore_28 : decode b_MO_isBefore 28 = .ok (.goto 41, 3) := by decide +kernel
theorem d_MO_isBefore_31 : decode b_MO_isBefore 31 = .ok (.iconst 0, 1) := by decide +kernel
theorem d_MO_isBefore_32 : decode b_MO_isBefore 32 = .ok (.goto 37, 3) := by decide +kernel
theorem d_MO_isBefore_35 : decode b_MO_isBefore 35 = .ok (.iload_n 2, 1) := by decide +kernel
theorem d_MO_isBefore_36 : decode b_MO_isBefore 36 = .ok (.iload_n 3, 1) := by decide +kernel
theorem d_MO_isBefore_37 : decode b_MO_isBefore 37 = .ok (.iadd, 1) := by decide +kernel
theorem d_MO_isBefore_38 : decode b_MO_isBefore 38 = .ok (.aload_n 0, 1) := by decide +kernel
theorem d_MO_isBefore_39 : decode b_MO_isBefore 39 = .ok (.getfield 37, 3) := by decide +kernel
theorem d_MO_isBefore_42 : decode b_MO_isBefore 42 = .ok (.if_icmp .ge 26, 3) := by decide +kernel
theorem d_MO_isBefore_45 : decode b_MO_isBefore 45 = .ok (.aload_n 0, 1) := by decide +kernel
theorem d_MO_isBefore_46 : decode b_MO_isBefore 46 = .ok (.getfield 13, 3) := by decide +kernel
theorem d_MO_isBefore_49 : decode b_MO_isBefore 49 = .ok (.iload_n 1, 1) := by decide +kernel
theorem d_MO_isBefore_50 : decode b_MO_isBefore 50 = .ok (.iload_n 3, 1) := by decide +kernel
theorem d_MO_isBefore_51 : decode b_MO_isBefore 51 = .ok (.iadd, 1) := by decide +kernel
theorem d_MO_isBefore_52 : decode b_MO_isBefore 52 = .ok (.iaload, 1) := by decide +kernel
theorem d_MO_isBefore_53 : decode b_MO_isBefore 53 = .ok (.aload_n 0, 1) := by decide +kernel
theorem d_MO_isBefore_54 : decode b_MO_isBefore 54 = .ok (.getfield 13, 3) := by decide +kernel
theorem d_MO_isBefore_57 : decode b_MO_isBefore 57 = .ok (.iload_n 2, 1) := by decide +kernel
theorem d_MO_isBefore_58 : decode b_MO_isBefore 58 = .ok (.iload_n 3, 1) := by decide +kernel
theorem d_MO_isBefore_59 : decode b_MO_isBefore 59 = .ok (.iadd, 1) := by decide +kernel
theorem d_MO_isBefore_60 : decode b_MO_isBefore 60 = .ok (.iaload, 1) := by decide +kernel
theorem d_MO_isBefore_61 : decode b_MO_isBefore 61 = .ok (.if_icmp .ge 7, 3) := by decide +kernel
theorem d_MO_isBefore_64 : decode b_MO_isBefore 64 = .ok (.iconst 1, 1) := by decide +kernel
theorem d_MO_isBefore_65 : decode b_MO_isBefore 65 = .ok (.goto 4, 3) := by decide +kernel
theorem d_MO_isBefore_68 : decode b_MO_isBefore 68 = .ok (.iconst 0, 1) := by decide +kernel
theorem d_MO_isBefore_69 : decode b_MO_isBefore 69 = .ok (.ireturn, 1) := by decide +kernel
theorem d_MO_sort_0 : decode b_MO_sort 0 = .ok (.iconst 0, 1) := by decide +kernel
theorem d_MO_sort_1 : decode b_MO_sort 1 = .ok (.istore_n 1, 1) := by decide +kernel
theorem d_MO_sort_2 : decode b_MO_sort 2 = .ok (.iload_n 1, 1) := by decide +kernel
theorem d_MO_sort_3 : decode b_MO_sort 3 = .ok (.aload_n 0, 1) := by decide +kernel
theorem d_MO_sort_4 : decode b_MO_sort 4 = .ok (.getfield 37, 3) := by decide +kernel
theorem d_MO_sort_7 : decode b_MO_sort 7 = .ok (.if_icmp .gt 58, 3) := by decide +kernel
theorem d_MO_sort_10 : decode b_MO_sort 10 = .ok (.iload_n 1, 1) := by decide +kernel
theorem d_MO_sort_11 : decode b_MO_sort 11 = .ok (.istore_n 2, 1) := by decide +kernel
theorem d_MO_sort_12 : decode b_MO_sort 12 = .ok (.iload_n 2, 1) := by decide +kernel
theorem d_MO_sort_13 : decode b_MO_sort 13 = .ok (.ifCond .le 39, 3) := by decide +kernel
theorem d_MO_sort_16 : decode b_MO_sort 16 = .ok (.aload_n 0, 1) := by decide +kernel
theorem d_MO_sort_17 : decode b_MO_sort 17 = .ok (.iload_n 1, 1) := by decide +kernel
theorem d_MO_sort_18 : decode b_MO_sort 18 = .ok (.aload_n 0, 1) := by decide +kernel
theorem d_MO_sort_19 : decode b_MO_sort 19 = .ok (.getfield 16, 3) := by decide +kernel
theorem d_MO_sort_22 : decode b_MO_sort 22 = .ok (.iload_n 2, 1) := by decide +kernel
theorem d_MO_sort_23 : decode b_MO_sort 23 = .ok (.iconst 1, 1) := by decide +kernel
theorem d_MO_sort_24 : decode b_MO_sort 24 = .ok (.isub, 1) := by decide +kernel
theorem d_MO_sort_25 : decode b_MO_sort 25 = .ok (.iaload, 1) := by decide +kernel
theorem d_MO_sort_26 : decode b_MO_sort 26 = .ok (.invokevirtual 44, 3) := by decide +kernel
theorem d_MO_sort_29 : decode b_MO_sort 29 = .ok (.ifCond .eq 23, 3) := by decide +kernel
theorem d_MO_sort_32 : decode b_MO_sort 32 = .ok (.aload_n 0, 1) := by decide +kernel
theorem d_MO_sort_33 : decode b_MO_sort 33 = .ok (.getfield 16, 3) := by decide +kernel
theorem d_MO_sort_36 : decode b_MO_sort 36 = .ok (.iload_n 2, 1) := by decide +kernel
theorem d_MO_sort_37 : decode b_MO_sort 37 = .ok (.aload_n 0, 1) := by decide +kernel
theorem d_MO_sort_38 : decode b_MO_sort 38 = .ok (.getfield 16, 3) := by decide +kernel
theorem d_MO_sort_41 : decode b_MO_sort 41 = .ok (.iload_n 2, 1) := by decide +kernel
theorem d_MO_sort_42 : decode b_MO_sort 42 = .ok (.iconst 1, 1) := by decide +kernel
theorem d_MO_sort_43 : decode b_MO_sort 43 = .ok (.isub, 1) := by decide +kernel
theorem d_MO_sort_44 : decode b_MO_sort 44 = .ok (.iaload, 1) := by decide +kernel
theorem d_MO_sort_45 : decode b_MO_sort 45 = .ok (.iastore, 1) := by decide +kernel
theorem d_MO_sort_46 : decode b_MO_sort 46 = .ok (.iinc 2 (-1), 3) := by decide +kernel
theorem d_MO_sort_49 : decode b_MO_sort 49 = .ok (.goto (-37), 3) := by decide +kernel
theorem d_MO_sort_52 : decode b_MO_sort 52 = .ok (.aload_n 0, 1) := by decide +kernel
theorem d_MO_sort_53 : decode b_MO_sort 53 = .ok (.getfield 16, 3) := by decide +kernel
theorem d_MO_sort_56 : decode b_MO_sort 56 = .ok (.iload_n 2, 1) := by decide +kernel
theorem d_MO_sort_57 : decode b_MO_sort 57 = .ok (.iload_n 1, 1) := by decide +kernel
theorem d_MO_sort_58 : decode b_MO_sort 58 = .ok (.iastore, 1) := by decide +kernel
theorem d_MO_sort_59 : decode b_MO_sort 59 = .ok (.iinc 1 1, 3) := by decide +kernel
theorem d_MO_sort_62 : decode b_MO_sort 62 = .ok (.goto (-60), 3) := by decide +kernel
theorem d_MO_sort_65 : decode b_MO_sort 65 = .ok (.return_, 1) := by decide +kernel
theorem d_MO_take_0 : decode b_MO_take 0 = .ok (.iconst 0, 1) := by decide +kernel
theorem d_MO_take_1 : decode b_MO_take 1 = .ok (.istore_n 1, 1) := by decide +kernel
theorem d_MO_take_2 : decode b_MO_take 2 = .ok (.iload_n 1, 1) := by decide +kernel
theorem d_MO_take_3 : decode b_MO_take 3 = .ok (.aload_n 0, 1) := by decide +kernel
theorem d_MO_take_4 : decode b_MO_take 4 = .ok (.getfield 31, 3) := by decide +kernel
theorem d_MO_take_7 : decode b_MO_take 7 = .ok (.if_icmp .ge 21, 3) := by decide +kernel
theorem d_MO_take_10 : decode b_MO_take 10 = .ok (.aload_n 0, 1) := by decide +kernel
theorem d_MO_take_11 : decode b_MO_take 11 = .ok (.getfield 13, 3) := by decide +kernel
theorem d_MO_take_14 : decode b_MO_take 14 = .ok (.iload_n 1, 1) := by decide +kernel
theorem d_MO_take_15 : decode b_MO_take 15 = .ok (.aload_n 0, 1) := by decide +kernel
theorem d_MO_take_16 : decode b_MO_take 16 = .ok (.getfield 7, 3) := by decide +kernel
theorem d_MO_take_19 : decode b_MO_take 19 = .ok (.iload_n 1, 1) := by decide +kernel
theorem d_MO_take_20 : decode b_MO_take 20 = .ok (.iaload, 1) := by decide +kernel
theorem d_MO_take_21 : decode b_MO_take 21 = .ok (.iastore, 1) := by decide +kernel
theorem d_MO_take_22 : decode b_MO_take 22 = .ok (.iinc 1 1, 3) := by decide +kernel
theorem d_MO_take_25 : decode b_MO_take 25 = .ok (.goto (-23), 3) := by decide +kernel
theorem d_MO_take_28 : decode b_MO_take 28 = .ok (.aload_n 0, 1) := by decide +kernel
theorem d_MO_take_29 : decode b_MO_take 29 = .ok (.aload_n 0, 1) := by decide +kernel
theorem d_MO_take_30 : decode b_MO_take 30 = .ok (.getfield 31, 3) := by decide +kernel
theorem d_MO_take_33 : decode b_MO_take 33 = .ok (.putfield 37, 3) := by decide +kernel
theorem d_MO_take_36 : decode b_MO_take 36 = .ok (.aload_n 0, 1) := by decide +kernel
theorem d_MO_take_37 : decode b_MO_take 37 = .ok (.iconst 0, 1) := by decide +kernel
theorem d_MO_take_38 : decode b_MO_take 38 = .ok (.putfield 31, 3) := by decide +kernel
theorem d_MO_take_41 : decode b_MO_take 41 = .ok (.aload_n 0, 1) := by decide +kernel
theorem d_MO_take_42 : decode b_MO_take 42 = .ok (.invokevirtual 48, 3) := by decide +kernel
theorem d_MO_take_45 : decode b_MO_take 45 = .ok (.return_, 1) := by decide +kernel
theorem d_MO_build_0 : decode b_MO_build 0 = .ok (.aload_n 0, 1) := by decide +kernel
theorem d_MO_build_1 : decode b_MO_build 1 = .ok (.invokevirtual 51, 3) := by decide +kernel
theorem d_MO_build_4 : decode b_MO_build 4 = .ok (.aload_n 0, 1) := by decide +kernel
theorem d_MO_build_5 : decode b_MO_build 5 = .ok (.getfield 37, 3) := by decide +kernel
theorem d_MO_build_8 : decode b_MO_build 8 = .ok (.ireturn, 1) := by decide +kernel
theorem d_MO_size_0 : decode b_MO_size 0 = .ok (.aload_n 0, 1) := by decide +kernel
theorem d_MO_size_1 : decode b_MO_size 1 = .ok (.getfield 37, 3) := by decide +kernel
theorem d_MO_size_4 : decode b_MO_size 4 = .ok (.ireturn, 1) := by decide +kernel
theorem d_MO_at_0 : decode b_MO_at 0 = .ok (.iload_n 1, 1) := by decide +kernel
theorem d_MO_at_1 : decode b_MO_at 1 = .ok (.ifCond .lt 20, 3) := by decide +kernel
theorem d_MO_at_4 : decode b_MO_at 4 = .ok (.iload_n 1, 1) := by decide +kernel
theorem d_MO_at_5 : decode b_MO_at 5 = .ok (.aload_n 0, 1) := by decide +kernel
theorem d_MO_at_6 : decode b_MO_at 6 = .ok (.getfield 37, 3) := by decide +kernel
theorem d_MO_at_9 : decode b_MO_at 9 = .ok (.if_icmp .ge 12, 3) := by decide +kernel
theorem d_MO_at_12 : decode b_MO_at 12 = .ok (.aload_n 0, 1) := by decide +kernel
theorem d_MO_at_13 : decode b_MO_at 13 = .ok (.getfield 13, 3) := by decide +kernel
theorem d_MO_at_16 : decode b_MO_at 16 = .ok (.iload_n 1, 1) := by decide +kernel
theorem d_MO_at_17 : decode b_MO_at 17 = .ok (.iaload, 1) := by decide +kernel
theorem d_MO_at_18 : decode b_MO_at 18 = .ok (.goto 4, 3) := by decide +kernel
theorem d_MO_at_21 : decode b_MO_at 21 = .ok (.iconst (-1), 1) := by decide +kernel
theorem d_MO_at_22 : decode b_MO_at 22 = .ok (.ireturn, 1) := by decide +kernel
theorem d_MO_suffix_0 : decode b_MO_suffix 0 = .ok (.iload_n 1, 1) := by decide +kernel
theorem d_MO_suffix_1 : decode b_MO_suffix 1 = .ok (.ifCond .lt 20, 3) := by decide +kernel
theorem d_MO_suffix_4 : decode b_MO_suffix 4 = .ok (.iload_n 1, 1) := by decide +kernel
theorem d_MO_suffix_5 : decode b_MO_suffix 5 = .ok (.aload_n 0, 1) := by decide +kernel
theorem d_MO_suffix_6 : decode b_MO_suffix 6 = .ok (.getfield 37, 3) := by decide +kernel
theorem d_MO_suffix_9 : decode b_MO_suffix 9 = .ok (.if_icmp .gt 12, 3) := by decide +kernel
theorem d_MO_suffix_12 : decode b_MO_suffix 12 = .ok (.aload_n 0, 1) := by decide +kernel
theorem d_MO_suffix_13 : decode b_MO_suffix 13 = .ok (.getfield 16, 3) := by decide +kernel
theorem d_MO_suffix_16 : decode b_MO_suffix 16 = .ok (.iload_n 1, 1) := by decide +kernel
theorem d_MO_suffix_17 : decode b_MO_suffix 17 = .ok (.iaload, 1) := by decide +kernel
theorem d_MO_suffix_18 : decode b_MO_suffix 18 = .ok (.goto 4, 3) := by decide +kernel
theorem d_MO_suffix_21 : decode b_MO_suffix 21 = .ok (.iconst (-1), 1) := by decide +kernel
theorem d_MO_suffix_22 : decode b_MO_suffix 22 = .ok (.ireturn, 1) := by decide +kernel
theorem d_MO_rank_0 : decode b_MO_rank 0 = .ok (.iconst (-1), 1) := by decide +kernel
theorem d_MO_rank_1 : decode b_MO_rank 1 = .ok (.istore_n 2, 1) := by decide +kernel
theorem d_MO_rank_2 : decode b_MO_rank 2 = .ok (.iconst 0, 1) := by decide +kernel
theorem d_MO_rank_3 : decode b_MO_rank 3 = .ok (.istore_n 3, 1) := by decide +kernel
theorem d_MO_rank_4 : decode b_MO_rank 4 = .ok (.iload_n 3, 1) := by decide +kernel
theorem d_MO_rank_5 : decode b_MO_rank 5 = .ok (.aload_n 0, 1) := by decide +kernel
theorem d_MO_rank_6 : decode b_MO_rank 6 = .ok (.getfield 37, 3) := by decide +kernel
theorem d_MO_rank_9 : decode b_MO_rank 9 = .ok (.if_icmp .gt 25, 3) := by decide +kernel
theorem d_MO_rank_12 : decode b_MO_rank 12 = .ok (.aload_n 0, 1) := by decide +kernel
theorem d_MO_rank_13 : decode b_MO_rank 13 = .ok (.getfield 16, 3) := by decide +kernel
theorem d_MO_rank_16 : decode b_MO_rank 16 = .ok (.iload_n 3, 1) := by decide +kernel
theorem d_MO_rank_17 : decode b_MO_rank 17 = .ok (.iaload, 1) := by decide +kernel
theorem d_MO_rank_18 : decode b_MO_rank 18 = .ok (.iload_n 1, 1) := by decide +kernel
theorem d_MO_rank_19 : decode b_MO_rank 19 = .ok (.if_icmp .ne 7, 3) := by decide +kernel
theorem d_MO_rank_22 : decode b_MO_rank 22 = .ok (.iload_n 3, 1) := by decide +kernel
theorem d_MO_rank_23 : decode b_MO_rank 23 = .ok (.goto 4, 3) := by decide +kernel
theorem d_MO_rank_26 : decode b_MO_rank 26 = .ok (.iload_n 2, 1) := by decide +kernel
theorem d_MO_rank_27 : decode b_MO_rank 27 = .ok (.istore_n 2, 1) := by decide +kernel
theorem d_MO_rank_28 : decode b_MO_rank 28 = .ok (.iinc 3 1, 3) := by decide +kernel
theorem d_MO_rank_31 : decode b_MO_rank 31 = .ok (.goto (-27), 3) := by decide +kernel
theorem d_MO_rank_34 : decode b_MO_rank 34 = .ok (.iload_n 2, 1) := by decide +kernel
theorem d_MO_rank_35 : decode b_MO_rank 35 = .ok (.ireturn, 1) := by decide +kernel
theorem d_MO_before1_0 : decode b_MO_before1 0 = .ok (.aload_n 0, 1) := by decide +kernel
theorem d_MO_before1_1 : decode b_MO_before1 1 = .ok (.getfield 16, 3) := by decide +kernel
theorem d_MO_before1_4 : decode b_MO_before1 4 = .ok (.iload_n 1, 1) := by decide +kernel
theorem d_MO_before1_5 : decode b_MO_before1 5 = .ok (.iaload, 1) := by decide +kernel
theorem d_MO_before1_6 : decode b_MO_before1 6 = .ok (.ifCond .ne 9, 3) := by decide +kernel
theorem d_MO_before1_9 : decode b_MO_before1 9 = .ok (.sipush 256, 3) := by decide +kernel
theorem d_MO_before1_12 : decode b_MO_before1 12 = .ok (.goto 16, 3) := by decide +kernel
theorem d_MO_before1_15 : decode b_MO_before1 15 = .ok (.aload_n 0, 1) := by decide +kernel
theorem d_MO_before1_16 : decode b_MO_before1 16 = .ok (.getfield 13, 3) := by decide +kernel
theorem d_MO_before1_19 : decode b_MO_before1 19 = .ok (.aload_n 0, 1) := by decide +kernel
theorem d_MO_before1_20 : decode b_MO_before1 20 = .ok (.getfield 16, 3) := by decide +kernel
theorem d_MO_before1_23 : decode b_MO_before1 23 = .ok (.iload_n 1, 1) := by decide +kernel
theorem d_MO_before1_24 : decode b_MO_before1 24 = .ok (.iaload, 1) := by decide +kernel
theorem d_MO_before1_25 : decode b_MO_before1 25 = .ok (.iconst 1, 1) := by decide +kernel
theorem d_MO_before1_26 : decode b_MO_before1 26 = .ok (.isub, 1) := by decide +kernel
theorem d_MO_before1_27 : decode b_MO_before1 27 = .ok (.iaload, 1) := by decide +kernel
theorem d_MO_before1_28 : decode b_MO_before1 28 = .ok (.ireturn, 1) := by decide +kernel
theorem d_MO_column_0 : decode b_MO_column 0 = .ok (.iload_n 1, 1) := by decide +kernel
theorem d_MO_column_1 : decode b_MO_column 1 = .ok (.ifCond .lt 11, 3) := by decide +kernel
theorem d_MO_column_4 : decode b_MO_column 4 = .ok (.iload_n 1, 1) := by decide +kernel
theorem d_MO_column_5 : decode b_MO_column 5 = .ok (.aload_n 0, 1) := by decide +kernel
theorem d_MO_column_6 : decode b_MO_column 6 = .ok (.getfield 37, 3) := by decide +kernel
theorem d_MO_column_9 : decode b_MO_column 9 = .ok (.if_icmp .le 5, 3) := by decide +kernel
theorem d_MO_column_12 : decode b_MO_column 12 = .ok (.iconst (-1), 1) := by decide +kernel
theorem d_MO_column_13 : decode b_MO_column 13 = .ok (.ireturn, 1) := by decide +kernel
theorem d_MO_column_14 : decode b_MO_column 14 = .ok (.aload_n 0, 1) := by decide +kernel
theorem d_MO_column_15 : decode b_MO_column 15 = .ok (.iload_n 1, 1) := by decide +kernel
theorem d_MO_column_16 : decode b_MO_column 16 = .ok (.invokevirtual 54, 3) := by decide +kernel
theorem d_MO_column_19 : decode b_MO_column 19 = .ok (.sipush 256, 3) := by decide +kernel
theorem d_MO_column_22 : decode b_MO_column 22 = .ok (.if_icmp .ne 8, 3) := by decide +kernel
theorem d_MO_column_25 : decode b_MO_column 25 = .ok (.bipush (-2), 2) := by decide +kernel
theorem d_MO_column_27 : decode b_MO_column 27 = .ok (.goto 8, 3) := by decide +kernel
theorem d_MO_column_30 : decode b_MO_column 30 = .ok (.aload_n 0, 1) := by decide +kernel
theorem d_MO_column_31 : decode b_MO_column 31 = .ok (.iload_n 1, 1) := by decide +kernel
end
section
theorem d_MO_column_32 : decode b_MO_column 32 = .ok (.invokevirtual 54, 3) := by decide +kernel
theorem d_MO_column_35 : decode b_MO_column 35 = .ok (.ireturn, 1) := by decide +kernel
theorem d_MO_common_0 : decode b_MO_common 0 = .ok (.iload_n 1, 1) := by decide +kernel
theorem d_MO_common_1 : decode b_MO_common 1 = .ok (.ifCond .lt 32, 3) := by decide +kernel
theorem d_MO_common_4 : decode b_MO_common 4 = .ok (.iload_n 1, 1) := by decide +kernel
theorem d_MO_common_5 : decode b_MO_common 5 = .ok (.aload_n 0, 1) := by decide +kernel
theorem d_MO_common_6 : decode b_MO_common 6 = .ok (.getfield 37, 3) := by decide +kernel
theorem d_MO_common_9 : decode b_MO_common 9 = .ok (.if_icmp .ge 24, 3) := by decide +kernel
theorem d_MO_common_12 : decode b_MO_common 12 = .ok (.aload_n 0, 1) := by decide +kernel
theorem d_MO_common_13 : decode b_MO_common 13 = .ok (.aload_n 0, 1) := by decide +kernel
theorem d_MO_common_14 : decode b_MO_common 14 = .ok (.getfield 16, 3) := by decide +kernel
theorem d_MO_common_17 : decode b_MO_common 17 = .ok (.iload_n 1, 1) := by decide +kernel
theorem d_MO_common_18 : decode b_MO_common 18 = .ok (.iaload, 1) := by decide +kernel
theorem d_MO_common_19 : decode b_MO_common 19 = .ok (.aload_n 0, 1) := by decide +kernel
theorem d_MO_common_20 : decode b_MO_common 20 = .ok (.getfield 16, 3) := by decide +kernel
theorem d_MO_common_23 : decode b_MO_common 23 = .ok (.iload_n 1, 1) := by decide +kernel
theorem d_MO_common_24 : decode b_MO_common 24 = .ok (.iconst 1, 1) := by decide +kernel
theorem d_MO_common_25 : decode b_MO_common 25 = .ok (.iadd, 1) := by decide +kernel
theorem d_MO_common_26 : decode b_MO_common 26 = .ok (.iaload, 1) := by decide +kernel
theorem d_MO_common_27 : decode b_MO_common 27 = .ok (.invokevirtual 40, 3) := by decide +kernel
theorem d_MO_common_30 : decode b_MO_common 30 = .ok (.goto 4, 3) := by decide +kernel
theorem d_MO_common_33 : decode b_MO_common 33 = .ok (.iconst (-1), 1) := by decide +kernel
theorem d_MO_common_34 : decode b_MO_common 34 = .ok (.ireturn, 1) := by decide +kernel
theorem d_MO_moved_0 : decode b_MO_moved 0 = .ok (.iload_n 1, 1) := by decide +kernel
theorem d_MO_moved_1 : decode b_MO_moved 1 = .ok (.ifCond .lt 11, 3) := by decide +kernel
theorem d_MO_moved_4 : decode b_MO_moved 4 = .ok (.iload_n 1, 1) := by decide +kernel
theorem d_MO_moved_5 : decode b_MO_moved 5 = .ok (.aload_n 0, 1) := by decide +kernel
theorem d_MO_moved_6 : decode b_MO_moved 6 = .ok (.getfield 37, 3) := by decide +kernel
theorem d_MO_moved_9 : decode b_MO_moved 9 = .ok (.if_icmp .le 5, 3) := by decide +kernel
theorem d_MO_moved_12 : decode b_MO_moved 12 = .ok (.iconst (-1), 1) := by decide +kernel
theorem d_MO_moved_13 : decode b_MO_moved 13 = .ok (.ireturn, 1) := by decide +kernel
theorem d_MO_moved_14 : decode b_MO_moved 14 = .ok (.aload_n 0, 1) := by decide +kernel
theorem d_MO_moved_15 : decode b_MO_moved 15 = .ok (.getfield 22, 3) := by decide +kernel
theorem d_MO_moved_18 : decode b_MO_moved 18 = .ok (.iconst 0, 1) := by decide +kernel
theorem d_MO_moved_19 : decode b_MO_moved 19 = .ok (.sipush 256, 3) := by decide +kernel
theorem d_MO_moved_22 : decode b_MO_moved 22 = .ok (.iastore, 1) := by decide +kernel
theorem d_MO_moved_23 : decode b_MO_moved 23 = .ok (.iconst 0, 1) := by decide +kernel
theorem d_MO_moved_24 : decode b_MO_moved 24 = .ok (.istore_n 2, 1) := by decide +kernel
theorem d_MO_moved_25 : decode b_MO_moved 25 = .ok (.iload_n 2, 1) := by decide +kernel
theorem d_MO_moved_26 : decode b_MO_moved 26 = .ok (.sipush 256, 3) := by decide +kernel
theorem d_MO_moved_29 : decode b_MO_moved 29 = .ok (.if_icmp .ge 18, 3) := by decide +kernel
theorem d_MO_moved_32 : decode b_MO_moved 32 = .ok (.aload_n 0, 1) := by decide +kernel
theorem d_MO_moved_33 : decode b_MO_moved 33 = .ok (.getfield 22, 3) := by decide +kernel
theorem d_MO_moved_36 : decode b_MO_moved 36 = .ok (.iload_n 2, 1) := by decide +kernel
theorem d_MO_moved_37 : decode b_MO_moved 37 = .ok (.iconst 1, 1) := by decide +kernel
theorem d_MO_moved_38 : decode b_MO_moved 38 = .ok (.iadd, 1) := by decide +kernel
theorem d_MO_moved_39 : decode b_MO_moved 39 = .ok (.iload_n 2, 1) := by decide +kernel
theorem d_MO_moved_40 : decode b_MO_moved 40 = .ok (.iastore, 1) := by decide +kernel
theorem d_MO_moved_41 : decode b_MO_moved 41 = .ok (.iinc 2 1, 3) := by decide +kernel
theorem d_MO_moved_44 : decode b_MO_moved 44 = .ok (.goto (-19), 3) := by decide +kernel
theorem d_MO_moved_47 : decode b_MO_moved 47 = .ok (.iconst 0, 1) := by decide +kernel
theorem d_MO_moved_48 : decode b_MO_moved 48 = .ok (.istore_n 2, 1) := by decide +kernel
theorem d_MO_moved_49 : decode b_MO_moved 49 = .ok (.iconst 0, 1) := by decide +kernel
theorem d_MO_moved_50 : decode b_MO_moved 50 = .ok (.istore_n 3, 1) := by decide +kernel
theorem d_MO_moved_51 : decode b_MO_moved 51 = .ok (.iload_n 3, 1) := by decide +kernel
theorem d_MO_moved_52 : decode b_MO_moved 52 = .ok (.iload_n 1, 1) := by decide +kernel
theorem d_MO_moved_53 : decode b_MO_moved 53 = .ok (.if_icmp .gt 73, 3) := by decide +kernel
theorem d_MO_moved_56 : decode b_MO_moved 56 = .ok (.aload_n 0, 1) := by decide +kernel
theorem d_MO_moved_57 : decode b_MO_moved 57 = .ok (.iload_n 3, 1) := by decide +kernel
theorem d_MO_moved_58 : decode b_MO_moved 58 = .ok (.invokevirtual 54, 3) := by decide +kernel
theorem d_MO_moved_61 : decode b_MO_moved 61 = .ok (.istore 4, 2) := by decide +kernel
theorem d_MO_moved_63 : decode b_MO_moved 63 = .ok (.iconst 0, 1) := by decide +kernel
theorem d_MO_moved_64 : decode b_MO_moved 64 = .ok (.istore_n 2, 1) := by decide +kernel
theorem d_MO_moved_65 : decode b_MO_moved 65 = .ok (.aload_n 0, 1) := by decide +kernel
theorem d_MO_moved_66 : decode b_MO_moved 66 = .ok (.getfield 22, 3) := by decide +kernel
theorem d_MO_moved_69 : decode b_MO_moved 69 = .ok (.iload_n 2, 1) := by decide +kernel
theorem d_MO_moved_70 : decode b_MO_moved 70 = .ok (.iaload, 1) := by decide +kernel
theorem d_MO_moved_71 : decode b_MO_moved 71 = .ok (.iload 4, 2) := by decide +kernel
theorem d_MO_moved_73 : decode b_MO_moved 73 = .ok (.if_icmp .eq 9, 3) := by decide +kernel
theorem d_MO_moved_76 : decode b_MO_moved 76 = .ok (.iinc 2 1, 3) := by decide +kernel
theorem d_MO_moved_79 : decode b_MO_moved 79 = .ok (.goto (-14), 3) := by decide +kernel
theorem d_MO_moved_82 : decode b_MO_moved 82 = .ok (.iload_n 2, 1) := by decide +kernel
theorem d_MO_moved_83 : decode b_MO_moved 83 = .ok (.istore 5, 2) := by decide +kernel
theorem d_MO_moved_85 : decode b_MO_moved 85 = .ok (.iload 5, 2) := by decide +kernel
theorem d_MO_moved_87 : decode b_MO_moved 87 = .ok (.ifCond .le 25, 3) := by decide +kernel
theorem d_MO_moved_90 : decode b_MO_moved 90 = .ok (.aload_n 0, 1) := by decide +kernel
theorem d_MO_moved_91 : decode b_MO_moved 91 = .ok (.getfield 22, 3) := by decide +kernel
theorem d_MO_moved_94 : decode b_MO_moved 94 = .ok (.iload 5, 2) := by decide +kernel
theorem d_MO_moved_96 : decode b_MO_moved 96 = .ok (.aload_n 0, 1) := by decide +kernel
theorem d_MO_moved_97 : decode b_MO_moved 97 = .ok (.getfield 22, 3) := by decide +kernel
theorem d_MO_moved_100 : decode b_MO_moved 100 = .ok (.iload 5, 2) := by decide +kernel
theorem d_MO_moved_102 : decode b_MO_moved 102 = .ok (.iconst 1, 1) := by decide +kernel
theorem d_MO_moved_103 : decode b_MO_moved 103 = .ok (.isub, 1) := by decide +kernel
theorem d_MO_moved_104 : decode b_MO_moved 104 = .ok (.iaload, 1) := by decide +kernel
theorem d_MO_moved_105 : decode b_MO_moved 105 = .ok (.iastore, 1) := by decide +kernel
theorem d_MO_moved_106 : decode b_MO_moved 106 = .ok (.iinc 5 (-1), 3) := by decide +kernel
theorem d_MO_moved_109 : decode b_MO_moved 109 = .ok (.goto (-24), 3) := by decide +kernel
theorem d_MO_moved_112 : decode b_MO_moved 112 = .ok (.aload_n 0, 1) := by decide +kernel
theorem d_MO_moved_113 : decode b_MO_moved 113 = .ok (.getfield 22, 3) := by decide +kernel
theorem d_MO_moved_116 : decode b_MO_moved 116 = .ok (.iconst 0, 1) := by decide +kernel
theorem d_MO_moved_117 : decode b_MO_moved 117 = .ok (.iload 4, 2) := by decide +kernel
theorem d_MO_moved_119 : decode b_MO_moved 119 = .ok (.iastore, 1) := by decide +kernel
theorem d_MO_moved_120 : decode b_MO_moved 120 = .ok (.iinc 3 1, 3) := by decide +kernel
theorem d_MO_moved_123 : decode b_MO_moved 123 = .ok (.goto (-72), 3) := by decide +kernel
theorem d_MO_moved_126 : decode b_MO_moved 126 = .ok (.iload_n 2, 1) := by decide +kernel
theorem d_MO_moved_127 : decode b_MO_moved 127 = .ok (.ireturn, 1) := by decide +kernel
theorem d_MO_distinct_0 : decode b_MO_distinct 0 = .ok (.iconst 0, 1) := by decide +kernel
theorem d_MO_distinct_1 : decode b_MO_distinct 1 = .ok (.istore_n 1, 1) := by decide +kernel
theorem d_MO_distinct_2 : decode b_MO_distinct 2 = .ok (.iconst 0, 1) := by decide +kernel
theorem d_MO_distinct_3 : decode b_MO_distinct 3 = .ok (.istore_n 2, 1) := by decide +kernel
theorem d_MO_distinct_4 : decode b_MO_distinct 4 = .ok (.iload_n 2, 1) := by decide +kernel
theorem d_MO_distinct_5 : decode b_MO_distinct 5 = .ok (.aload_n 0, 1) := by decide +kernel
theorem d_MO_distinct_6 : decode b_MO_distinct 6 = .ok (.getfield 37, 3) := by decide +kernel
theorem d_MO_distinct_9 : decode b_MO_distinct 9 = .ok (.if_icmp .gt 50, 3) := by decide +kernel
theorem d_MO_distinct_12 : decode b_MO_distinct 12 = .ok (.iload_n 1, 1) := by decide +kernel
theorem d_MO_distinct_13 : decode b_MO_distinct 13 = .ok (.aload_n 0, 1) := by decide +kernel
theorem d_MO_distinct_14 : decode b_MO_distinct 14 = .ok (.getfield 37, 3) := by decide +kernel
theorem d_MO_distinct_17 : decode b_MO_distinct 17 = .ok (.aload_n 0, 1) := by decide +kernel
theorem d_MO_distinct_18 : decode b_MO_distinct 18 = .ok (.getfield 16, 3) := by decide +kernel
theorem d_MO_distinct_21 : decode b_MO_distinct 21 = .ok (.iload_n 2, 1) := by decide +kernel
theorem d_MO_distinct_22 : decode b_MO_distinct 22 = .ok (.iaload, 1) := by decide +kernel
theorem d_MO_distinct_23 : decode b_MO_distinct 23 = .ok (.isub, 1) := by decide +kernel
theorem d_MO_distinct_24 : decode b_MO_distinct 24 = .ok (.iload_n 2, 1) := by decide +kernel
theorem d_MO_distinct_25 : decode b_MO_distinct 25 = .ok (.ifCond .le 24, 3) := by decide +kernel
theorem d_MO_distinct_28 : decode b_MO_distinct 28 = .ok (.aload_n 0, 1) := by decide +kernel
theorem d_MO_distinct_29 : decode b_MO_distinct 29 = .ok (.aload_n 0, 1) := by decide +kernel
theorem d_MO_distinct_30 : decode b_MO_distinct 30 = .ok (.getfield 16, 3) := by decide +kernel
theorem d_MO_distinct_33 : decode b_MO_distinct 33 = .ok (.iload_n 2, 1) := by decide +kernel
theorem d_MO_distinct_34 : decode b_MO_distinct 34 = .ok (.iconst 1, 1) := by decide +kernel
theorem d_MO_distinct_35 : decode b_MO_distinct 35 = .ok (.isub, 1) := by decide +kernel
theorem d_MO_distinct_36 : decode b_MO_distinct 36 = .ok (.iaload, 1) := by decide +kernel
theorem d_MO_distinct_37 : decode b_MO_distinct 37 = .ok (.aload_n 0, 1) := by decide +kernel
theorem d_MO_distinct_38 : decode b_MO_distinct 38 = .ok (.getfield 16, 3) := by decide +kernel
theorem d_MO_distinct_41 : decode b_MO_distinct 41 = .ok (.iload_n 2, 1) := by decide +kernel
theorem d_MO_distinct_42 : decode b_MO_distinct 42 = .ok (.iaload, 1) := by decide +kernel
theorem d_MO_distinct_43 : decode b_MO_distinct 43 = .ok (.invokevirtual 40, 3) := by decide +kernel
theorem d_MO_distinct_46 : decode b_MO_distinct 46 = .ok (.goto 4, 3) := by decide +kernel
theorem d_MO_distinct_49 : decode b_MO_distinct 49 = .ok (.iconst 0, 1) := by decide +kernel
theorem d_MO_distinct_50 : decode b_MO_distinct 50 = .ok (.isub, 1) := by decide +kernel
theorem d_MO_distinct_51 : decode b_MO_distinct 51 = .ok (.iadd, 1) := by decide +kernel
theorem d_MO_distinct_52 : decode b_MO_distinct 52 = .ok (.istore_n 1, 1) := by decide +kernel
theorem d_MO_distinct_53 : decode b_MO_distinct 53 = .ok (.iinc 2 1, 3) := by decide +kernel
theorem d_MO_distinct_56 : decode b_MO_distinct 56 = .ok (.goto (-52), 3) := by decide +kernel
theorem d_MO_distinct_59 : decode b_MO_distinct 59 = .ok (.iload_n 1, 1) := by decide +kernel
theorem d_MO_distinct_60 : decode b_MO_distinct 60 = .ok (.ireturn, 1) := by decide +kernel
theorem d_MO_repeat_0 : decode b_MO_repeat 0 = .ok (.iconst 0, 1) := by decide +kernel
theorem d_MO_repeat_1 : decode b_MO_repeat 1 = .ok (.istore_n 1, 1) := by decide +kernel
theorem d_MO_repeat_2 : decode b_MO_repeat 2 = .ok (.iconst 0, 1) := by decide +kernel
theorem d_MO_repeat_3 : decode b_MO_repeat 3 = .ok (.istore_n 2, 1) := by decide +kernel
theorem d_MO_repeat_4 : decode b_MO_repeat 4 = .ok (.iconst 0, 1) := by decide +kernel
theorem d_MO_repeat_5 : decode b_MO_repeat 5 = .ok (.istore_n 3, 1) := by decide +kernel
theorem d_MO_repeat_6 : decode b_MO_repeat 6 = .ok (.iload_n 3, 1) := by decide +kernel
theorem d_MO_repeat_7 : decode b_MO_repeat 7 = .ok (.aload_n 0, 1) := by decide +kernel
theorem d_MO_repeat_8 : decode b_MO_repeat 8 = .ok (.getfield 37, 3) := by decide +kernel
theorem d_MO_repeat_11 : decode b_MO_repeat 11 = .ok (.if_icmp .ge 89, 3) := by decide +kernel
theorem d_MO_repeat_14 : decode b_MO_repeat 14 = .ok (.aload_n 0, 1) := by decide +kernel
theorem d_MO_repeat_15 : decode b_MO_repeat 15 = .ok (.aload_n 0, 1) := by decide +kernel
theorem d_MO_repeat_16 : decode b_MO_repeat 16 = .ok (.getfield 16, 3) := by decide +kernel
theorem d_MO_repeat_19 : decode b_MO_repeat 19 = .ok (.iload_n 3, 1) := by decide +kernel
theorem d_MO_repeat_20 : decode b_MO_repeat 20 = .ok (.iaload, 1) := by decide +kernel
theorem d_MO_repeat_21 : decode b_MO_repeat 21 = .ok (.aload_n 0, 1) := by decide +kernel
theorem d_MO_repeat_22 : decode b_MO_repeat 22 = .ok (.getfield 16, 3) := by decide +kernel
theorem d_MO_repeat_25 : decode b_MO_repeat 25 = .ok (.iload_n 3, 1) := by decide +kernel
theorem d_MO_repeat_26 : decode b_MO_repeat 26 = .ok (.iconst 1, 1) := by decide +kernel
theorem d_MO_repeat_27 : decode b_MO_repeat 27 = .ok (.iadd, 1) := by decide +kernel
theorem d_MO_repeat_28 : decode b_MO_repeat 28 = .ok (.iaload, 1) := by decide +kernel
theorem d_MO_repeat_29 : decode b_MO_repeat 29 = .ok (.invokevirtual 40, 3) := by decide +kernel
theorem d_MO_repeat_32 : decode b_MO_repeat 32 = .ok (.istore 4, 2) := by decide +kernel
theorem d_MO_repeat_34 : decode b_MO_repeat 34 = .ok (.aload_n 0, 1) := by decide +kernel
theorem d_MO_repeat_35 : decode b_MO_repeat 35 = .ok (.getfield 16, 3) := by decide +kernel
theorem d_MO_repeat_38 : decode b_MO_repeat 38 = .ok (.iload_n 3, 1) := by decide +kernel
theorem d_MO_repeat_39 : decode b_MO_repeat 39 = .ok (.iaload, 1) := by decide +kernel
theorem d_MO_repeat_40 : decode b_MO_repeat 40 = .ok (.aload_n 0, 1) := by decide +kernel
theorem d_MO_repeat_41 : decode b_MO_repeat 41 = .ok (.getfield 16, 3) := by decide +kernel
theorem d_MO_repeat_44 : decode b_MO_repeat 44 = .ok (.iload_n 3, 1) := by decide +kernel
theorem d_MO_repeat_45 : decode b_MO_repeat 45 = .ok (.iconst 1, 1) := by decide +kernel
theorem d_MO_repeat_46 : decode b_MO_repeat 46 = .ok (.iadd, 1) := by decide +kernel
theorem d_MO_repeat_47 : decode b_MO_repeat 47 = .ok (.iaload, 1) := by decide +kernel
theorem d_MO_repeat_48 : decode b_MO_repeat 48 = .ok (.if_icmp .ge 12, 3) := by decide +kernel
theorem d_MO_repeat_51 : decode b_MO_repeat 51 = .ok (.aload_n 0, 1) := by decide +kernel
theorem d_MO_repeat_52 : decode b_MO_repeat 52 = .ok (.getfield 16, 3) := by decide +kernel
theorem d_MO_repeat_55 : decode b_MO_repeat 55 = .ok (.iload_n 3, 1) := by decide +kernel
theorem d_MO_repeat_56 : decode b_MO_repeat 56 = .ok (.iaload, 1) := by decide +kernel
theorem d_MO_repeat_57 : decode b_MO_repeat 57 = .ok (.goto 11, 3) := by decide +kernel
theorem d_MO_repeat_60 : decode b_MO_repeat 60 = .ok (.aload_n 0, 1) := by decide +kernel
theorem d_MO_repeat_61 : decode b_MO_repeat 61 = .ok (.getfield 16, 3) := by decide +kernel
theorem d_MO_repeat_64 : decode b_MO_repeat 64 = .ok (.iload_n 3, 1) := by decide +kernel
theorem d_MO_repeat_65 : decode b_MO_repeat 65 = .ok (.iconst 1, 1) := by decide +kernel
theorem d_MO_repeat_66 : decode b_MO_repeat 66 = .ok (.iadd, 1) := by decide +kernel
theorem d_MO_repeat_67 : decode b_MO_repeat 67 = .ok (.iaload, 1) := by decide +kernel
theorem d_MO_repeat_68 : decode b_MO_repeat 68 = .ok (.istore 5, 2) := by decide +kernel
theorem d_MO_repeat_70 : decode b_MO_repeat 70 = .ok (.iload 4, 2) := by decide +kernel
theorem d_MO_repeat_72 : decode b_MO_repeat 72 = .ok (.iload_n 1, 1) := by decide +kernel
theorem d_MO_repeat_73 : decode b_MO_repeat 73 = .ok (.if_icmp .gt 15, 3) := by decide +kernel
theorem d_MO_repeat_76 : decode b_MO_repeat 76 = .ok (.iload 4, 2) := by decide +kernel
theorem d_MO_repeat_78 : decode b_MO_repeat 78 = .ok (.iload_n 1, 1) := by decide +kernel
theorem d_MO_repeat_79 : decode b_MO_repeat 79 = .ok (.if_icmp .ne 15, 3) := by decide +kernel
theorem d_MO_repeat_82 : decode b_MO_repeat 82 = .ok (.iload 5, 2) := by decide +kernel
theorem d_MO_repeat_84 : decode b_MO_repeat 84 = .ok (.iload_n 2, 1) := by decide +kernel
theorem d_MO_repeat_85 : decode b_MO_repeat 85 = .ok (.if_icmp .ge 9, 3) := by decide +kernel
theorem d_MO_repeat_88 : decode b_MO_repeat 88 = .ok (.iload 4, 2) := by decide +kernel
theorem d_MO_repeat_90 : decode b_MO_repeat 90 = .ok (.istore_n 1, 1) := by decide +kernel
theorem d_MO_repeat_91 : decode b_MO_repeat 91 = .ok (.iload 5, 2) := by decide +kernel
theorem d_MO_repeat_93 : decode b_MO_repeat 93 = .ok (.istore_n 2, 1) := by decide +kernel
theorem d_MO_repeat_94 : decode b_MO_repeat 94 = .ok (.iinc 3 1, 3) := by decide +kernel
theorem d_MO_repeat_97 : decode b_MO_repeat 97 = .ok (.goto (-91), 3) := by decide +kernel
theorem d_MO_repeat_100 : decode b_MO_repeat 100 = .ok (.iload_n 1, 1) := by decide +kernel
theorem d_MO_repeat_101 : decode b_MO_repeat 101 = .ok (.ifCond .ne 7, 3) := by decide +kernel
theorem d_MO_repeat_104 : decode b_MO_repeat 104 = .ok (.iconst 0, 1) := by decide +kernel
theorem d_MO_repeat_105 : decode b_MO_repeat 105 = .ok (.goto 10, 3) := by decide +kernel
theorem d_MO_repeat_108 : decode b_MO_repeat 108 = .ok (.sipush 128, 3) := by decide +kernel
theorem d_MO_repeat_111 : decode b_MO_repeat 111 = .ok (.iload_n 1, 1) := by decide +kernel
theorem d_MO_repeat_112 : decode b_MO_repeat 112 = .ok (.imul, 1) := by decide +kernel
theorem d_MO_repeat_113 : decode b_MO_repeat 113 = .ok (.iload_n 2, 1) := by decide +kernel
theorem d_MO_repeat_114 : decode b_MO_repeat 114 = .ok (.iadd, 1) := by decide +kernel
theorem d_MO_repeat_115 : decode b_MO_repeat 115 = .ok (.ireturn, 1) := by decide +kernel
theorem d_MO_fits_0 : decode b_MO_fits 0 = .ok (.iconst 0, 1) := by decide +kernel
theorem d_MO_fits_1 : decode b_MO_fits 1 = .ok (.istore_n 3, 1) := by decide +kernel
theorem d_MO_fits_2 : decode b_MO_fits 2 = .ok (.iload_n 1, 1) := by decide +kernel
theorem d_MO_fits_3 : decode b_MO_fits 3 = .ok (.iload_n 3, 1) := by decide +kernel
theorem d_MO_fits_4 : decode b_MO_fits 4 = .ok (.iadd, 1) := by decide +kernel
theorem d_MO_fits_5 : decode b_MO_fits 5 = .ok (.aload_n 0, 1) := by decide +kernel
theorem d_MO_fits_6 : decode b_MO_fits 6 = .ok (.getfield 37, 3) := by decide +kernel
theorem d_MO_fits_9 : decode b_MO_fits 9 = .ok (.if_icmp .ge 38, 3) := by decide +kernel
theorem d_MO_fits_12 : decode b_MO_fits 12 = .ok (.iload_n 2, 1) := by decide +kernel
theorem d_MO_fits_13 : decode b_MO_fits 13 = .ok (.iload_n 3, 1) := by decide +kernel
theorem d_MO_fits_14 : decode b_MO_fits 14 = .ok (.iadd, 1) := by decide +kernel
theorem d_MO_fits_15 : decode b_MO_fits 15 = .ok (.aload_n 0, 1) := by decide +kernel
theorem d_MO_fits_16 : decode b_MO_fits 16 = .ok (.getfield 58, 3) := by decide +kernel
theorem d_MO_fits_19 : decode b_MO_fits 19 = .ok (.if_icmp .ge 28, 3) := by decide +kernel
theorem d_MO_fits_22 : decode b_MO_fits 22 = .ok (.aload_n 0, 1) := by decide +kernel
theorem d_MO_fits_23 : decode b_MO_fits 23 = .ok (.getfield 13, 3) := by decide +kernel
theorem d_MO_fits_26 : decode b_MO_fits 26 = .ok (.iload_n 1, 1) := by decide +kernel
theorem d_MO_fits_27 : decode b_MO_fits 27 = .ok (.iload_n 3, 1) := by decide +kernel
theorem d_MO_fits_28 : decode b_MO_fits 28 = .ok (.iadd, 1) := by decide +kernel
theorem d_MO_fits_29 : decode b_MO_fits 29 = .ok (.iaload, 1) := by decide +kernel
theorem d_MO_fits_30 : decode b_MO_fits 30 = .ok (.aload_n 0, 1) := by decide +kernel
theorem d_MO_fits_31 : decode b_MO_fits 31 = .ok (.getfield 19, 3) := by decide +kernel
theorem d_MO_fits_34 : decode b_MO_fits 34 = .ok (.iload_n 2, 1) := by decide +kernel
theorem d_MO_fits_35 : decode b_MO_fits 35 = .ok (.iload_n 3, 1) := by decide +kernel
theorem d_MO_fits_36 : decode b_MO_fits 36 = .ok (.iadd, 1) := by decide +kernel
theorem d_MO_fits_37 : decode b_MO_fits 37 = .ok (.iaload, 1) := by decide +kernel
theorem d_MO_fits_38 : decode b_MO_fits 38 = .ok (.if_icmp .ne 9, 3) := by decide +kernel
theorem d_MO_fits_41 : decode b_MO_fits 41 = .ok (.iinc 3 1, 3) := by decide +kernel
theorem d_MO_fits_44 : decode b_MO_fits 44 = .ok (.goto (-42), 3) := by decide +kernel
theorem d_MO_fits_47 : decode b_MO_fits 47 = .ok (.iload_n 3, 1) := by decide +kernel
theorem d_MO_fits_48 : decode b_MO_fits 48 = .ok (.ireturn, 1) := by decide +kernel
theorem d_MO_hits_0 : decode b_MO_hits 0 = .ok (.iconst 0, 1) := by decide +kernel
theorem d_MO_hits_1 : decode b_MO_hits 1 = .ok (.istore_n 1, 1) := by decide +kernel
theorem d_MO_hits_2 : decode b_MO_hits 2 = .ok (.iconst 0, 1) := by decide +kernel
theorem d_MO_hits_3 : decode b_MO_hits 3 = .ok (.istore_n 2, 1) := by decide +kernel
theorem d_MO_hits_4 : decode b_MO_hits 4 = .ok (.iload_n 2, 1) := by decide +kernel
theorem d_MO_hits_5 : decode b_MO_hits 5 = .ok (.aload_n 0, 1) := by decide +kernel
theorem d_MO_hits_6 : decode b_MO_hits 6 = .ok (.getfield 37, 3) := by decide +kernel
theorem d_MO_hits_9 : decode b_MO_hits 9 = .ok (.if_icmp .gt 30, 3) := by decide +kernel
theorem d_MO_hits_12 : decode b_MO_hits 12 = .ok (.iload_n 1, 1) := by decide +kernel
theorem d_MO_hits_13 : decode b_MO_hits 13 = .ok (.aload_n 0, 1) := by decide +kernel
theorem d_MO_hits_14 : decode b_MO_hits 14 = .ok (.iload_n 2, 1) := by decide +kernel
theorem d_MO_hits_15 : decode b_MO_hits 15 = .ok (.iconst 0, 1) := by decide +kernel
theorem d_MO_hits_16 : decode b_MO_hits 16 = .ok (.invokevirtual 61, 3) := by decide +kernel
theorem d_MO_hits_19 : decode b_MO_hits 19 = .ok (.aload_n 0, 1) := by decide +kernel
theorem d_MO_hits_20 : decode b_MO_hits 20 = .ok (.getfield 58, 3) := by decide +kernel
theorem d_MO_hits_23 : decode b_MO_hits 23 = .ok (.if_icmp .ne 7, 3) := by decide +kernel
theorem d_MO_hits_26 : decode b_MO_hits 26 = .ok (.iconst 1, 1) := by decide +kernel
theorem d_MO_hits_27 : decode b_MO_hits 27 = .ok (.goto 4, 3) := by decide +kernel
theorem d_MO_hits_30 : decode b_MO_hits 30 = .ok (.iconst 0, 1) := by decide +kernel
theorem d_MO_hits_31 : decode b_MO_hits 31 = .ok (.iadd, 1) := by decide +kernel
theorem d_MO_hits_32 : decode b_MO_hits 32 = .ok (.istore_n 1, 1) := by decide +kernel
theorem d_MO_hits_33 : decode b_MO_hits 33 = .ok (.iinc 2 1, 3) := by decide +kernel
theorem d_MO_hits_36 : decode b_MO_hits 36 = .ok (.goto (-32), 3) := by decide +kernel
theorem d_MO_hits_39 : decode b_MO_hits 39 = .ok (.iload_n 1, 1) := by decide +kernel
theorem d_MO_hits_40 : decode b_MO_hits 40 = .ok (.ireturn, 1) := by decide +kernel
theorem d_MO_seek_0 : decode b_MO_seek 0 = .ok (.iconst 0, 1) := by decide +kernel
theorem d_MO_seek_1 : decode b_MO_seek 1 = .ok (.istore_n 1, 1) := by decide +kernel
theorem d_MO_seek_2 : decode b_MO_seek 2 = .ok (.iload_n 1, 1) := by decide +kernel
theorem d_MO_seek_3 : decode b_MO_seek 3 = .ok (.aload_n 0, 1) := by decide +kernel
theorem d_MO_seek_4 : decode b_MO_seek 4 = .ok (.getfield 31, 3) := by decide +kernel
theorem d_MO_seek_7 : decode b_MO_seek 7 = .ok (.if_icmp .ge 21, 3) := by decide +kernel
theorem d_MO_seek_10 : decode b_MO_seek 10 = .ok (.aload_n 0, 1) := by decide +kernel
theorem d_MO_seek_11 : decode b_MO_seek 11 = .ok (.getfield 19, 3) := by decide +kernel
theorem d_MO_seek_14 : decode b_MO_seek 14 = .ok (.iload_n 1, 1) := by decide +kernel
theorem d_MO_seek_15 : decode b_MO_seek 15 = .ok (.aload_n 0, 1) := by decide +kernel
theorem d_MO_seek_16 : decode b_MO_seek 16 = .ok (.getfield 7, 3) := by decide +kernel
theorem d_MO_seek_19 : decode b_MO_seek 19 = .ok (.iload_n 1, 1) := by decide +kernel
theorem d_MO_seek_20 : decode b_MO_seek 20 = .ok (.iaload, 1) := by decide +kernel
theorem d_MO_seek_21 : decode b_MO_seek 21 = .ok (.iastore, 1) := by decide +kernel
theorem d_MO_seek_22 : decode b_MO_seek 22 = .ok (.iinc 1 1, 3) := by decide +kernel
theorem d_MO_seek_25 : decode b_MO_seek 25 = .ok (.goto (-23), 3) := by decide +kernel
theorem d_MO_seek_28 : decode b_MO_seek 28 = .ok (.aload_n 0, 1) := by decide +kernel
theorem d_MO_seek_29 : decode b_MO_seek 29 = .ok (.aload_n 0, 1) := by decide +kernel
theorem d_MO_seek_30 : decode b_MO_seek 30 = .ok (.getfield 31, 3) := by decide +kernel
theorem d_MO_seek_33 : decode b_MO_seek 33 = .ok (.putfield 58, 3) := by decide +kernel
theorem d_MO_seek_36 : decode b_MO_seek 36 = .ok (.aload_n 0, 1) := by decide +kernel
theorem d_MO_seek_37 : decode b_MO_seek 37 = .ok (.iconst 0, 1) := by decide +kernel
theorem d_MO_seek_38 : decode b_MO_seek 38 = .ok (.putfield 31, 3) := by decide +kernel
theorem d_MO_seek_41 : decode b_MO_seek 41 = .ok (.aload_n 0, 1) := by decide +kernel
theorem d_MO_seek_42 : decode b_MO_seek 42 = .ok (.invokevirtual 64, 3) := by decide +kernel
theorem d_MO_seek_45 : decode b_MO_seek 45 = .ok (.ireturn, 1) := by decide +kernel
theorem d_MO_extend_0 : decode b_MO_extend 0 = .ok (.iload_n 1, 1) := by decide +kernel
theorem d_MO_extend_1 : decode b_MO_extend 1 = .ok (.ifCond .lt 10, 3) := by decide +kernel
theorem d_MO_extend_4 : decode b_MO_extend 4 = .ok (.iload_n 1, 1) := by decide +kernel
theorem d_MO_extend_5 : decode b_MO_extend 5 = .ok (.sipush 255, 3) := by decide +kernel
theorem d_MO_extend_8 : decode b_MO_extend 8 = .ok (.if_icmp .le 5, 3) := by decide +kernel
theorem d_MO_extend_11 : decode b_MO_extend 11 = .ok (.iconst (-1), 1) := by decide +kernel
theorem d_MO_extend_12 : decode b_MO_extend 12 = .ok (.ireturn, 1) := by decide +kernel
theorem d_MO_extend_13 : decode b_MO_extend 13 = .ok (.aload_n 0, 1) := by decide +kernel
theorem d_MO_extend_14 : decode b_MO_extend 14 = .ok (.getfield 58, 3) := by decide +kernel
theorem d_MO_extend_17 : decode b_MO_extend 17 = .ok (.bipush 96, 2) := by decide +kernel
theorem d_MO_extend_19 : decode b_MO_extend 19 = .ok (.if_icmp .ne 6, 3) := by decide +kernel
theorem d_MO_extend_22 : decode b_MO_extend 22 = .ok (.bipush (-3), 2) := by decide +kernel
theorem d_MO_extend_24 : decode b_MO_extend 24 = .ok (.ireturn, 1) := by decide +kernel
theorem d_MO_extend_25 : decode b_MO_extend 25 = .ok (.aload_n 0, 1) := by decide +kernel
theorem d_MO_extend_26 : decode b_MO_extend 26 = .ok (.getfield 58, 3) := by decide +kernel
theorem d_MO_extend_29 : decode b_MO_extend 29 = .ok (.istore_n 2, 1) := by decide +kernel
theorem d_MO_extend_30 : decode b_MO_extend 30 = .ok (.iload_n 2, 1) := by decide +kernel
theorem d_MO_extend_31 : decode b_MO_extend 31 = .ok (.ifCond .le 23, 3) := by decide +kernel
theorem d_MO_extend_34 : decode b_MO_extend 34 = .ok (.aload_n 0, 1) := by decide +kernel
theorem d_MO_extend_35 : decode b_MO_extend 35 = .ok (.getfield 19, 3) := by decide +kernel
theorem d_MO_extend_38 : decode b_MO_extend 38 = .ok (.iload_n 2, 1) := by decide +kernel
theorem d_MO_extend_39 : decode b_MO_extend 39 = .ok (.aload_n 0, 1) := by decide +kernel
theorem d_MO_extend_40 : decode b_MO_extend 40 = .ok (.getfield 19, 3) := by decide +kernel
theorem d_MO_extend_43 : decode b_MO_extend 43 = .ok (.iload_n 2, 1) := by decide +kernel
theorem d_MO_extend_44 : decode b_MO_extend 44 = .ok (.iconst 1, 1) := by decide +kernel
theorem d_MO_extend_45 : decode b_MO_extend 45 = .ok (.isub, 1) := by decide +kernel
theorem d_MO_extend_46 : decode b_MO_extend 46 = .ok (.iaload, 1) := by decide +kernel
theorem d_MO_extend_47 : decode b_MO_extend 47 = .ok (.iastore, 1) := by decide +kernel
theorem d_MO_extend_48 : decode b_MO_extend 48 = .ok (.iinc 2 (-1), 3) := by decide +kernel
theorem d_MO_extend_51 : decode b_MO_extend 51 = .ok (.goto (-21), 3) := by decide +kernel
theorem d_MO_extend_54 : decode b_MO_extend 54 = .ok (.aload_n 0, 1) := by decide +kernel
theorem d_MO_extend_55 : decode b_MO_extend 55 = .ok (.getfield 19, 3) := by decide +kernel
theorem d_MO_extend_58 : decode b_MO_extend 58 = .ok (.iconst 0, 1) := by decide +kernel
theorem d_MO_extend_59 : decode b_MO_extend 59 = .ok (.iload_n 1, 1) := by decide +kernel
theorem d_MO_extend_60 : decode b_MO_extend 60 = .ok (.iastore, 1) := by decide +kernel
theorem d_MO_extend_61 : decode b_MO_extend 61 = .ok (.aload_n 0, 1) := by decide +kernel
theorem d_MO_extend_62 : decode b_MO_extend 62 = .ok (.dup, 1) := by decide +kernel
theorem d_MO_extend_63 : decode b_MO_extend 63 = .ok (.getfield 58, 3) := by decide +kernel
theorem d_MO_extend_66 : decode b_MO_extend 66 = .ok (.iconst 1, 1) := by decide +kernel
theorem d_MO_extend_67 : decode b_MO_extend 67 = .ok (.iadd, 1) := by decide +kernel
theorem d_MO_extend_68 : decode b_MO_extend 68 = .ok (.putfield 58, 3) := by decide +kernel
theorem d_MO_extend_71 : decode b_MO_extend 71 = .ok (.aload_n 0, 1) := by decide +kernel
theorem d_MO_extend_72 : decode b_MO_extend 72 = .ok (.invokevirtual 64, 3) := by decide +kernel
theorem d_MO_extend_75 : decode b_MO_extend 75 = .ok (.ireturn, 1) := by decide +kernel
theorem d_MO_before_0 : decode b_MO_before 0 = .ok (.iconst 0, 1) := by decide +kernel
theorem d_MO_before_1 : decode b_MO_before 1 = .ok (.istore_n 1, 1) := by decide +kernel
theorem d_MO_before_2 : decode b_MO_before 2 = .ok (.iconst 0, 1) := by decide +kernel
theorem d_MO_before_3 : decode b_MO_before 3 = .ok (.istore_n 2, 1) := by decide +kernel
theorem d_MO_before_4 : decode b_MO_before 4 = .ok (.iload_n 2, 1) := by decide +kernel
theorem d_MO_before_5 : decode b_MO_before 5 = .ok (.aload_n 0, 1) := by decide +kernel
theorem d_MO_before_6 : decode b_MO_before 6 = .ok (.getfield 37, 3) := by decide +kernel
theorem d_MO_before_9 : decode b_MO_before 9 = .ok (.if_icmp .gt 59, 3) := by decide +kernel
theorem d_MO_before_12 : decode b_MO_before 12 = .ok (.aload_n 0, 1) := by decide +kernel
theorem d_MO_before_13 : decode b_MO_before 13 = .ok (.iload_n 2, 1) := by decide +kernel
theorem d_MO_before_14 : decode b_MO_before 14 = .ok (.iconst 0, 1) := by decide +kernel
theorem d_MO_before_15 : decode b_MO_before 15 = .ok (.invokevirtual 61, 3) := by decide +kernel
theorem d_MO_before_18 : decode b_MO_before 18 = .ok (.istore_n 3, 1) := by decide +kernel
theorem d_MO_before_19 : decode b_MO_before 19 = .ok (.iload_n 1, 1) := by decide +kernel
theorem d_MO_before_20 : decode b_MO_before 20 = .ok (.iload_n 3, 1) := by decide +kernel
theorem d_MO_before_21 : decode b_MO_before 21 = .ok (.aload_n 0, 1) := by decide +kernel
theorem d_MO_before_22 : decode b_MO_before 22 = .ok (.getfield 58, 3) := by decide +kernel
theorem d_MO_before_25 : decode b_MO_before 25 = .ok (.if_icmp .ge 34, 3) := by decide +kernel
theorem d_MO_before_28 : decode b_MO_before 28 = .ok (.iload_n 2, 1) := by decide +kernel
theorem d_MO_before_29 : decode b_MO_before 29 = .ok (.iload_n 3, 1) := by decide +kernel
theorem d_MO_before_30 : decode b_MO_before 30 = .ok (.iadd, 1) := by decide +kernel
theorem d_MO_before_31 : decode b_MO_before 31 = .ok (.aload_n 0, 1) := by decide +kernel
theorem d_MO_before_32 : decode b_MO_before 32 = .ok (.getfield 37, 3) := by decide +kernel
theorem d_MO_before_35 : decode b_MO_before 35 = .ok (.if_icmp .eq 20, 3) := by decide +kernel
theorem d_MO_before_38 : decode b_MO_before 38 = .ok (.aload_n 0, 1) := by decide +kernel
theorem d_MO_before_39 : decode b_MO_before 39 = .ok (.getfield 13, 3) := by decide +kernel
theorem d_MO_before_42 : decode b_MO_before 42 = .ok (.iload_n 2, 1) := by decide +kernel
theorem d_MO_before_43 : decode b_MO_before 43 = .ok (.iload_n 3, 1) := by decide +kernel
theorem d_MO_before_44 : decode b_MO_before 44 = .ok (.iadd, 1) := by decide +kernel
theorem d_MO_before_45 : decode b_MO_before 45 = .ok (.iaload, 1) := by decide +kernel
theorem d_MO_before_46 : decode b_MO_before 46 = .ok (.aload_n 0, 1) := by decide +kernel
theorem d_MO_before_47 : decode b_MO_before 47 = .ok (.getfield 19, 3) := by decide +kernel
theorem d_MO_before_50 : decode b_MO_before 50 = .ok (.iload_n 3, 1) := by decide +kernel
theorem d_MO_before_51 : decode b_MO_before 51 = .ok (.iaload, 1) := by decide +kernel
theorem d_MO_before_52 : decode b_MO_before 52 = .ok (.if_icmp .ge 7, 3) := by decide +kernel
theorem d_MO_before_55 : decode b_MO_before 55 = .ok (.iconst 1, 1) := by decide +kernel
theorem d_MO_before_56 : decode b_MO_before 56 = .ok (.goto 4, 3) := by decide +kernel
theorem d_MO_before_59 : decode b_MO_before 59 = .ok (.iconst 0, 1) := by decide +kernel
theorem d_MO_before_60 : decode b_MO_before 60 = .ok (.iadd, 1) := by decide +kernel
theorem d_MO_before_61 : decode b_MO_before 61 = .ok (.istore_n 1, 1) := by decide +kernel
theorem d_MO_before_62 : decode b_MO_before 62 = .ok (.iinc 2 1, 3) := by decide +kernel
theorem d_MO_before_65 : decode b_MO_before 65 = .ok (.goto (-61), 3) := by decide +kernel
theorem d_MO_before_68 : decode b_MO_before 68 = .ok (.iload_n 1, 1) := by decide +kernel
theorem d_MO_before_69 : decode b_MO_before 69 = .ok (.ireturn, 1) := by decide +kernel
theorem d_MO_hit_0 : decode b_MO_hit 0 = .ok (.iload_n 1, 1) := by decide +kernel
theorem d_MO_hit_1 : decode b_MO_hit 1 = .ok (.istore_n 2, 1) := by decide +kernel
theorem d_MO_hit_2 : decode b_MO_hit 2 = .ok (.iconst 0, 1) := by decide +kernel
theorem d_MO_hit_3 : decode b_MO_hit 3 = .ok (.istore_n 3, 1) := by decide +kernel
theorem d_MO_hit_4 : decode b_MO_hit 4 = .ok (.iload_n 3, 1) := by decide +kernel
theorem d_MO_hit_5 : decode b_MO_hit 5 = .ok (.aload_n 0, 1) := by decide +kernel
theorem d_MO_hit_6 : decode b_MO_hit 6 = .ok (.getfield 37, 3) := by decide +kernel
theorem d_MO_hit_9 : decode b_MO_hit 9 = .ok (.if_icmp .gt 35, 3) := by decide +kernel
theorem d_MO_hit_12 : decode b_MO_hit 12 = .ok (.iload_n 1, 1) := by decide +kernel
theorem d_MO_hit_13 : decode b_MO_hit 13 = .ok (.ifCond .lt 31, 3) := by decide +kernel
theorem d_MO_hit_16 : decode b_MO_hit 16 = .ok (.aload_n 0, 1) := by decide +kernel
theorem d_MO_hit_17 : decode b_MO_hit 17 = .ok (.iload_n 3, 1) := by decide +kernel
theorem d_MO_hit_18 : decode b_MO_hit 18 = .ok (.iconst 0, 1) := by decide +kernel
theorem d_MO_hit_19 : decode b_MO_hit 19 = .ok (.invokevirtual 61, 3) := by decide +kernel
theorem d_MO_hit_22 : decode b_MO_hit 22 = .ok (.aload_n 0, 1) := by decide +kernel
theorem d_MO_hit_23 : decode b_MO_hit 23 = .ok (.getfield 58, 3) := by decide +kernel
theorem d_MO_hit_26 : decode b_MO_hit 26 = .ok (.if_icmp .ne 12, 3) := by decide +kernel
theorem d_MO_hit_29 : decode b_MO_hit 29 = .ok (.iload_n 2, 1) := by decide +kernel
theorem d_MO_hit_30 : decode b_MO_hit 30 = .ok (.ifCond .ne 5, 3) := by decide +kernel
theorem d_MO_hit_33 : decode b_MO_hit 33 = .ok (.iload_n 3, 1) := by decide +kernel
theorem d_MO_hit_34 : decode b_MO_hit 34 = .ok (.ireturn, 1) := by decide +kernel
theorem d_MO_hit_35 : decode b_MO_hit 35 = .ok (.iinc 2 (-1), 3) := by decide +kernel
theorem d_MO_hit_38 : decode b_MO_hit 38 = .ok (.iinc 3 1, 3) := by decide +kernel
theorem d_MO_hit_41 : decode b_MO_hit 41 = .ok (.goto (-37), 3) := by decide +kernel
end
section
theorem d_MO_hit_44 : decode b_MO_hit 44 = .ok (.iconst (-1), 1) := by decide +kernel
theorem d_MO_hit_45 : decode b_MO_hit 45 = .ok (.ireturn, 1) := by decide +kernel
theorem d_MO_match_0 : decode b_MO_match 0 = .ok (.iload_n 1, 1) := by decide +kernel
theorem d_MO_match_1 : decode b_MO_match 1 = .ok (.ifCond .lt 11, 3) := by decide +kernel
theorem d_MO_match_4 : decode b_MO_match 4 = .ok (.iload_n 1, 1) := by decide +kernel
theorem d_MO_match_5 : decode b_MO_match 5 = .ok (.aload_n 0, 1) := by decide +kernel
theorem d_MO_match_6 : decode b_MO_match 6 = .ok (.getfield 58, 3) := by decide +kernel
theorem d_MO_match_9 : decode b_MO_match 9 = .ok (.if_icmp .le 5, 3) := by decide +kernel
theorem d_MO_match_12 : decode b_MO_match 12 = .ok (.iconst (-1), 1) := by decide +kernel
theorem d_MO_match_13 : decode b_MO_match 13 = .ok (.ireturn, 1) := by decide +kernel
theorem d_MO_match_14 : decode b_MO_match 14 = .ok (.iconst 0, 1) := by decide +kernel
theorem d_MO_match_15 : decode b_MO_match 15 = .ok (.istore_n 2, 1) := by decide +kernel
theorem d_MO_match_16 : decode b_MO_match 16 = .ok (.iconst 0, 1) := by decide +kernel
theorem d_MO_match_17 : decode b_MO_match 17 = .ok (.istore_n 3, 1) := by decide +kernel
theorem d_MO_match_18 : decode b_MO_match 18 = .ok (.iload_n 3, 1) := by decide +kernel
theorem d_MO_match_19 : decode b_MO_match 19 = .ok (.aload_n 0, 1) := by decide +kernel
theorem d_MO_match_20 : decode b_MO_match 20 = .ok (.getfield 37, 3) := by decide +kernel
theorem d_MO_match_23 : decode b_MO_match 23 = .ok (.if_icmp .gt 30, 3) := by decide +kernel
theorem d_MO_match_26 : decode b_MO_match 26 = .ok (.aload_n 0, 1) := by decide +kernel
theorem d_MO_match_27 : decode b_MO_match 27 = .ok (.iload_n 3, 1) := by decide +kernel
theorem d_MO_match_28 : decode b_MO_match 28 = .ok (.iload_n 1, 1) := by decide +kernel
theorem d_MO_match_29 : decode b_MO_match 29 = .ok (.invokevirtual 61, 3) := by decide +kernel
theorem d_MO_match_32 : decode b_MO_match 32 = .ok (.istore 4, 2) := by decide +kernel
theorem d_MO_match_34 : decode b_MO_match 34 = .ok (.iload 4, 2) := by decide +kernel
theorem d_MO_match_36 : decode b_MO_match 36 = .ok (.iload_n 2, 1) := by decide +kernel
theorem d_MO_match_37 : decode b_MO_match 37 = .ok (.if_icmp .le 8, 3) := by decide +kernel
theorem d_MO_match_40 : decode b_MO_match 40 = .ok (.iload 4, 2) := by decide +kernel
theorem d_MO_match_42 : decode b_MO_match 42 = .ok (.goto 4, 3) := by decide +kernel
theorem d_MO_match_45 : decode b_MO_match 45 = .ok (.iload_n 2, 1) := by decide +kernel
theorem d_MO_match_46 : decode b_MO_match 46 = .ok (.istore_n 2, 1) := by decide +kernel
theorem d_MO_match_47 : decode b_MO_match 47 = .ok (.iinc 3 1, 3) := by decide +kernel
theorem d_MO_match_50 : decode b_MO_match 50 = .ok (.goto (-32), 3) := by decide +kernel
theorem d_MO_match_53 : decode b_MO_match 53 = .ok (.iload_n 2, 1) := by decide +kernel
theorem d_MO_match_54 : decode b_MO_match 54 = .ok (.ireturn, 1) := by decide +kernel
theorem d_MO_longer_0 : decode b_MO_longer 0 = .ok (.iconst 1, 1) := by decide +kernel
theorem d_MO_longer_1 : decode b_MO_longer 1 = .ok (.istore_n 3, 1) := by decide +kernel
theorem d_MO_longer_2 : decode b_MO_longer 2 = .ok (.iconst 0, 1) := by decide +kernel
theorem d_MO_longer_3 : decode b_MO_longer 3 = .ok (.istore 4, 2) := by decide +kernel
theorem d_MO_longer_5 : decode b_MO_longer 5 = .ok (.iload 4, 2) := by decide +kernel
theorem d_MO_longer_7 : decode b_MO_longer 7 = .ok (.iload_n 2, 1) := by decide +kernel
theorem d_MO_longer_8 : decode b_MO_longer 8 = .ok (.if_icmp .ge 65, 3) := by decide +kernel
theorem d_MO_longer_11 : decode b_MO_longer 11 = .ok (.iload_n 3, 1) := by decide +kernel
theorem d_MO_longer_12 : decode b_MO_longer 12 = .ok (.aload_n 0, 1) := by decide +kernel
theorem d_MO_longer_13 : decode b_MO_longer 13 = .ok (.getfield 25, 3) := by decide +kernel
theorem d_MO_longer_16 : decode b_MO_longer 16 = .ok (.iload 4, 2) := by decide +kernel
theorem d_MO_longer_18 : decode b_MO_longer 18 = .ok (.iaload, 1) := by decide +kernel
theorem d_MO_longer_19 : decode b_MO_longer 19 = .ok (.ifCond .lt 45, 3) := by decide +kernel
theorem d_MO_longer_22 : decode b_MO_longer 22 = .ok (.aload_n 0, 1) := by decide +kernel
theorem d_MO_longer_23 : decode b_MO_longer 23 = .ok (.getfield 25, 3) := by decide +kernel
theorem d_MO_longer_26 : decode b_MO_longer 26 = .ok (.iload 4, 2) := by decide +kernel
theorem d_MO_longer_28 : decode b_MO_longer 28 = .ok (.iaload, 1) := by decide +kernel
theorem d_MO_longer_29 : decode b_MO_longer 29 = .ok (.aload_n 0, 1) := by decide +kernel
theorem d_MO_longer_30 : decode b_MO_longer 30 = .ok (.getfield 25, 3) := by decide +kernel
theorem d_MO_longer_33 : decode b_MO_longer 33 = .ok (.iload_n 1, 1) := by decide +kernel
theorem d_MO_longer_34 : decode b_MO_longer 34 = .ok (.iaload, 1) := by decide +kernel
theorem d_MO_longer_35 : decode b_MO_longer 35 = .ok (.if_icmp .lt 25, 3) := by decide +kernel
theorem d_MO_longer_38 : decode b_MO_longer 38 = .ok (.aload_n 0, 1) := by decide +kernel
theorem d_MO_longer_39 : decode b_MO_longer 39 = .ok (.getfield 25, 3) := by decide +kernel
theorem d_MO_longer_42 : decode b_MO_longer 42 = .ok (.iload 4, 2) := by decide +kernel
theorem d_MO_longer_44 : decode b_MO_longer 44 = .ok (.iaload, 1) := by decide +kernel
theorem d_MO_longer_45 : decode b_MO_longer 45 = .ok (.aload_n 0, 1) := by decide +kernel
theorem d_MO_longer_46 : decode b_MO_longer 46 = .ok (.getfield 25, 3) := by decide +kernel
theorem d_MO_longer_49 : decode b_MO_longer 49 = .ok (.iload_n 1, 1) := by decide +kernel
theorem d_MO_longer_50 : decode b_MO_longer 50 = .ok (.iaload, 1) := by decide +kernel
theorem d_MO_longer_51 : decode b_MO_longer 51 = .ok (.if_icmp .ne 13, 3) := by decide +kernel
theorem d_MO_longer_54 : decode b_MO_longer 54 = .ok (.iload 4, 2) := by decide +kernel
theorem d_MO_longer_56 : decode b_MO_longer 56 = .ok (.iload_n 1, 1) := by decide +kernel
theorem d_MO_longer_57 : decode b_MO_longer 57 = .ok (.if_icmp .ge 7, 3) := by decide +kernel
theorem d_MO_longer_60 : decode b_MO_longer 60 = .ok (.iconst 1, 1) := by decide +kernel
theorem d_MO_longer_61 : decode b_MO_longer 61 = .ok (.goto 4, 3) := by decide +kernel
theorem d_MO_longer_64 : decode b_MO_longer 64 = .ok (.iconst 0, 1) := by decide +kernel
theorem d_MO_longer_65 : decode b_MO_longer 65 = .ok (.iadd, 1) := by decide +kernel
theorem d_MO_longer_66 : decode b_MO_longer 66 = .ok (.istore_n 3, 1) := by decide +kernel
theorem d_MO_longer_67 : decode b_MO_longer 67 = .ok (.iinc 4 1, 3) := by decide +kernel
theorem d_MO_longer_70 : decode b_MO_longer 70 = .ok (.goto (-65), 3) := by decide +kernel
theorem d_MO_longer_73 : decode b_MO_longer 73 = .ok (.iload_n 3, 1) := by decide +kernel
theorem d_MO_longer_74 : decode b_MO_longer 74 = .ok (.ireturn, 1) := by decide +kernel
theorem d_MO_turnBack_0 : decode b_MO_turnBack 0 = .ok (.iconst 0, 1) := by decide +kernel
theorem d_MO_turnBack_1 : decode b_MO_turnBack 1 = .ok (.istore_n 2, 1) := by decide +kernel
theorem d_MO_turnBack_2 : decode b_MO_turnBack 2 = .ok (.iload_n 1, 1) := by decide +kernel
theorem d_MO_turnBack_3 : decode b_MO_turnBack 3 = .ok (.iconst 1, 1) := by decide +kernel
theorem d_MO_turnBack_4 : decode b_MO_turnBack 4 = .ok (.isub, 1) := by decide +kernel
theorem d_MO_turnBack_5 : decode b_MO_turnBack 5 = .ok (.istore_n 3, 1) := by decide +kernel
theorem d_MO_turnBack_6 : decode b_MO_turnBack 6 = .ok (.iload_n 3, 1) := by decide +kernel
theorem d_MO_turnBack_7 : decode b_MO_turnBack 7 = .ok (.ifCond .lt 41, 3) := by decide +kernel
theorem d_MO_turnBack_10 : decode b_MO_turnBack 10 = .ok (.aload_n 0, 1) := by decide +kernel
theorem d_MO_turnBack_11 : decode b_MO_turnBack 11 = .ok (.getfield 25, 3) := by decide +kernel
theorem d_MO_turnBack_14 : decode b_MO_turnBack 14 = .ok (.iload_n 2, 1) := by decide +kernel
theorem d_MO_turnBack_15 : decode b_MO_turnBack 15 = .ok (.iaload, 1) := by decide +kernel
theorem d_MO_turnBack_16 : decode b_MO_turnBack 16 = .ok (.ifCond .ge 5, 3) := by decide +kernel
theorem d_MO_turnBack_19 : decode b_MO_turnBack 19 = .ok (.iconst 0, 1) := by decide +kernel
theorem d_MO_turnBack_20 : decode b_MO_turnBack 20 = .ok (.ireturn, 1) := by decide +kernel
theorem d_MO_turnBack_21 : decode b_MO_turnBack 21 = .ok (.aload_n 0, 1) := by decide +kernel
theorem d_MO_turnBack_22 : decode b_MO_turnBack 22 = .ok (.getfield 13, 3) := by decide +kernel
theorem d_MO_turnBack_25 : decode b_MO_turnBack 25 = .ok (.iload_n 3, 1) := by decide +kernel
theorem d_MO_turnBack_26 : decode b_MO_turnBack 26 = .ok (.aload_n 0, 1) := by decide +kernel
theorem d_MO_turnBack_27 : decode b_MO_turnBack 27 = .ok (.getfield 25, 3) := by decide +kernel
theorem d_MO_turnBack_30 : decode b_MO_turnBack 30 = .ok (.iload_n 2, 1) := by decide +kernel
theorem d_MO_turnBack_31 : decode b_MO_turnBack 31 = .ok (.iaload, 1) := by decide +kernel
theorem d_MO_turnBack_32 : decode b_MO_turnBack 32 = .ok (.iastore, 1) := by decide +kernel
theorem d_MO_turnBack_33 : decode b_MO_turnBack 33 = .ok (.aload_n 0, 1) := by decide +kernel
theorem d_MO_turnBack_34 : decode b_MO_turnBack 34 = .ok (.iload_n 2, 1) := by decide +kernel
theorem d_MO_turnBack_35 : decode b_MO_turnBack 35 = .ok (.iload_n 1, 1) := by decide +kernel
theorem d_MO_turnBack_36 : decode b_MO_turnBack 36 = .ok (.iconst 1, 1) := by decide +kernel
theorem d_MO_turnBack_37 : decode b_MO_turnBack 37 = .ok (.iadd, 1) := by decide +kernel
theorem d_MO_turnBack_38 : decode b_MO_turnBack 38 = .ok (.invokevirtual 68, 3) := by decide +kernel
theorem d_MO_turnBack_41 : decode b_MO_turnBack 41 = .ok (.istore_n 2, 1) := by decide +kernel
theorem d_MO_turnBack_42 : decode b_MO_turnBack 42 = .ok (.iinc 3 (-1), 3) := by decide +kernel
theorem d_MO_turnBack_45 : decode b_MO_turnBack 45 = .ok (.goto (-39), 3) := by decide +kernel
theorem d_MO_turnBack_48 : decode b_MO_turnBack 48 = .ok (.aload_n 0, 1) := by decide +kernel
theorem d_MO_turnBack_49 : decode b_MO_turnBack 49 = .ok (.getfield 25, 3) := by decide +kernel
theorem d_MO_turnBack_52 : decode b_MO_turnBack 52 = .ok (.iload_n 2, 1) := by decide +kernel
theorem d_MO_turnBack_53 : decode b_MO_turnBack 53 = .ok (.iaload, 1) := by decide +kernel
theorem d_MO_turnBack_54 : decode b_MO_turnBack 54 = .ok (.ifCond .ge 7, 3) := by decide +kernel
theorem d_MO_turnBack_57 : decode b_MO_turnBack 57 = .ok (.iconst 1, 1) := by decide +kernel
theorem d_MO_turnBack_58 : decode b_MO_turnBack 58 = .ok (.goto 4, 3) := by decide +kernel
theorem d_MO_turnBack_61 : decode b_MO_turnBack 61 = .ok (.iconst 0, 1) := by decide +kernel
theorem d_MO_turnBack_62 : decode b_MO_turnBack 62 = .ok (.ireturn, 1) := by decide +kernel
theorem d_MO_revert_0 : decode b_MO_revert 0 = .ok (.iload_n 1, 1) := by decide +kernel
theorem d_MO_revert_1 : decode b_MO_revert 1 = .ok (.ifCond .lt 11, 3) := by decide +kernel
theorem d_MO_revert_4 : decode b_MO_revert 4 = .ok (.iload_n 1, 1) := by decide +kernel
theorem d_MO_revert_5 : decode b_MO_revert 5 = .ok (.aload_n 0, 1) := by decide +kernel
theorem d_MO_revert_6 : decode b_MO_revert 6 = .ok (.getfield 31, 3) := by decide +kernel
theorem d_MO_revert_9 : decode b_MO_revert 9 = .ok (.if_icmp .le 5, 3) := by decide +kernel
theorem d_MO_revert_12 : decode b_MO_revert 12 = .ok (.iconst (-1), 1) := by decide +kernel
theorem d_MO_revert_13 : decode b_MO_revert 13 = .ok (.ireturn, 1) := by decide +kernel
theorem d_MO_revert_14 : decode b_MO_revert 14 = .ok (.aload_n 0, 1) := by decide +kernel
theorem d_MO_revert_15 : decode b_MO_revert 15 = .ok (.getfield 31, 3) := by decide +kernel
theorem d_MO_revert_18 : decode b_MO_revert 18 = .ok (.istore_n 2, 1) := by decide +kernel
theorem d_MO_revert_19 : decode b_MO_revert 19 = .ok (.iconst 0, 1) := by decide +kernel
theorem d_MO_revert_20 : decode b_MO_revert 20 = .ok (.istore_n 3, 1) := by decide +kernel
theorem d_MO_revert_21 : decode b_MO_revert 21 = .ok (.iload_n 3, 1) := by decide +kernel
theorem d_MO_revert_22 : decode b_MO_revert 22 = .ok (.iload_n 2, 1) := by decide +kernel
theorem d_MO_revert_23 : decode b_MO_revert 23 = .ok (.if_icmp .gt 46, 3) := by decide +kernel
theorem d_MO_revert_26 : decode b_MO_revert 26 = .ok (.aload_n 0, 1) := by decide +kernel
theorem d_MO_revert_27 : decode b_MO_revert 27 = .ok (.getfield 25, 3) := by decide +kernel
theorem d_MO_revert_30 : decode b_MO_revert 30 = .ok (.iload_n 3, 1) := by decide +kernel
theorem d_MO_revert_31 : decode b_MO_revert 31 = .ok (.iload_n 3, 1) := by decide +kernel
theorem d_MO_revert_32 : decode b_MO_revert 32 = .ok (.iload_n 1, 1) := by decide +kernel
theorem d_MO_revert_33 : decode b_MO_revert 33 = .ok (.if_icmp .ge 12, 3) := by decide +kernel
theorem d_MO_revert_36 : decode b_MO_revert 36 = .ok (.aload_n 0, 1) := by decide +kernel
theorem d_MO_revert_37 : decode b_MO_revert 37 = .ok (.getfield 7, 3) := by decide +kernel
theorem d_MO_revert_40 : decode b_MO_revert 40 = .ok (.iload_n 3, 1) := by decide +kernel
theorem d_MO_revert_41 : decode b_MO_revert 41 = .ok (.iaload, 1) := by decide +kernel
theorem d_MO_revert_42 : decode b_MO_revert 42 = .ok (.goto 20, 3) := by decide +kernel
theorem d_MO_revert_45 : decode b_MO_revert 45 = .ok (.iload_n 3, 1) := by decide +kernel
theorem d_MO_revert_46 : decode b_MO_revert 46 = .ok (.iload_n 1, 1) := by decide +kernel
theorem d_MO_revert_47 : decode b_MO_revert 47 = .ok (.if_icmp .ne 7, 3) := by decide +kernel
theorem d_MO_revert_50 : decode b_MO_revert 50 = .ok (.iconst (-1), 1) := by decide +kernel
theorem d_MO_revert_51 : decode b_MO_revert 51 = .ok (.goto 11, 3) := by decide +kernel
theorem d_MO_revert_54 : decode b_MO_revert 54 = .ok (.aload_n 0, 1) := by decide +kernel
theorem d_MO_revert_55 : decode b_MO_revert 55 = .ok (.getfield 7, 3) := by decide +kernel
theorem d_MO_revert_58 : decode b_MO_revert 58 = .ok (.iload_n 3, 1) := by decide +kernel
theorem d_MO_revert_59 : decode b_MO_revert 59 = .ok (.iconst 1, 1) := by decide +kernel
theorem d_MO_revert_60 : decode b_MO_revert 60 = .ok (.isub, 1) := by decide +kernel
theorem d_MO_revert_61 : decode b_MO_revert 61 = .ok (.iaload, 1) := by decide +kernel
theorem d_MO_revert_62 : decode b_MO_revert 62 = .ok (.iastore, 1) := by decide +kernel
theorem d_MO_revert_63 : decode b_MO_revert 63 = .ok (.iinc 3 1, 3) := by decide +kernel
theorem d_MO_revert_66 : decode b_MO_revert 66 = .ok (.goto (-45), 3) := by decide +kernel
theorem d_MO_revert_69 : decode b_MO_revert 69 = .ok (.aload_n 0, 1) := by decide +kernel
theorem d_MO_revert_70 : decode b_MO_revert 70 = .ok (.iconst 0, 1) := by decide +kernel
theorem d_MO_revert_71 : decode b_MO_revert 71 = .ok (.putfield 31, 3) := by decide +kernel
theorem d_MO_revert_74 : decode b_MO_revert 74 = .ok (.aload_n 0, 1) := by decide +kernel
theorem d_MO_revert_75 : decode b_MO_revert 75 = .ok (.getfield 37, 3) := by decide +kernel
theorem d_MO_revert_78 : decode b_MO_revert 78 = .ok (.istore_n 3, 1) := by decide +kernel
theorem d_MO_revert_79 : decode b_MO_revert 79 = .ok (.iconst 0, 1) := by decide +kernel
theorem d_MO_revert_80 : decode b_MO_revert 80 = .ok (.istore 4, 2) := by decide +kernel
theorem d_MO_revert_82 : decode b_MO_revert 82 = .ok (.iload 4, 2) := by decide +kernel
theorem d_MO_revert_84 : decode b_MO_revert 84 = .ok (.iload_n 3, 1) := by decide +kernel
theorem d_MO_revert_85 : decode b_MO_revert 85 = .ok (.if_icmp .ge 23, 3) := by decide +kernel
theorem d_MO_revert_88 : decode b_MO_revert 88 = .ok (.aload_n 0, 1) := by decide +kernel
theorem d_MO_revert_89 : decode b_MO_revert 89 = .ok (.getfield 28, 3) := by decide +kernel
theorem d_MO_revert_92 : decode b_MO_revert 92 = .ok (.iload 4, 2) := by decide +kernel
theorem d_MO_revert_94 : decode b_MO_revert 94 = .ok (.aload_n 0, 1) := by decide +kernel
theorem d_MO_revert_95 : decode b_MO_revert 95 = .ok (.getfield 13, 3) := by decide +kernel
theorem d_MO_revert_98 : decode b_MO_revert 98 = .ok (.iload 4, 2) := by decide +kernel
theorem d_MO_revert_100 : decode b_MO_revert 100 = .ok (.iaload, 1) := by decide +kernel
theorem d_MO_revert_101 : decode b_MO_revert 101 = .ok (.iastore, 1) := by decide +kernel
theorem d_MO_revert_102 : decode b_MO_revert 102 = .ok (.iinc 4 1, 3) := by decide +kernel
theorem d_MO_revert_105 : decode b_MO_revert 105 = .ok (.goto (-23), 3) := by decide +kernel
theorem d_MO_revert_108 : decode b_MO_revert 108 = .ok (.aload_n 0, 1) := by decide +kernel
theorem d_MO_revert_109 : decode b_MO_revert 109 = .ok (.iload_n 2, 1) := by decide +kernel
theorem d_MO_revert_110 : decode b_MO_revert 110 = .ok (.putfield 37, 3) := by decide +kernel
theorem d_MO_revert_113 : decode b_MO_revert 113 = .ok (.aload_n 0, 1) := by decide +kernel
theorem d_MO_revert_114 : decode b_MO_revert 114 = .ok (.iload_n 2, 1) := by decide +kernel
theorem d_MO_revert_115 : decode b_MO_revert 115 = .ok (.invokevirtual 71, 3) := by decide +kernel
theorem d_MO_revert_118 : decode b_MO_revert 118 = .ok (.istore 4, 2) := by decide +kernel
theorem d_MO_revert_120 : decode b_MO_revert 120 = .ok (.iload 4, 2) := by decide +kernel
theorem d_MO_revert_122 : decode b_MO_revert 122 = .ok (.ifCond .eq 7, 3) := by decide +kernel
theorem d_MO_revert_125 : decode b_MO_revert 125 = .ok (.aload_n 0, 1) := by decide +kernel
theorem d_MO_revert_126 : decode b_MO_revert 126 = .ok (.invokevirtual 48, 3) := by decide +kernel
theorem d_MO_revert_129 : decode b_MO_revert 129 = .ok (.iconst 0, 1) := by decide +kernel
theorem d_MO_revert_130 : decode b_MO_revert 130 = .ok (.istore 5, 2) := by decide +kernel
theorem d_MO_revert_132 : decode b_MO_revert 132 = .ok (.iload 5, 2) := by decide +kernel
theorem d_MO_revert_134 : decode b_MO_revert 134 = .ok (.iload_n 2, 1) := by decide +kernel
theorem d_MO_revert_135 : decode b_MO_revert 135 = .ok (.if_icmp .gt 53, 3) := by decide +kernel
theorem d_MO_revert_138 : decode b_MO_revert 138 = .ok (.iload 4, 2) := by decide +kernel
theorem d_MO_revert_140 : decode b_MO_revert 140 = .ok (.ifCond .eq 48, 3) := by decide +kernel
theorem d_MO_revert_143 : decode b_MO_revert 143 = .ok (.aload_n 0, 1) := by decide +kernel
theorem d_MO_revert_144 : decode b_MO_revert 144 = .ok (.iload 5, 2) := by decide +kernel
theorem d_MO_revert_146 : decode b_MO_revert 146 = .ok (.invokevirtual 54, 3) := by decide +kernel
theorem d_MO_revert_149 : decode b_MO_revert 149 = .ok (.aload_n 0, 1) := by decide +kernel
theorem d_MO_revert_150 : decode b_MO_revert 150 = .ok (.getfield 25, 3) := by decide +kernel
theorem d_MO_revert_153 : decode b_MO_revert 153 = .ok (.iload 5, 2) := by decide +kernel
theorem d_MO_revert_155 : decode b_MO_revert 155 = .ok (.iaload, 1) := by decide +kernel
theorem d_MO_revert_156 : decode b_MO_revert 156 = .ok (.ifCond .ge 9, 3) := by decide +kernel
theorem d_MO_revert_159 : decode b_MO_revert 159 = .ok (.sipush 256, 3) := by decide +kernel
theorem d_MO_revert_162 : decode b_MO_revert 162 = .ok (.goto 10, 3) := by decide +kernel
theorem d_MO_revert_165 : decode b_MO_revert 165 = .ok (.aload_n 0, 1) := by decide +kernel
theorem d_MO_revert_166 : decode b_MO_revert 166 = .ok (.getfield 25, 3) := by decide +kernel
theorem d_MO_revert_169 : decode b_MO_revert 169 = .ok (.iload 5, 2) := by decide +kernel
theorem d_MO_revert_171 : decode b_MO_revert 171 = .ok (.iaload, 1) := by decide +kernel
theorem d_MO_revert_172 : decode b_MO_revert 172 = .ok (.if_icmp .ne 7, 3) := by decide +kernel
theorem d_MO_revert_175 : decode b_MO_revert 175 = .ok (.iconst 1, 1) := by decide +kernel
theorem d_MO_revert_176 : decode b_MO_revert 176 = .ok (.goto 4, 3) := by decide +kernel
theorem d_MO_revert_179 : decode b_MO_revert 179 = .ok (.iconst 0, 1) := by decide +kernel
theorem d_MO_revert_180 : decode b_MO_revert 180 = .ok (.istore 4, 2) := by decide +kernel
theorem d_MO_revert_182 : decode b_MO_revert 182 = .ok (.iinc 5 1, 3) := by decide +kernel
theorem d_MO_revert_185 : decode b_MO_revert 185 = .ok (.goto (-53), 3) := by decide +kernel
theorem d_MO_revert_188 : decode b_MO_revert 188 = .ok (.iload 4, 2) := by decide +kernel
theorem d_MO_revert_190 : decode b_MO_revert 190 = .ok (.ifCond .eq 8, 3) := by decide +kernel
theorem d_MO_revert_193 : decode b_MO_revert 193 = .ok (.aload_n 0, 1) := by decide +kernel
theorem d_MO_revert_194 : decode b_MO_revert 194 = .ok (.getfield 37, 3) := by decide +kernel
theorem d_MO_revert_197 : decode b_MO_revert 197 = .ok (.ireturn, 1) := by decide +kernel
theorem d_MO_revert_198 : decode b_MO_revert 198 = .ok (.iconst 0, 1) := by decide +kernel
theorem d_MO_revert_199 : decode b_MO_revert 199 = .ok (.istore 5, 2) := by decide +kernel
theorem d_MO_revert_201 : decode b_MO_revert 201 = .ok (.iload 5, 2) := by decide +kernel
theorem d_MO_revert_203 : decode b_MO_revert 203 = .ok (.iload_n 3, 1) := by decide +kernel
theorem d_MO_revert_204 : decode b_MO_revert 204 = .ok (.if_icmp .ge 23, 3) := by decide +kernel
theorem d_MO_revert_207 : decode b_MO_revert 207 = .ok (.aload_n 0, 1) := by decide +kernel
theorem d_MO_revert_208 : decode b_MO_revert 208 = .ok (.getfield 13, 3) := by decide +kernel
theorem d_MO_revert_211 : decode b_MO_revert 211 = .ok (.iload 5, 2) := by decide +kernel
theorem d_MO_revert_213 : decode b_MO_revert 213 = .ok (.aload_n 0, 1) := by decide +kernel
theorem d_MO_revert_214 : decode b_MO_revert 214 = .ok (.getfield 28, 3) := by decide +kernel
theorem d_MO_revert_217 : decode b_MO_revert 217 = .ok (.iload 5, 2) := by decide +kernel
theorem d_MO_revert_219 : decode b_MO_revert 219 = .ok (.iaload, 1) := by decide +kernel
theorem d_MO_revert_220 : decode b_MO_revert 220 = .ok (.iastore, 1) := by decide +kernel
theorem d_MO_revert_221 : decode b_MO_revert 221 = .ok (.iinc 5 1, 3) := by decide +kernel
theorem d_MO_revert_224 : decode b_MO_revert 224 = .ok (.goto (-23), 3) := by decide +kernel
theorem d_MO_revert_227 : decode b_MO_revert 227 = .ok (.aload_n 0, 1) := by decide +kernel
theorem d_MO_revert_228 : decode b_MO_revert 228 = .ok (.iload_n 3, 1) := by decide +kernel
theorem d_MO_revert_229 : decode b_MO_revert 229 = .ok (.putfield 37, 3) := by decide +kernel
theorem d_MO_revert_232 : decode b_MO_revert 232 = .ok (.aload_n 0, 1) := by decide +kernel
theorem d_MO_revert_233 : decode b_MO_revert 233 = .ok (.invokevirtual 48, 3) := by decide +kernel
theorem d_MO_revert_236 : decode b_MO_revert 236 = .ok (.bipush (-4), 2) := by decide +kernel
theorem d_MO_revert_238 : decode b_MO_revert 238 = .ok (.ireturn, 1) := by decide +kernel
theorem d_BR_init_0 : decode b_BR_init 0 = .ok (.aload_n 0, 1) := by decide +kernel
theorem d_BR_init_1 : decode b_BR_init 1 = .ok (.invokespecial 3, 3) := by decide +kernel
theorem d_BR_init_4 : decode b_BR_init 4 = .ok (.aload_n 0, 1) := by decide +kernel
theorem d_BR_init_5 : decode b_BR_init 5 = .ok (.bipush 96, 2) := by decide +kernel
theorem d_BR_init_7 : decode b_BR_init 7 = .ok (.newarray .int, 2) := by decide +kernel
theorem d_BR_init_9 : decode b_BR_init 9 = .ok (.putfield 9, 3) := by decide +kernel
theorem d_BR_init_12 : decode b_BR_init 12 = .ok (.aload_n 0, 1) := by decide +kernel
theorem d_BR_init_13 : decode b_BR_init 13 = .ok (.iconst 0, 1) := by decide +kernel
theorem d_BR_init_14 : decode b_BR_init 14 = .ok (.putfield 15, 3) := by decide +kernel
theorem d_BR_init_17 : decode b_BR_init 17 = .ok (.return_, 1) := by decide +kernel
theorem d_BR_clear_0 : decode b_BR_clear 0 = .ok (.aload_n 0, 1) := by decide +kernel
theorem d_BR_clear_1 : decode b_BR_clear 1 = .ok (.iconst 0, 1) := by decide +kernel
theorem d_BR_clear_2 : decode b_BR_clear 2 = .ok (.putfield 15, 3) := by decide +kernel
theorem d_BR_clear_5 : decode b_BR_clear 5 = .ok (.return_, 1) := by decide +kernel
theorem d_BR_append_0 : decode b_BR_append 0 = .ok (.aload_n 0, 1) := by decide +kernel
theorem d_BR_append_1 : decode b_BR_append 1 = .ok (.getfield 15, 3) := by decide +kernel
theorem d_BR_append_4 : decode b_BR_append 4 = .ok (.bipush 96, 2) := by decide +kernel
theorem d_BR_append_6 : decode b_BR_append 6 = .ok (.if_icmp .ge 23, 3) := by decide +kernel
theorem d_BR_append_9 : decode b_BR_append 9 = .ok (.aload_n 0, 1) := by decide +kernel
theorem d_BR_append_10 : decode b_BR_append 10 = .ok (.getfield 9, 3) := by decide +kernel
theorem d_BR_append_13 : decode b_BR_append 13 = .ok (.aload_n 0, 1) := by decide +kernel
theorem d_BR_append_14 : decode b_BR_append 14 = .ok (.getfield 15, 3) := by decide +kernel
theorem d_BR_append_17 : decode b_BR_append 17 = .ok (.iload_n 1, 1) := by decide +kernel
theorem d_BR_append_18 : decode b_BR_append 18 = .ok (.iastore, 1) := by decide +kernel
theorem d_BR_append_19 : decode b_BR_append 19 = .ok (.aload_n 0, 1) := by decide +kernel
theorem d_BR_append_20 : decode b_BR_append 20 = .ok (.dup, 1) := by decide +kernel
theorem d_BR_append_21 : decode b_BR_append 21 = .ok (.getfield 15, 3) := by decide +kernel
theorem d_BR_append_24 : decode b_BR_append 24 = .ok (.iconst 1, 1) := by decide +kernel
theorem d_BR_append_25 : decode b_BR_append 25 = .ok (.iadd, 1) := by decide +kernel
theorem d_BR_append_26 : decode b_BR_append 26 = .ok (.putfield 15, 3) := by decide +kernel
theorem d_BR_append_29 : decode b_BR_append 29 = .ok (.return_, 1) := by decide +kernel
theorem d_BR_putInFront_0 : decode b_BR_putInFront 0 = .ok (.aload_n 0, 1) := by decide +kernel
theorem d_BR_putInFront_1 : decode b_BR_putInFront 1 = .ok (.getfield 15, 3) := by decide +kernel
theorem d_BR_putInFront_4 : decode b_BR_putInFront 4 = .ok (.bipush 96, 2) := by decide +kernel
theorem d_BR_putInFront_6 : decode b_BR_putInFront 6 = .ok (.if_icmp .ge 37, 3) := by decide +kernel
theorem d_BR_putInFront_9 : decode b_BR_putInFront 9 = .ok (.aload_n 0, 1) := by decide +kernel
theorem d_BR_putInFront_10 : decode b_BR_putInFront 10 = .ok (.getfield 9, 3) := by decide +kernel
theorem d_BR_putInFront_13 : decode b_BR_putInFront 13 = .ok (.iconst 0, 1) := by decide +kernel
theorem d_BR_putInFront_14 : decode b_BR_putInFront 14 = .ok (.aload_n 0, 1) := by decide +kernel
theorem d_BR_putInFront_15 : decode b_BR_putInFront 15 = .ok (.getfield 9, 3) := by decide +kernel
theorem d_BR_putInFront_18 : decode b_BR_putInFront 18 = .ok (.iconst 1, 1) := by decide +kernel
theorem d_BR_putInFront_19 : decode b_BR_putInFront 19 = .ok (.aload_n 0, 1) := by decide +kernel
theorem d_BR_putInFront_20 : decode b_BR_putInFront 20 = .ok (.getfield 15, 3) := by decide +kernel
theorem d_BR_putInFront_23 : decode b_BR_putInFront 23 = .ok (.invokestatic 19, 3) := by decide +kernel
theorem d_BR_putInFront_26 : decode b_BR_putInFront 26 = .ok (.aload_n 0, 1) := by decide +kernel
theorem d_BR_putInFront_27 : decode b_BR_putInFront 27 = .ok (.getfield 9, 3) := by decide +kernel
theorem d_BR_putInFront_30 : decode b_BR_putInFront 30 = .ok (.iconst 0, 1) := by decide +kernel
theorem d_BR_putInFront_31 : decode b_BR_putInFront 31 = .ok (.iload_n 1, 1) := by decide +kernel
theorem d_BR_putInFront_32 : decode b_BR_putInFront 32 = .ok (.iastore, 1) := by decide +kernel
theorem d_BR_putInFront_33 : decode b_BR_putInFront 33 = .ok (.aload_n 0, 1) := by decide +kernel
theorem d_BR_putInFront_34 : decode b_BR_putInFront 34 = .ok (.dup, 1) := by decide +kernel
theorem d_BR_putInFront_35 : decode b_BR_putInFront 35 = .ok (.getfield 15, 3) := by decide +kernel
theorem d_BR_putInFront_38 : decode b_BR_putInFront 38 = .ok (.iconst 1, 1) := by decide +kernel
theorem d_BR_putInFront_39 : decode b_BR_putInFront 39 = .ok (.iadd, 1) := by decide +kernel
theorem d_BR_putInFront_40 : decode b_BR_putInFront 40 = .ok (.putfield 15, 3) := by decide +kernel
theorem d_BR_putInFront_43 : decode b_BR_putInFront 43 = .ok (.return_, 1) := by decide +kernel
theorem d_BR_copyFrom_0 : decode b_BR_copyFrom 0 = .ok (.aload_n 1, 1) := by decide +kernel
theorem d_BR_copyFrom_1 : decode b_BR_copyFrom 1 = .ok (.getfield 9, 3) := by decide +kernel
theorem d_BR_copyFrom_4 : decode b_BR_copyFrom 4 = .ok (.iconst 0, 1) := by decide +kernel
theorem d_BR_copyFrom_5 : decode b_BR_copyFrom 5 = .ok (.aload_n 0, 1) := by decide +kernel
theorem d_BR_copyFrom_6 : decode b_BR_copyFrom 6 = .ok (.getfield 9, 3) := by decide +kernel
theorem d_BR_copyFrom_9 : decode b_BR_copyFrom 9 = .ok (.iconst 0, 1) := by decide +kernel
theorem d_BR_copyFrom_10 : decode b_BR_copyFrom 10 = .ok (.aload_n 1, 1) := by decide +kernel
theorem d_BR_copyFrom_11 : decode b_BR_copyFrom 11 = .ok (.getfield 15, 3) := by decide +kernel
theorem d_BR_copyFrom_14 : decode b_BR_copyFrom 14 = .ok (.invokestatic 19, 3) := by decide +kernel
theorem d_BR_copyFrom_17 : decode b_BR_copyFrom 17 = .ok (.aload_n 0, 1) := by decide +kernel
theorem d_BR_copyFrom_18 : decode b_BR_copyFrom 18 = .ok (.aload_n 1, 1) := by decide +kernel
theorem d_BR_copyFrom_19 : decode b_BR_copyFrom 19 = .ok (.getfield 15, 3) := by decide +kernel
theorem d_BR_copyFrom_22 : decode b_BR_copyFrom 22 = .ok (.putfield 15, 3) := by decide +kernel
theorem d_BR_copyFrom_25 : decode b_BR_copyFrom 25 = .ok (.return_, 1) := by decide +kernel
theorem d_BR_alike_0 : decode b_BR_alike 0 = .ok (.aload_n 0, 1) := by decide +kernel
theorem d_BR_alike_1 : decode b_BR_alike 1 = .ok (.getfield 15, 3) := by decide +kernel
theorem d_BR_alike_4 : decode b_BR_alike 4 = .ok (.iload_n 1, 1) := by decide +kernel
theorem d_BR_alike_5 : decode b_BR_alike 5 = .ok (.isub, 1) := by decide +kernel
theorem d_BR_alike_6 : decode b_BR_alike 6 = .ok (.aload_n 2, 1) := by decide +kernel
theorem d_BR_alike_7 : decode b_BR_alike 7 = .ok (.getfield 15, 3) := by decide +kernel
theorem d_BR_alike_10 : decode b_BR_alike 10 = .ok (.iload_n 3, 1) := by decide +kernel
theorem d_BR_alike_11 : decode b_BR_alike 11 = .ok (.isub, 1) := by decide +kernel
theorem d_BR_alike_12 : decode b_BR_alike 12 = .ok (.invokestatic 25, 3) := by decide +kernel
theorem d_BR_alike_15 : decode b_BR_alike 15 = .ok (.istore 4, 2) := by decide +kernel
theorem d_BR_alike_17 : decode b_BR_alike 17 = .ok (.iconst 0, 1) := by decide +kernel
theorem d_BR_alike_18 : decode b_BR_alike 18 = .ok (.istore 5, 2) := by decide +kernel
theorem d_BR_alike_20 : decode b_BR_alike 20 = .ok (.iload 5, 2) := by decide +kernel
theorem d_BR_alike_22 : decode b_BR_alike 22 = .ok (.iload 4, 2) := by decide +kernel
theorem d_BR_alike_24 : decode b_BR_alike 24 = .ok (.if_icmp .ge 30, 3) := by decide +kernel
theorem d_BR_alike_27 : decode b_BR_alike 27 = .ok (.aload_n 0, 1) := by decide +kernel
theorem d_BR_alike_28 : decode b_BR_alike 28 = .ok (.getfield 9, 3) := by decide +kernel
theorem d_BR_alike_31 : decode b_BR_alike 31 = .ok (.iload_n 1, 1) := by decide +kernel
theorem d_BR_alike_32 : decode b_BR_alike 32 = .ok (.iload 5, 2) := by decide +kernel
theorem d_BR_alike_34 : decode b_BR_alike 34 = .ok (.iadd, 1) := by decide +kernel
theorem d_BR_alike_35 : decode b_BR_alike 35 = .ok (.iaload, 1) := by decide +kernel
theorem d_BR_alike_36 : decode b_BR_alike 36 = .ok (.aload_n 2, 1) := by decide +kernel
theorem d_BR_alike_37 : decode b_BR_alike 37 = .ok (.getfield 9, 3) := by decide +kernel
theorem d_BR_alike_40 : decode b_BR_alike 40 = .ok (.iload_n 3, 1) := by decide +kernel
theorem d_BR_alike_41 : decode b_BR_alike 41 = .ok (.iload 5, 2) := by decide +kernel
theorem d_BR_alike_43 : decode b_BR_alike 43 = .ok (.iadd, 1) := by decide +kernel
theorem d_BR_alike_44 : decode b_BR_alike 44 = .ok (.iaload, 1) := by decide +kernel
theorem d_BR_alike_45 : decode b_BR_alike 45 = .ok (.if_icmp .ne 9, 3) := by decide +kernel
theorem d_BR_alike_48 : decode b_BR_alike 48 = .ok (.iinc 5 1, 3) := by decide +kernel
theorem d_BR_alike_51 : decode b_BR_alike 51 = .ok (.goto (-31), 3) := by decide +kernel
theorem d_BR_alike_54 : decode b_BR_alike 54 = .ok (.iload 5, 2) := by decide +kernel
theorem d_BR_alike_56 : decode b_BR_alike 56 = .ok (.ireturn, 1) := by decide +kernel
theorem d_CR_init_0 : decode b_CR_init 0 = .ok (.aload_n 0, 1) := by decide +kernel
theorem d_CR_init_1 : decode b_CR_init 1 = .ok (.invokespecial 3, 3) := by decide +kernel
theorem d_CR_init_4 : decode b_CR_init 4 = .ok (.aload_n 0, 1) := by decide +kernel
theorem d_CR_init_5 : decode b_CR_init 5 = .ok (.bipush 97, 2) := by decide +kernel
theorem d_CR_init_7 : decode b_CR_init 7 = .ok (.newarray .int, 2) := by decide +kernel
theorem d_CR_init_9 : decode b_CR_init 9 = .ok (.putfield 9, 3) := by decide +kernel
theorem d_CR_init_12 : decode b_CR_init 12 = .ok (.aload_n 0, 1) := by decide +kernel
theorem d_CR_init_13 : decode b_CR_init 13 = .ok (.getfield 9, 3) := by decide +kernel
theorem d_CR_init_16 : decode b_CR_init 16 = .ok (.iconst 0, 1) := by decide +kernel
theorem d_CR_init_17 : decode b_CR_init 17 = .ok (.bipush (-2), 2) := by decide +kernel
theorem d_CR_init_19 : decode b_CR_init 19 = .ok (.iastore, 1) := by decide +kernel
theorem d_CR_init_20 : decode b_CR_init 20 = .ok (.aload_n 0, 1) := by decide +kernel
theorem d_CR_init_21 : decode b_CR_init 21 = .ok (.iconst 0, 1) := by decide +kernel
theorem d_CR_init_22 : decode b_CR_init 22 = .ok (.putfield 15, 3) := by decide +kernel
theorem d_CR_init_25 : decode b_CR_init 25 = .ok (.return_, 1) := by decide +kernel
theorem d_CR_take_0 : decode b_CR_take 0 = .ok (.iconst 0, 1) := by decide +kernel
theorem d_CR_take_1 : decode b_CR_take 1 = .ok (.istore_n 3, 1) := by decide +kernel
theorem d_CR_take_2 : decode b_CR_take 2 = .ok (.iload_n 3, 1) := by decide +kernel
theorem d_CR_take_3 : decode b_CR_take 3 = .ok (.aload_n 1, 1) := by decide +kernel
theorem d_CR_take_4 : decode b_CR_take 4 = .ok (.getfield 19, 3) := by decide +kernel
theorem d_CR_take_7 : decode b_CR_take 7 = .ok (.if_icmp .ge 32, 3) := by decide +kernel
theorem d_CR_take_10 : decode b_CR_take 10 = .ok (.aload_n 0, 1) := by decide +kernel
theorem d_CR_take_11 : decode b_CR_take 11 = .ok (.getfield 9, 3) := by decide +kernel
theorem d_CR_take_14 : decode b_CR_take 14 = .ok (.iload_n 3, 1) := by decide +kernel
theorem d_CR_take_15 : decode b_CR_take 15 = .ok (.iload_n 2, 1) := by decide +kernel
theorem d_CR_take_16 : decode b_CR_take 16 = .ok (.if_icmp .ge 7, 3) := by decide +kernel
theorem d_CR_take_19 : decode b_CR_take 19 = .ok (.iload_n 3, 1) := by decide +kernel
theorem d_CR_take_20 : decode b_CR_take 20 = .ok (.goto 6, 3) := by decide +kernel
theorem d_CR_take_23 : decode b_CR_take 23 = .ok (.iload_n 3, 1) := by decide +kernel
theorem d_CR_take_24 : decode b_CR_take 24 = .ok (.iconst 1, 1) := by decide +kernel
theorem d_CR_take_25 : decode b_CR_take 25 = .ok (.iadd, 1) := by decide +kernel
theorem d_CR_take_26 : decode b_CR_take 26 = .ok (.aload_n 1, 1) := by decide +kernel
theorem d_CR_take_27 : decode b_CR_take 27 = .ok (.getfield 24, 3) := by decide +kernel
theorem d_CR_take_30 : decode b_CR_take 30 = .ok (.iload_n 3, 1) := by decide +kernel
theorem d_CR_take_31 : decode b_CR_take 31 = .ok (.iaload, 1) := by decide +kernel
theorem d_CR_take_32 : decode b_CR_take 32 = .ok (.iastore, 1) := by decide +kernel
theorem d_CR_take_33 : decode b_CR_take 33 = .ok (.iinc 3 1, 3) := by decide +kernel
theorem d_CR_take_36 : decode b_CR_take 36 = .ok (.goto (-34), 3) := by decide +kernel
theorem d_CR_take_39 : decode b_CR_take 39 = .ok (.aload_n 0, 1) := by decide +kernel
theorem d_CR_take_40 : decode b_CR_take 40 = .ok (.getfield 9, 3) := by decide +kernel
theorem d_CR_take_43 : decode b_CR_take 43 = .ok (.iload_n 2, 1) := by decide +kernel
theorem d_CR_take_44 : decode b_CR_take 44 = .ok (.bipush (-2), 2) := by decide +kernel
theorem d_CR_take_46 : decode b_CR_take 46 = .ok (.iastore, 1) := by decide +kernel
theorem d_CR_take_47 : decode b_CR_take 47 = .ok (.aload_n 0, 1) := by decide +kernel
theorem d_CR_take_48 : decode b_CR_take 48 = .ok (.aload_n 1, 1) := by decide +kernel
theorem d_CR_take_49 : decode b_CR_take 49 = .ok (.getfield 19, 3) := by decide +kernel
theorem d_CR_take_52 : decode b_CR_take 52 = .ok (.putfield 15, 3) := by decide +kernel
theorem d_CR_take_55 : decode b_CR_take 55 = .ok (.return_, 1) := by decide +kernel
theorem d_CR_writeText_0 : decode b_CR_writeText 0 = .ok (.iconst 0, 1) := by decide +kernel
theorem d_CR_writeText_1 : decode b_CR_writeText 1 = .ok (.istore_n 2, 1) := by decide +kernel
theorem d_CR_writeText_2 : decode b_CR_writeText 2 = .ok (.aload_n 0, 1) := by decide +kernel
theorem d_CR_writeText_3 : decode b_CR_writeText 3 = .ok (.getfield 15, 3) := by decide +kernel
end
section
theorem d_CR_writeText_6 : decode b_CR_writeText 6 = .ok (.iconst 1, 1) := by decide +kernel
theorem d_CR_writeText_7 : decode b_CR_writeText 7 = .ok (.isub, 1) := by decide +kernel
theorem d_CR_writeText_8 : decode b_CR_writeText 8 = .ok (.istore_n 3, 1) := by decide +kernel
theorem d_CR_writeText_9 : decode b_CR_writeText 9 = .ok (.iload_n 3, 1) := by decide +kernel
theorem d_CR_writeText_10 : decode b_CR_writeText 10 = .ok (.ifCond .lt 40, 3) := by decide +kernel
theorem d_CR_writeText_13 : decode b_CR_writeText 13 = .ok (.aload_n 0, 1) := by decide +kernel
theorem d_CR_writeText_14 : decode b_CR_writeText 14 = .ok (.getfield 9, 3) := by decide +kernel
theorem d_CR_writeText_17 : decode b_CR_writeText 17 = .ok (.iload_n 2, 1) := by decide +kernel
theorem d_CR_writeText_18 : decode b_CR_writeText 18 = .ok (.iaload, 1) := by decide +kernel
theorem d_CR_writeText_19 : decode b_CR_writeText 19 = .ok (.bipush (-2), 2) := by decide +kernel
theorem d_CR_writeText_21 : decode b_CR_writeText 21 = .ok (.if_icmp .ne 5, 3) := by decide +kernel
theorem d_CR_writeText_24 : decode b_CR_writeText 24 = .ok (.iconst 0, 1) := by decide +kernel
theorem d_CR_writeText_25 : decode b_CR_writeText 25 = .ok (.ireturn, 1) := by decide +kernel
theorem d_CR_writeText_26 : decode b_CR_writeText 26 = .ok (.aload_n 1, 1) := by decide +kernel
theorem d_CR_writeText_27 : decode b_CR_writeText 27 = .ok (.getfield 24, 3) := by decide +kernel
theorem d_CR_writeText_30 : decode b_CR_writeText 30 = .ok (.iload_n 3, 1) := by decide +kernel
theorem d_CR_writeText_31 : decode b_CR_writeText 31 = .ok (.aload_n 0, 1) := by decide +kernel
theorem d_CR_writeText_32 : decode b_CR_writeText 32 = .ok (.getfield 9, 3) := by decide +kernel
theorem d_CR_writeText_35 : decode b_CR_writeText 35 = .ok (.iload_n 2, 1) := by decide +kernel
theorem d_CR_writeText_36 : decode b_CR_writeText 36 = .ok (.iaload, 1) := by decide +kernel
theorem d_CR_writeText_37 : decode b_CR_writeText 37 = .ok (.iastore, 1) := by decide +kernel
theorem d_CR_writeText_38 : decode b_CR_writeText 38 = .ok (.aload_n 0, 1) := by decide +kernel
theorem d_CR_writeText_39 : decode b_CR_writeText 39 = .ok (.iload_n 2, 1) := by decide +kernel
theorem d_CR_writeText_40 : decode b_CR_writeText 40 = .ok (.invokevirtual 27, 3) := by decide +kernel
theorem d_CR_writeText_43 : decode b_CR_writeText 43 = .ok (.istore_n 2, 1) := by decide +kernel
theorem d_CR_writeText_44 : decode b_CR_writeText 44 = .ok (.iinc 3 (-1), 3) := by decide +kernel
theorem d_CR_writeText_47 : decode b_CR_writeText 47 = .ok (.goto (-38), 3) := by decide +kernel
theorem d_CR_writeText_50 : decode b_CR_writeText 50 = .ok (.aload_n 1, 1) := by decide +kernel
theorem d_CR_writeText_51 : decode b_CR_writeText 51 = .ok (.aload_n 0, 1) := by decide +kernel
theorem d_CR_writeText_52 : decode b_CR_writeText 52 = .ok (.getfield 15, 3) := by decide +kernel
theorem d_CR_writeText_55 : decode b_CR_writeText 55 = .ok (.putfield 19, 3) := by decide +kernel
theorem d_CR_writeText_58 : decode b_CR_writeText 58 = .ok (.iconst 1, 1) := by decide +kernel
theorem d_CR_writeText_59 : decode b_CR_writeText 59 = .ok (.ireturn, 1) := by decide +kernel
theorem d_CR_rankOfLonger_0 : decode b_CR_rankOfLonger 0 = .ok (.iconst 0, 1) := by decide +kernel
theorem d_CR_rankOfLonger_1 : decode b_CR_rankOfLonger 1 = .ok (.istore_n 2, 1) := by decide +kernel
theorem d_CR_rankOfLonger_2 : decode b_CR_rankOfLonger 2 = .ok (.iconst 0, 1) := by decide +kernel
theorem d_CR_rankOfLonger_3 : decode b_CR_rankOfLonger 3 = .ok (.istore_n 3, 1) := by decide +kernel
theorem d_CR_rankOfLonger_4 : decode b_CR_rankOfLonger 4 = .ok (.iload_n 3, 1) := by decide +kernel
theorem d_CR_rankOfLonger_5 : decode b_CR_rankOfLonger 5 = .ok (.aload_n 0, 1) := by decide +kernel
theorem d_CR_rankOfLonger_6 : decode b_CR_rankOfLonger 6 = .ok (.getfield 15, 3) := by decide +kernel
theorem d_CR_rankOfLonger_9 : decode b_CR_rankOfLonger 9 = .ok (.if_icmp .gt 47, 3) := by decide +kernel
theorem d_CR_rankOfLonger_12 : decode b_CR_rankOfLonger 12 = .ok (.aload_n 0, 1) := by decide +kernel
theorem d_CR_rankOfLonger_13 : decode b_CR_rankOfLonger 13 = .ok (.getfield 9, 3) := by decide +kernel
theorem d_CR_rankOfLonger_16 : decode b_CR_rankOfLonger 16 = .ok (.iload_n 3, 1) := by decide +kernel
theorem d_CR_rankOfLonger_17 : decode b_CR_rankOfLonger 17 = .ok (.iaload, 1) := by decide +kernel
theorem d_CR_rankOfLonger_18 : decode b_CR_rankOfLonger 18 = .ok (.aload_n 0, 1) := by decide +kernel
theorem d_CR_rankOfLonger_19 : decode b_CR_rankOfLonger 19 = .ok (.getfield 9, 3) := by decide +kernel
theorem d_CR_rankOfLonger_22 : decode b_CR_rankOfLonger 22 = .ok (.iload_n 1, 1) := by decide +kernel
theorem d_CR_rankOfLonger_23 : decode b_CR_rankOfLonger 23 = .ok (.iaload, 1) := by decide +kernel
theorem d_CR_rankOfLonger_24 : decode b_CR_rankOfLonger 24 = .ok (.if_icmp .lt 23, 3) := by decide +kernel
theorem d_CR_rankOfLonger_27 : decode b_CR_rankOfLonger 27 = .ok (.aload_n 0, 1) := by decide +kernel
theorem d_CR_rankOfLonger_28 : decode b_CR_rankOfLonger 28 = .ok (.getfield 9, 3) := by decide +kernel
theorem d_CR_rankOfLonger_31 : decode b_CR_rankOfLonger 31 = .ok (.iload_n 3, 1) := by decide +kernel
theorem d_CR_rankOfLonger_32 : decode b_CR_rankOfLonger 32 = .ok (.iaload, 1) := by decide +kernel
theorem d_CR_rankOfLonger_33 : decode b_CR_rankOfLonger 33 = .ok (.aload_n 0, 1) := by decide +kernel
theorem d_CR_rankOfLonger_34 : decode b_CR_rankOfLonger 34 = .ok (.getfield 9, 3) := by decide +kernel
theorem d_CR_rankOfLonger_37 : decode b_CR_rankOfLonger 37 = .ok (.iload_n 1, 1) := by decide +kernel
theorem d_CR_rankOfLonger_38 : decode b_CR_rankOfLonger 38 = .ok (.iaload, 1) := by decide +kernel
theorem d_CR_rankOfLonger_39 : decode b_CR_rankOfLonger 39 = .ok (.if_icmp .ne 11, 3) := by decide +kernel
theorem d_CR_rankOfLonger_42 : decode b_CR_rankOfLonger 42 = .ok (.iload_n 3, 1) := by decide +kernel
theorem d_CR_rankOfLonger_43 : decode b_CR_rankOfLonger 43 = .ok (.iload_n 1, 1) := by decide +kernel
theorem d_CR_rankOfLonger_44 : decode b_CR_rankOfLonger 44 = .ok (.if_icmp .ge 6, 3) := by decide +kernel
theorem d_CR_rankOfLonger_47 : decode b_CR_rankOfLonger 47 = .ok (.iinc 2 1, 3) := by decide +kernel
theorem d_CR_rankOfLonger_50 : decode b_CR_rankOfLonger 50 = .ok (.iinc 3 1, 3) := by decide +kernel
theorem d_CR_rankOfLonger_53 : decode b_CR_rankOfLonger 53 = .ok (.goto (-49), 3) := by decide +kernel
theorem d_CR_rankOfLonger_56 : decode b_CR_rankOfLonger 56 = .ok (.iload_n 2, 1) := by decide +kernel
theorem d_CR_rankOfLonger_57 : decode b_CR_rankOfLonger 57 = .ok (.ireturn, 1) := by decide +kernel
theorem d_FL_init_0 : decode b_FL_init 0 = .ok (.aload_n 0, 1) := by decide +kernel
theorem d_FL_init_1 : decode b_FL_init 1 = .ok (.invokespecial 3, 3) := by decide +kernel
theorem d_FL_init_4 : decode b_FL_init 4 = .ok (.aload_n 0, 1) := by decide +kernel
theorem d_FL_init_5 : decode b_FL_init 5 = .ok (.bipush 97, 2) := by decide +kernel
theorem d_FL_init_7 : decode b_FL_init 7 = .ok (.newarray .int, 2) := by decide +kernel
theorem d_FL_init_9 : decode b_FL_init 9 = .ok (.putfield 9, 3) := by decide +kernel
theorem d_FL_init_12 : decode b_FL_init 12 = .ok (.aload_n 0, 1) := by decide +kernel
theorem d_FL_init_13 : decode b_FL_init 13 = .ok (.sipush 257, 3) := by decide +kernel
theorem d_FL_init_16 : decode b_FL_init 16 = .ok (.newarray .int, 2) := by decide +kernel
theorem d_FL_init_18 : decode b_FL_init 18 = .ok (.putfield 15, 3) := by decide +kernel
theorem d_FL_init_21 : decode b_FL_init 21 = .ok (.return_, 1) := by decide +kernel
theorem d_FL_numberColumn_0 : decode b_FL_numberColumn 0 = .ok (.aload_n 0, 1) := by decide +kernel
theorem d_FL_numberColumn_1 : decode b_FL_numberColumn 1 = .ok (.invokevirtual 18, 3) := by decide +kernel
theorem d_FL_numberColumn_4 : decode b_FL_numberColumn 4 = .ok (.iconst 0, 1) := by decide +kernel
theorem d_FL_numberColumn_5 : decode b_FL_numberColumn 5 = .ok (.istore_n 3, 1) := by decide +kernel
theorem d_FL_numberColumn_6 : decode b_FL_numberColumn 6 = .ok (.iload_n 3, 1) := by decide +kernel
theorem d_FL_numberColumn_7 : decode b_FL_numberColumn 7 = .ok (.iload_n 2, 1) := by decide +kernel
theorem d_FL_numberColumn_8 : decode b_FL_numberColumn 8 = .ok (.if_icmp .gt 22, 3) := by decide +kernel
theorem d_FL_numberColumn_11 : decode b_FL_numberColumn 11 = .ok (.aload_n 0, 1) := by decide +kernel
theorem d_FL_numberColumn_12 : decode b_FL_numberColumn 12 = .ok (.getfield 9, 3) := by decide +kernel
theorem d_FL_numberColumn_15 : decode b_FL_numberColumn 15 = .ok (.iload_n 3, 1) := by decide +kernel
theorem d_FL_numberColumn_16 : decode b_FL_numberColumn 16 = .ok (.aload_n 0, 1) := by decide +kernel
theorem d_FL_numberColumn_17 : decode b_FL_numberColumn 17 = .ok (.aload_n 1, 1) := by decide +kernel
theorem d_FL_numberColumn_18 : decode b_FL_numberColumn 18 = .ok (.iload_n 3, 1) := by decide +kernel
theorem d_FL_numberColumn_19 : decode b_FL_numberColumn 19 = .ok (.iaload, 1) := by decide +kernel
theorem d_FL_numberColumn_20 : decode b_FL_numberColumn 20 = .ok (.invokevirtual 21, 3) := by decide +kernel
theorem d_FL_numberColumn_23 : decode b_FL_numberColumn 23 = .ok (.iastore, 1) := by decide +kernel
theorem d_FL_numberColumn_24 : decode b_FL_numberColumn 24 = .ok (.iinc 3 1, 3) := by decide +kernel
theorem d_FL_numberColumn_27 : decode b_FL_numberColumn 27 = .ok (.goto (-21), 3) := by decide +kernel
theorem d_FL_numberColumn_30 : decode b_FL_numberColumn 30 = .ok (.return_, 1) := by decide +kernel
theorem d_FL_startAgain_0 : decode b_FL_startAgain 0 = .ok (.aload_n 0, 1) := by decide +kernel
theorem d_FL_startAgain_1 : decode b_FL_startAgain 1 = .ok (.getfield 15, 3) := by decide +kernel
theorem d_FL_startAgain_4 : decode b_FL_startAgain 4 = .ok (.iconst 0, 1) := by decide +kernel
theorem d_FL_startAgain_5 : decode b_FL_startAgain 5 = .ok (.bipush (-2), 2) := by decide +kernel
theorem d_FL_startAgain_7 : decode b_FL_startAgain 7 = .ok (.iastore, 1) := by decide +kernel
theorem d_FL_startAgain_8 : decode b_FL_startAgain 8 = .ok (.iconst 0, 1) := by decide +kernel
theorem d_FL_startAgain_9 : decode b_FL_startAgain 9 = .ok (.istore_n 1, 1) := by decide +kernel
theorem d_FL_startAgain_10 : decode b_FL_startAgain 10 = .ok (.iload_n 1, 1) := by decide +kernel
theorem d_FL_startAgain_11 : decode b_FL_startAgain 11 = .ok (.sipush 256, 3) := by decide +kernel
theorem d_FL_startAgain_14 : decode b_FL_startAgain 14 = .ok (.if_icmp .ge 18, 3) := by decide +kernel
theorem d_FL_startAgain_17 : decode b_FL_startAgain 17 = .ok (.aload_n 0, 1) := by decide +kernel
theorem d_FL_startAgain_18 : decode b_FL_startAgain 18 = .ok (.getfield 15, 3) := by decide +kernel
theorem d_FL_startAgain_21 : decode b_FL_startAgain 21 = .ok (.iload_n 1, 1) := by decide +kernel
theorem d_FL_startAgain_22 : decode b_FL_startAgain 22 = .ok (.iconst 1, 1) := by decide +kernel
theorem d_FL_startAgain_23 : decode b_FL_startAgain 23 = .ok (.iadd, 1) := by decide +kernel
theorem d_FL_startAgain_24 : decode b_FL_startAgain 24 = .ok (.iload_n 1, 1) := by decide +kernel
theorem d_FL_startAgain_25 : decode b_FL_startAgain 25 = .ok (.iastore, 1) := by decide +kernel
theorem d_FL_startAgain_26 : decode b_FL_startAgain 26 = .ok (.iinc 1 1, 3) := by decide +kernel
theorem d_FL_startAgain_29 : decode b_FL_startAgain 29 = .ok (.goto (-19), 3) := by decide +kernel
theorem d_FL_startAgain_32 : decode b_FL_startAgain 32 = .ok (.return_, 1) := by decide +kernel
theorem d_FL_moveToFront_0 : decode b_FL_moveToFront 0 = .ok (.iconst 0, 1) := by decide +kernel
theorem d_FL_moveToFront_1 : decode b_FL_moveToFront 1 = .ok (.istore_n 2, 1) := by decide +kernel
theorem d_FL_moveToFront_2 : decode b_FL_moveToFront 2 = .ok (.iload_n 2, 1) := by decide +kernel
theorem d_FL_moveToFront_3 : decode b_FL_moveToFront 3 = .ok (.sipush 256, 3) := by decide +kernel
theorem d_FL_moveToFront_6 : decode b_FL_moveToFront 6 = .ok (.if_icmp .ge 19, 3) := by decide +kernel
theorem d_FL_moveToFront_9 : decode b_FL_moveToFront 9 = .ok (.aload_n 0, 1) := by decide +kernel
theorem d_FL_moveToFront_10 : decode b_FL_moveToFront 10 = .ok (.getfield 15, 3) := by decide +kernel
theorem d_FL_moveToFront_13 : decode b_FL_moveToFront 13 = .ok (.iload_n 2, 1) := by decide +kernel
theorem d_FL_moveToFront_14 : decode b_FL_moveToFront 14 = .ok (.iaload, 1) := by decide +kernel
theorem d_FL_moveToFront_15 : decode b_FL_moveToFront 15 = .ok (.iload_n 1, 1) := by decide +kernel
theorem d_FL_moveToFront_16 : decode b_FL_moveToFront 16 = .ok (.if_icmp .eq 9, 3) := by decide +kernel
theorem d_FL_moveToFront_19 : decode b_FL_moveToFront 19 = .ok (.iinc 2 1, 3) := by decide +kernel
theorem d_FL_moveToFront_22 : decode b_FL_moveToFront 22 = .ok (.goto (-20), 3) := by decide +kernel
theorem d_FL_moveToFront_25 : decode b_FL_moveToFront 25 = .ok (.aload_n 0, 1) := by decide +kernel
theorem d_FL_moveToFront_26 : decode b_FL_moveToFront 26 = .ok (.getfield 15, 3) := by decide +kernel
theorem d_FL_moveToFront_29 : decode b_FL_moveToFront 29 = .ok (.iconst 0, 1) := by decide +kernel
theorem d_FL_moveToFront_30 : decode b_FL_moveToFront 30 = .ok (.aload_n 0, 1) := by decide +kernel
theorem d_FL_moveToFront_31 : decode b_FL_moveToFront 31 = .ok (.getfield 15, 3) := by decide +kernel
theorem d_FL_moveToFront_34 : decode b_FL_moveToFront 34 = .ok (.iconst 1, 1) := by decide +kernel
theorem d_FL_moveToFront_35 : decode b_FL_moveToFront 35 = .ok (.iload_n 2, 1) := by decide +kernel
theorem d_FL_moveToFront_36 : decode b_FL_moveToFront 36 = .ok (.invokestatic 25, 3) := by decide +kernel
theorem d_FL_moveToFront_39 : decode b_FL_moveToFront 39 = .ok (.aload_n 0, 1) := by decide +kernel
theorem d_FL_moveToFront_40 : decode b_FL_moveToFront 40 = .ok (.getfield 15, 3) := by decide +kernel
theorem d_FL_moveToFront_43 : decode b_FL_moveToFront 43 = .ok (.iconst 0, 1) := by decide +kernel
theorem d_FL_moveToFront_44 : decode b_FL_moveToFront 44 = .ok (.iload_n 1, 1) := by decide +kernel
theorem d_FL_moveToFront_45 : decode b_FL_moveToFront 45 = .ok (.iastore, 1) := by decide +kernel
theorem d_FL_moveToFront_46 : decode b_FL_moveToFront 46 = .ok (.iload_n 2, 1) := by decide +kernel
theorem d_FL_moveToFront_47 : decode b_FL_moveToFront 47 = .ok (.ireturn, 1) := by decide +kernel
theorem d_SO_init_0 : decode b_SO_init 0 = .ok (.aload_n 0, 1) := by decide +kernel
theorem d_SO_init_1 : decode b_SO_init 1 = .ok (.invokespecial 3, 3) := by decide +kernel
theorem d_SO_init_4 : decode b_SO_init 4 = .ok (.aload_n 0, 1) := by decide +kernel
theorem d_SO_init_5 : decode b_SO_init 5 = .ok (.bipush 97, 2) := by decide +kernel
theorem d_SO_init_7 : decode b_SO_init 7 = .ok (.newarray .int, 2) := by decide +kernel
theorem d_SO_init_9 : decode b_SO_init 9 = .ok (.putfield 9, 3) := by decide +kernel
theorem d_SO_init_12 : decode b_SO_init 12 = .ok (.aload_n 0, 1) := by decide +kernel
theorem d_SO_init_13 : decode b_SO_init 13 = .ok (.bipush 97, 2) := by decide +kernel
theorem d_SO_init_15 : decode b_SO_init 15 = .ok (.newarray .int, 2) := by decide +kernel
theorem d_SO_init_17 : decode b_SO_init 17 = .ok (.putfield 15, 3) := by decide +kernel
theorem d_SO_init_20 : decode b_SO_init 20 = .ok (.aload_n 0, 1) := by decide +kernel
theorem d_SO_init_21 : decode b_SO_init 21 = .ok (.bipush 96, 2) := by decide +kernel
theorem d_SO_init_23 : decode b_SO_init 23 = .ok (.newarray .int, 2) := by decide +kernel
theorem d_SO_init_25 : decode b_SO_init 25 = .ok (.putfield 18, 3) := by decide +kernel
theorem d_SO_init_28 : decode b_SO_init 28 = .ok (.aload_n 0, 1) := by decide +kernel
theorem d_SO_init_29 : decode b_SO_init 29 = .ok (.bipush 97, 2) := by decide +kernel
theorem d_SO_init_31 : decode b_SO_init 31 = .ok (.newarray .int, 2) := by decide +kernel
theorem d_SO_init_33 : decode b_SO_init 33 = .ok (.putfield 21, 3) := by decide +kernel
theorem d_SO_init_36 : decode b_SO_init 36 = .ok (.aload_n 0, 1) := by decide +kernel
theorem d_SO_init_37 : decode b_SO_init 37 = .ok (.getfield 21, 3) := by decide +kernel
theorem d_SO_init_40 : decode b_SO_init 40 = .ok (.iconst 0, 1) := by decide +kernel
theorem d_SO_init_41 : decode b_SO_init 41 = .ok (.bipush (-2), 2) := by decide +kernel
theorem d_SO_init_43 : decode b_SO_init 43 = .ok (.iastore, 1) := by decide +kernel
theorem d_SO_init_44 : decode b_SO_init 44 = .ok (.return_, 1) := by decide +kernel
theorem d_SO_arrange_0 : decode b_SO_arrange 0 = .ok (.aload_n 1, 1) := by decide +kernel
theorem d_SO_arrange_1 : decode b_SO_arrange 1 = .ok (.getfield 24, 3) := by decide +kernel
theorem d_SO_arrange_4 : decode b_SO_arrange 4 = .ok (.istore_n 2, 1) := by decide +kernel
theorem d_SO_arrange_5 : decode b_SO_arrange 5 = .ok (.iload_n 2, 1) := by decide +kernel
theorem d_SO_arrange_6 : decode b_SO_arrange 6 = .ok (.ifCond .lt 15, 3) := by decide +kernel
theorem d_SO_arrange_9 : decode b_SO_arrange 9 = .ok (.aload_n 0, 1) := by decide +kernel
theorem d_SO_arrange_10 : decode b_SO_arrange 10 = .ok (.aload_n 1, 1) := by decide +kernel
theorem d_SO_arrange_11 : decode b_SO_arrange 11 = .ok (.iload_n 2, 1) := by decide +kernel
theorem d_SO_arrange_12 : decode b_SO_arrange 12 = .ok (.invokevirtual 30, 3) := by decide +kernel
theorem d_SO_arrange_15 : decode b_SO_arrange 15 = .ok (.iinc 2 (-1), 3) := by decide +kernel
theorem d_SO_arrange_18 : decode b_SO_arrange 18 = .ok (.goto (-13), 3) := by decide +kernel
theorem d_SO_arrange_21 : decode b_SO_arrange 21 = .ok (.iconst 0, 1) := by decide +kernel
theorem d_SO_arrange_22 : decode b_SO_arrange 22 = .ok (.istore_n 2, 1) := by decide +kernel
theorem d_SO_arrange_23 : decode b_SO_arrange 23 = .ok (.iload_n 2, 1) := by decide +kernel
theorem d_SO_arrange_24 : decode b_SO_arrange 24 = .ok (.aload_n 1, 1) := by decide +kernel
theorem d_SO_arrange_25 : decode b_SO_arrange 25 = .ok (.getfield 24, 3) := by decide +kernel
theorem d_SO_arrange_28 : decode b_SO_arrange 28 = .ok (.if_icmp .gt 46, 3) := by decide +kernel
theorem d_SO_arrange_31 : decode b_SO_arrange 31 = .ok (.aload_n 0, 1) := by decide +kernel
theorem d_SO_arrange_32 : decode b_SO_arrange 32 = .ok (.getfield 15, 3) := by decide +kernel
theorem d_SO_arrange_35 : decode b_SO_arrange 35 = .ok (.iload_n 2, 1) := by decide +kernel
theorem d_SO_arrange_36 : decode b_SO_arrange 36 = .ok (.iaload, 1) := by decide +kernel
theorem d_SO_arrange_37 : decode b_SO_arrange 37 = .ok (.istore_n 3, 1) := by decide +kernel
theorem d_SO_arrange_38 : decode b_SO_arrange 38 = .ok (.aload_n 0, 1) := by decide +kernel
theorem d_SO_arrange_39 : decode b_SO_arrange 39 = .ok (.getfield 9, 3) := by decide +kernel
theorem d_SO_arrange_42 : decode b_SO_arrange 42 = .ok (.iload_n 3, 1) := by decide +kernel
theorem d_SO_arrange_43 : decode b_SO_arrange 43 = .ok (.iload_n 2, 1) := by decide +kernel
theorem d_SO_arrange_44 : decode b_SO_arrange 44 = .ok (.iastore, 1) := by decide +kernel
theorem d_SO_arrange_45 : decode b_SO_arrange 45 = .ok (.aload_n 0, 1) := by decide +kernel
theorem d_SO_arrange_46 : decode b_SO_arrange 46 = .ok (.getfield 21, 3) := by decide +kernel
theorem d_SO_arrange_49 : decode b_SO_arrange 49 = .ok (.iload_n 3, 1) := by decide +kernel
theorem d_SO_arrange_50 : decode b_SO_arrange 50 = .ok (.iload_n 2, 1) := by decide +kernel
theorem d_SO_arrange_51 : decode b_SO_arrange 51 = .ok (.ifCond .ne 8, 3) := by decide +kernel
theorem d_SO_arrange_54 : decode b_SO_arrange 54 = .ok (.bipush (-2), 2) := by decide +kernel
theorem d_SO_arrange_56 : decode b_SO_arrange 56 = .ok (.goto 11, 3) := by decide +kernel
theorem d_SO_arrange_59 : decode b_SO_arrange 59 = .ok (.aload_n 1, 1) := by decide +kernel
theorem d_SO_arrange_60 : decode b_SO_arrange 60 = .ok (.getfield 34, 3) := by decide +kernel
theorem d_SO_arrange_63 : decode b_SO_arrange 63 = .ok (.iload_n 2, 1) := by decide +kernel
theorem d_SO_arrange_64 : decode b_SO_arrange 64 = .ok (.iconst 1, 1) := by decide +kernel
theorem d_SO_arrange_65 : decode b_SO_arrange 65 = .ok (.isub, 1) := by decide +kernel
theorem d_SO_arrange_66 : decode b_SO_arrange 66 = .ok (.iaload, 1) := by decide +kernel
theorem d_SO_arrange_67 : decode b_SO_arrange 67 = .ok (.iastore, 1) := by decide +kernel
theorem d_SO_arrange_68 : decode b_SO_arrange 68 = .ok (.iinc 2 1, 3) := by decide +kernel
theorem d_SO_arrange_71 : decode b_SO_arrange 71 = .ok (.goto (-48), 3) := by decide +kernel
theorem d_SO_arrange_74 : decode b_SO_arrange 74 = .ok (.iconst 0, 1) := by decide +kernel
theorem d_SO_arrange_75 : decode b_SO_arrange 75 = .ok (.istore_n 2, 1) := by decide +kernel
theorem d_SO_arrange_76 : decode b_SO_arrange 76 = .ok (.iload_n 2, 1) := by decide +kernel
theorem d_SO_arrange_77 : decode b_SO_arrange 77 = .ok (.aload_n 1, 1) := by decide +kernel
theorem d_SO_arrange_78 : decode b_SO_arrange 78 = .ok (.getfield 24, 3) := by decide +kernel
theorem d_SO_arrange_81 : decode b_SO_arrange 81 = .ok (.if_icmp .ge 34, 3) := by decide +kernel
theorem d_SO_arrange_84 : decode b_SO_arrange 84 = .ok (.aload_n 0, 1) := by decide +kernel
theorem d_SO_arrange_85 : decode b_SO_arrange 85 = .ok (.getfield 18, 3) := by decide +kernel
theorem d_SO_arrange_88 : decode b_SO_arrange 88 = .ok (.iload_n 2, 1) := by decide +kernel
theorem d_SO_arrange_89 : decode b_SO_arrange 89 = .ok (.aload_n 1, 1) := by decide +kernel
theorem d_SO_arrange_90 : decode b_SO_arrange 90 = .ok (.aload_n 0, 1) := by decide +kernel
theorem d_SO_arrange_91 : decode b_SO_arrange 91 = .ok (.getfield 9, 3) := by decide +kernel
theorem d_SO_arrange_94 : decode b_SO_arrange 94 = .ok (.iload_n 2, 1) := by decide +kernel
theorem d_SO_arrange_95 : decode b_SO_arrange 95 = .ok (.iaload, 1) := by decide +kernel
theorem d_SO_arrange_96 : decode b_SO_arrange 96 = .ok (.aload_n 1, 1) := by decide +kernel
theorem d_SO_arrange_97 : decode b_SO_arrange 97 = .ok (.aload_n 0, 1) := by decide +kernel
theorem d_SO_arrange_98 : decode b_SO_arrange 98 = .ok (.getfield 9, 3) := by decide +kernel
theorem d_SO_arrange_101 : decode b_SO_arrange 101 = .ok (.iload_n 2, 1) := by decide +kernel
theorem d_SO_arrange_102 : decode b_SO_arrange 102 = .ok (.iconst 1, 1) := by decide +kernel
theorem d_SO_arrange_103 : decode b_SO_arrange 103 = .ok (.iadd, 1) := by decide +kernel
theorem d_SO_arrange_104 : decode b_SO_arrange 104 = .ok (.iaload, 1) := by decide +kernel
theorem d_SO_arrange_105 : decode b_SO_arrange 105 = .ok (.invokevirtual 37, 3) := by decide +kernel
theorem d_SO_arrange_108 : decode b_SO_arrange 108 = .ok (.iastore, 1) := by decide +kernel
theorem d_SO_arrange_109 : decode b_SO_arrange 109 = .ok (.iinc 2 1, 3) := by decide +kernel
theorem d_SO_arrange_112 : decode b_SO_arrange 112 = .ok (.goto (-36), 3) := by decide +kernel
theorem d_SO_arrange_115 : decode b_SO_arrange 115 = .ok (.return_, 1) := by decide +kernel
theorem d_SO_rankAmongShorter_0 : decode b_SO_rankAmongShorter 0 = .ok (.iconst 0, 1) := by decide +kernel
theorem d_SO_rankAmongShorter_1 : decode b_SO_rankAmongShorter 1 = .ok (.istore_n 3, 1) := by decide +kernel
theorem d_SO_rankAmongShorter_2 : decode b_SO_rankAmongShorter 2 = .ok (.iload_n 2, 1) := by decide +kernel
theorem d_SO_rankAmongShorter_3 : decode b_SO_rankAmongShorter 3 = .ok (.iconst 1, 1) := by decide +kernel
theorem d_SO_rankAmongShorter_4 : decode b_SO_rankAmongShorter 4 = .ok (.iadd, 1) := by decide +kernel
theorem d_SO_rankAmongShorter_5 : decode b_SO_rankAmongShorter 5 = .ok (.istore 4, 2) := by decide +kernel
theorem d_SO_rankAmongShorter_7 : decode b_SO_rankAmongShorter 7 = .ok (.iload 4, 2) := by decide +kernel
theorem d_SO_rankAmongShorter_9 : decode b_SO_rankAmongShorter 9 = .ok (.aload_n 1, 1) := by decide +kernel
theorem d_SO_rankAmongShorter_10 : decode b_SO_rankAmongShorter 10 = .ok (.getfield 24, 3) := by decide +kernel
theorem d_SO_rankAmongShorter_13 : decode b_SO_rankAmongShorter 13 = .ok (.if_icmp .gt 23, 3) := by decide +kernel
theorem d_SO_rankAmongShorter_16 : decode b_SO_rankAmongShorter 16 = .ok (.aload_n 0, 1) := by decide +kernel
theorem d_SO_rankAmongShorter_17 : decode b_SO_rankAmongShorter 17 = .ok (.aload_n 1, 1) := by decide +kernel
theorem d_SO_rankAmongShorter_18 : decode b_SO_rankAmongShorter 18 = .ok (.iload 4, 2) := by decide +kernel
theorem d_SO_rankAmongShorter_20 : decode b_SO_rankAmongShorter 20 = .ok (.iload_n 2, 1) := by decide +kernel
theorem d_SO_rankAmongShorter_21 : decode b_SO_rankAmongShorter 21 = .ok (.invokevirtual 41, 3) := by decide +kernel
theorem d_SO_rankAmongShorter_24 : decode b_SO_rankAmongShorter 24 = .ok (.ifCond .eq 6, 3) := by decide +kernel
theorem d_SO_rankAmongShorter_27 : decode b_SO_rankAmongShorter 27 = .ok (.iinc 3 1, 3) := by decide +kernel
theorem d_SO_rankAmongShorter_30 : decode b_SO_rankAmongShorter 30 = .ok (.iinc 4 1, 3) := by decide +kernel
theorem d_SO_rankAmongShorter_33 : decode b_SO_rankAmongShorter 33 = .ok (.goto (-26), 3) := by decide +kernel
theorem d_SO_rankAmongShorter_36 : decode b_SO_rankAmongShorter 36 = .ok (.iload_n 2, 1) := by decide +kernel
theorem d_SO_rankAmongShorter_37 : decode b_SO_rankAmongShorter 37 = .ok (.iconst 1, 1) := by decide +kernel
theorem d_SO_rankAmongShorter_38 : decode b_SO_rankAmongShorter 38 = .ok (.iadd, 1) := by decide +kernel
theorem d_SO_rankAmongShorter_39 : decode b_SO_rankAmongShorter 39 = .ok (.istore 4, 2) := by decide +kernel
theorem d_SO_rankAmongShorter_41 : decode b_SO_rankAmongShorter 41 = .ok (.iload 4, 2) := by decide +kernel
theorem d_SO_rankAmongShorter_43 : decode b_SO_rankAmongShorter 43 = .ok (.aload_n 1, 1) := by decide +kernel
theorem d_SO_rankAmongShorter_44 : decode b_SO_rankAmongShorter 44 = .ok (.getfield 24, 3) := by decide +kernel
theorem d_SO_rankAmongShorter_47 : decode b_SO_rankAmongShorter 47 = .ok (.if_icmp .gt 31, 3) := by decide +kernel
theorem d_SO_rankAmongShorter_50 : decode b_SO_rankAmongShorter 50 = .ok (.aload_n 0, 1) := by decide +kernel
theorem d_SO_rankAmongShorter_51 : decode b_SO_rankAmongShorter 51 = .ok (.getfield 15, 3) := by decide +kernel
theorem d_SO_rankAmongShorter_54 : decode b_SO_rankAmongShorter 54 = .ok (.iload 4, 2) := by decide +kernel
theorem d_SO_rankAmongShorter_56 : decode b_SO_rankAmongShorter 56 = .ok (.iaload, 1) := by decide +kernel
theorem d_SO_rankAmongShorter_57 : decode b_SO_rankAmongShorter 57 = .ok (.iload_n 3, 1) := by decide +kernel
theorem d_SO_rankAmongShorter_58 : decode b_SO_rankAmongShorter 58 = .ok (.if_icmp .lt 14, 3) := by decide +kernel
theorem d_SO_rankAmongShorter_61 : decode b_SO_rankAmongShorter 61 = .ok (.aload_n 0, 1) := by decide +kernel
theorem d_SO_rankAmongShorter_62 : decode b_SO_rankAmongShorter 62 = .ok (.getfield 15, 3) := by decide +kernel
theorem d_SO_rankAmongShorter_65 : decode b_SO_rankAmongShorter 65 = .ok (.iload 4, 2) := by decide +kernel
theorem d_SO_rankAmongShorter_67 : decode b_SO_rankAmongShorter 67 = .ok (.dup2, 1) := by decide +kernel
theorem d_SO_rankAmongShorter_68 : decode b_SO_rankAmongShorter 68 = .ok (.iaload, 1) := by decide +kernel
theorem d_SO_rankAmongShorter_69 : decode b_SO_rankAmongShorter 69 = .ok (.iconst 1, 1) := by decide +kernel
theorem d_SO_rankAmongShorter_70 : decode b_SO_rankAmongShorter 70 = .ok (.iadd, 1) := by decide +kernel
theorem d_SO_rankAmongShorter_71 : decode b_SO_rankAmongShorter 71 = .ok (.iastore, 1) := by decide +kernel
theorem d_SO_rankAmongShorter_72 : decode b_SO_rankAmongShorter 72 = .ok (.iinc 4 1, 3) := by decide +kernel
theorem d_SO_rankAmongShorter_75 : decode b_SO_rankAmongShorter 75 = .ok (.goto (-34), 3) := by decide +kernel
theorem d_SO_rankAmongShorter_78 : decode b_SO_rankAmongShorter 78 = .ok (.aload_n 0, 1) := by decide +kernel
theorem d_SO_rankAmongShorter_79 : decode b_SO_rankAmongShorter 79 = .ok (.getfield 15, 3) := by decide +kernel
theorem d_SO_rankAmongShorter_82 : decode b_SO_rankAmongShorter 82 = .ok (.iload_n 2, 1) := by decide +kernel
theorem d_SO_rankAmongShorter_83 : decode b_SO_rankAmongShorter 83 = .ok (.iload_n 3, 1) := by decide +kernel
theorem d_SO_rankAmongShorter_84 : decode b_SO_rankAmongShorter 84 = .ok (.iastore, 1) := by decide +kernel
theorem d_SO_rankAmongShorter_85 : decode b_SO_rankAmongShorter 85 = .ok (.return_, 1) := by decide +kernel
theorem d_SO_shorterIsBefore_0 : decode b_SO_shorterIsBefore 0 = .ok (.iload_n 2, 1) := by decide +kernel
theorem d_SO_shorterIsBefore_1 : decode b_SO_shorterIsBefore 1 = .ok (.aload_n 1, 1) := by decide +kernel
theorem d_SO_shorterIsBefore_2 : decode b_SO_shorterIsBefore 2 = .ok (.getfield 24, 3) := by decide +kernel
theorem d_SO_shorterIsBefore_5 : decode b_SO_shorterIsBefore 5 = .ok (.if_icmp .ne 5, 3) := by decide +kernel
theorem d_SO_shorterIsBefore_8 : decode b_SO_shorterIsBefore 8 = .ok (.iconst 1, 1) := by decide +kernel
theorem d_SO_shorterIsBefore_9 : decode b_SO_shorterIsBefore 9 = .ok (.ireturn, 1) := by decide +kernel
theorem d_SO_shorterIsBefore_10 : decode b_SO_shorterIsBefore 10 = .ok (.aload_n 1, 1) := by decide +kernel
theorem d_SO_shorterIsBefore_11 : decode b_SO_shorterIsBefore 11 = .ok (.getfield 34, 3) := by decide +kernel
theorem d_SO_shorterIsBefore_14 : decode b_SO_shorterIsBefore 14 = .ok (.iload_n 2, 1) := by decide +kernel
theorem d_SO_shorterIsBefore_15 : decode b_SO_shorterIsBefore 15 = .ok (.iaload, 1) := by decide +kernel
theorem d_SO_shorterIsBefore_16 : decode b_SO_shorterIsBefore 16 = .ok (.aload_n 1, 1) := by decide +kernel
theorem d_SO_shorterIsBefore_17 : decode b_SO_shorterIsBefore 17 = .ok (.getfield 34, 3) := by decide +kernel
theorem d_SO_shorterIsBefore_20 : decode b_SO_shorterIsBefore 20 = .ok (.iload_n 3, 1) := by decide +kernel
theorem d_SO_shorterIsBefore_21 : decode b_SO_shorterIsBefore 21 = .ok (.iaload, 1) := by decide +kernel
theorem d_SO_shorterIsBefore_22 : decode b_SO_shorterIsBefore 22 = .ok (.isub, 1) := by decide +kernel
theorem d_SO_shorterIsBefore_23 : decode b_SO_shorterIsBefore 23 = .ok (.istore 4, 2) := by decide +kernel
theorem d_SO_shorterIsBefore_25 : decode b_SO_shorterIsBefore 25 = .ok (.iload 4, 2) := by decide +kernel
theorem d_SO_shorterIsBefore_27 : decode b_SO_shorterIsBefore 27 = .ok (.ifCond .eq 16, 3) := by decide +kernel
theorem d_SO_shorterIsBefore_30 : decode b_SO_shorterIsBefore 30 = .ok (.iload 4, 2) := by decide +kernel
theorem d_SO_shorterIsBefore_32 : decode b_SO_shorterIsBefore 32 = .ok (.ifCond .ge 7, 3) := by decide +kernel
theorem d_SO_shorterIsBefore_35 : decode b_SO_shorterIsBefore 35 = .ok (.iconst 1, 1) := by decide +kernel
theorem d_SO_shorterIsBefore_36 : decode b_SO_shorterIsBefore 36 = .ok (.goto 31, 3) := by decide +kernel
theorem d_SO_shorterIsBefore_39 : decode b_SO_shorterIsBefore 39 = .ok (.iconst 0, 1) := by decide +kernel
theorem d_SO_shorterIsBefore_40 : decode b_SO_shorterIsBefore 40 = .ok (.goto 27, 3) := by decide +kernel
theorem d_SO_shorterIsBefore_43 : decode b_SO_shorterIsBefore 43 = .ok (.aload_n 0, 1) := by decide +kernel
theorem d_SO_shorterIsBefore_44 : decode b_SO_shorterIsBefore 44 = .ok (.getfield 15, 3) := by decide +kernel
theorem d_SO_shorterIsBefore_47 : decode b_SO_shorterIsBefore 47 = .ok (.iload_n 2, 1) := by decide +kernel
theorem d_SO_shorterIsBefore_48 : decode b_SO_shorterIsBefore 48 = .ok (.iconst 1, 1) := by decide +kernel
theorem d_SO_shorterIsBefore_49 : decode b_SO_shorterIsBefore 49 = .ok (.iadd, 1) := by decide +kernel
theorem d_SO_shorterIsBefore_50 : decode b_SO_shorterIsBefore 50 = .ok (.iaload, 1) := by decide +kernel
theorem d_SO_shorterIsBefore_51 : decode b_SO_shorterIsBefore 51 = .ok (.aload_n 0, 1) := by decide +kernel
theorem d_SO_shorterIsBefore_52 : decode b_SO_shorterIsBefore 52 = .ok (.getfield 15, 3) := by decide +kernel
theorem d_SO_shorterIsBefore_55 : decode b_SO_shorterIsBefore 55 = .ok (.iload_n 3, 1) := by decide +kernel
theorem d_SO_shorterIsBefore_56 : decode b_SO_shorterIsBefore 56 = .ok (.iconst 1, 1) := by decide +kernel
theorem d_SO_shorterIsBefore_57 : decode b_SO_shorterIsBefore 57 = .ok (.iadd, 1) := by decide +kernel
theorem d_SO_shorterIsBefore_58 : decode b_SO_shorterIsBefore 58 = .ok (.iaload, 1) := by decide +kernel
theorem d_SO_shorterIsBefore_59 : decode b_SO_shorterIsBefore 59 = .ok (.if_icmp .ge 7, 3) := by decide +kernel
theorem d_SO_shorterIsBefore_62 : decode b_SO_shorterIsBefore 62 = .ok (.iconst 1, 1) := by decide +kernel
theorem d_SO_shorterIsBefore_63 : decode b_SO_shorterIsBefore 63 = .ok (.goto 4, 3) := by decide +kernel
theorem d_SO_shorterIsBefore_66 : decode b_SO_shorterIsBefore 66 = .ok (.iconst 0, 1) := by decide +kernel
theorem d_SO_shorterIsBefore_67 : decode b_SO_shorterIsBefore 67 = .ok (.ireturn, 1) := by decide +kernel
theorem d_LW_0 : decode code 0 = .ok (.new 7, 3) := by decide +kernel
theorem d_LW_3 : decode code 3 = .ok (.dup, 1) := by decide +kernel
theorem d_LW_4 : decode code 4 = .ok (.invokespecial 9, 3) := by decide +kernel
theorem d_LW_7 : decode code 7 = .ok (.astore_n 1, 1) := by decide +kernel
theorem d_LW_8 : decode code 8 = .ok (.new 10, 3) := by decide +kernel
theorem d_LW_11 : decode code 11 = .ok (.dup, 1) := by decide +kernel
theorem d_LW_12 : decode code 12 = .ok (.invokespecial 12, 3) := by decide +kernel
theorem d_LW_15 : decode code 15 = .ok (.astore_n 2, 1) := by decide +kernel
theorem d_LW_16 : decode code 16 = .ok (.iconst 0, 1) := by decide +kernel
theorem d_LW_17 : decode code 17 = .ok (.istore_n 3, 1) := by decide +kernel
theorem d_LW_18 : decode code 18 = .ok (.iload_n 3, 1) := by decide +kernel
theorem d_LW_19 : decode code 19 = .ok (.aload_n 0, 1) := by decide +kernel
theorem d_LW_20 : decode code 20 = .ok (.arraylength, 1) := by decide +kernel
theorem d_LW_21 : decode code 21 = .ok (.iconst 4, 1) := by decide +kernel
theorem d_LW_22 : decode code 22 = .ok (.isub, 1) := by decide +kernel
theorem d_LW_23 : decode code 23 = .ok (.if_icmp .gt 470, 3) := by decide +kernel
theorem d_LW_26 : decode code 26 = .ok (.aload_n 0, 1) := by decide +kernel
theorem d_LW_27 : decode code 27 = .ok (.iload_n 3, 1) := by decide +kernel
theorem d_LW_28 : decode code 28 = .ok (.iaload, 1) := by decide +kernel
theorem d_LW_29 : decode code 29 = .ok (.bipush 31, 2) := by decide +kernel
theorem d_LW_31 : decode code 31 = .ok (.iand, 1) := by decide +kernel
theorem d_LW_32 : decode code 32 = .ok (.tableswitch 455 0 16 #[84, 147, 160, 173, 196, 219, 242, 265, 288, 311, 324, 337, 350, 373, 386, 409, 432], 84) := by decide +kernel
theorem d_LW_116 : decode code 116 = .ok (.aload_n 1, 1) := by decide +kernel
theorem d_LW_117 : decode code 117 = .ok (.aload_n 0, 1) := by decide +kernel
theorem d_LW_118 : decode code 118 = .ok (.iload_n 3, 1) := by decide +kernel
theorem d_LW_119 : decode code 119 = .ok (.iconst 1, 1) := by decide +kernel
theorem d_LW_120 : decode code 120 = .ok (.iadd, 1) := by decide +kernel
theorem d_LW_121 : decode code 121 = .ok (.iaload, 1) := by decide +kernel
theorem d_LW_122 : decode code 122 = .ok (.i2l, 1) := by decide +kernel
theorem d_LW_123 : decode code 123 = .ok (.bipush 32, 2) := by decide +kernel
theorem d_LW_125 : decode code 125 = .ok (.lshl, 1) := by decide +kernel
theorem d_LW_126 : decode code 126 = .ok (.aload_n 0, 1) := by decide +kernel
theorem d_LW_127 : decode code 127 = .ok (.iload_n 3, 1) := by decide +kernel
theorem d_LW_128 : decode code 128 = .ok (.iconst 2, 1) := by decide +kernel
theorem d_LW_129 : decode code 129 = .ok (.iadd, 1) := by decide +kernel
theorem d_LW_130 : decode code 130 = .ok (.iaload, 1) := by decide +kernel
theorem d_LW_131 : decode code 131 = .ok (.i2l, 1) := by decide +kernel
theorem d_LW_132 : decode code 132 = .ok (.ldc2_w 13, 3) := by decide +kernel
theorem d_LW_135 : decode code 135 = .ok (.land, 1) := by decide +kernel
theorem d_LW_136 : decode code 136 = .ok (.lor, 1) := by decide +kernel
theorem d_LW_137 : decode code 137 = .ok (.aload_n 0, 1) := by decide +kernel
theorem d_LW_138 : decode code 138 = .ok (.iload_n 3, 1) := by decide +kernel
theorem d_LW_139 : decode code 139 = .ok (.iconst 3, 1) := by decide +kernel
theorem d_LW_140 : decode code 140 = .ok (.iadd, 1) := by decide +kernel
theorem d_LW_141 : decode code 141 = .ok (.iaload, 1) := by decide +kernel
theorem d_LW_142 : decode code 142 = .ok (.invokevirtual 15, 3) := by decide +kernel
theorem d_LW_145 : decode code 145 = .ok (.aload_n 2, 1) := by decide +kernel
theorem d_LW_146 : decode code 146 = .ok (.aload_n 0, 1) := by decide +kernel
theorem d_LW_147 : decode code 147 = .ok (.iload_n 3, 1) := by decide +kernel
theorem d_LW_148 : decode code 148 = .ok (.iconst 1, 1) := by decide +kernel
theorem d_LW_149 : decode code 149 = .ok (.iadd, 1) := by decide +kernel
theorem d_LW_150 : decode code 150 = .ok (.iaload, 1) := by decide +kernel
theorem d_LW_151 : decode code 151 = .ok (.i2l, 1) := by decide +kernel
theorem d_LW_152 : decode code 152 = .ok (.bipush 32, 2) := by decide +kernel
theorem d_LW_154 : decode code 154 = .ok (.lshl, 1) := by decide +kernel
theorem d_LW_155 : decode code 155 = .ok (.aload_n 0, 1) := by decide +kernel
theorem d_LW_156 : decode code 156 = .ok (.iload_n 3, 1) := by decide +kernel
theorem d_LW_157 : decode code 157 = .ok (.iconst 2, 1) := by decide +kernel
theorem d_LW_158 : decode code 158 = .ok (.iadd, 1) := by decide +kernel
theorem d_LW_159 : decode code 159 = .ok (.iaload, 1) := by decide +kernel
theorem d_LW_160 : decode code 160 = .ok (.i2l, 1) := by decide +kernel
theorem d_LW_161 : decode code 161 = .ok (.ldc2_w 13, 3) := by decide +kernel
theorem d_LW_164 : decode code 164 = .ok (.land, 1) := by decide +kernel
theorem d_LW_165 : decode code 165 = .ok (.lor, 1) := by decide +kernel
theorem d_LW_166 : decode code 166 = .ok (.aload_n 0, 1) := by decide +kernel
theorem d_LW_167 : decode code 167 = .ok (.iload_n 3, 1) := by decide +kernel
theorem d_LW_168 : decode code 168 = .ok (.iconst 3, 1) := by decide +kernel
theorem d_LW_169 : decode code 169 = .ok (.iadd, 1) := by decide +kernel
theorem d_LW_170 : decode code 170 = .ok (.iaload, 1) := by decide +kernel
theorem d_LW_171 : decode code 171 = .ok (.invokevirtual 19, 3) := by decide +kernel
theorem d_LW_174 : decode code 174 = .ok (.if_icmp .eq 313, 3) := by decide +kernel
theorem d_LW_177 : decode code 177 = .ok (.iconst 0, 1) := by decide +kernel
end
section
theorem d_LW_178 : decode code 178 = .ok (.ireturn, 1) := by decide +kernel
theorem d_LW_179 : decode code 179 = .ok (.aload_n 1, 1) := by decide +kernel
theorem d_LW_180 : decode code 180 = .ok (.invokevirtual 20, 3) := by decide +kernel
theorem d_LW_183 : decode code 183 = .ok (.aload_n 2, 1) := by decide +kernel
theorem d_LW_184 : decode code 184 = .ok (.invokevirtual 24, 3) := by decide +kernel
theorem d_LW_187 : decode code 187 = .ok (.if_icmp .eq 300, 3) := by decide +kernel
theorem d_LW_190 : decode code 190 = .ok (.iconst 0, 1) := by decide +kernel
theorem d_LW_191 : decode code 191 = .ok (.ireturn, 1) := by decide +kernel
theorem d_LW_192 : decode code 192 = .ok (.aload_n 1, 1) := by decide +kernel
theorem d_LW_193 : decode code 193 = .ok (.invokevirtual 25, 3) := by decide +kernel
theorem d_LW_196 : decode code 196 = .ok (.aload_n 2, 1) := by decide +kernel
theorem d_LW_197 : decode code 197 = .ok (.invokevirtual 28, 3) := by decide +kernel
theorem d_LW_200 : decode code 200 = .ok (.if_icmp .eq 287, 3) := by decide +kernel
theorem d_LW_203 : decode code 203 = .ok (.iconst 0, 1) := by decide +kernel
theorem d_LW_204 : decode code 204 = .ok (.ireturn, 1) := by decide +kernel
theorem d_LW_205 : decode code 205 = .ok (.aload_n 1, 1) := by decide +kernel
theorem d_LW_206 : decode code 206 = .ok (.aload_n 0, 1) := by decide +kernel
theorem d_LW_207 : decode code 207 = .ok (.iload_n 3, 1) := by decide +kernel
theorem d_LW_208 : decode code 208 = .ok (.iconst 1, 1) := by decide +kernel
theorem d_LW_209 : decode code 209 = .ok (.iadd, 1) := by decide +kernel
theorem d_LW_210 : decode code 210 = .ok (.iaload, 1) := by decide +kernel
theorem d_LW_211 : decode code 211 = .ok (.invokevirtual 29, 3) := by decide +kernel
theorem d_LW_214 : decode code 214 = .ok (.aload_n 2, 1) := by decide +kernel
theorem d_LW_215 : decode code 215 = .ok (.aload_n 0, 1) := by decide +kernel
theorem d_LW_216 : decode code 216 = .ok (.iload_n 3, 1) := by decide +kernel
theorem d_LW_217 : decode code 217 = .ok (.iconst 1, 1) := by decide +kernel
theorem d_LW_218 : decode code 218 = .ok (.iadd, 1) := by decide +kernel
theorem d_LW_219 : decode code 219 = .ok (.iaload, 1) := by decide +kernel
theorem d_LW_220 : decode code 220 = .ok (.invokevirtual 33, 3) := by decide +kernel
theorem d_LW_223 : decode code 223 = .ok (.if_icmp .eq 264, 3) := by decide +kernel
theorem d_LW_226 : decode code 226 = .ok (.iconst 0, 1) := by decide +kernel
theorem d_LW_227 : decode code 227 = .ok (.ireturn, 1) := by decide +kernel
theorem d_LW_228 : decode code 228 = .ok (.aload_n 1, 1) := by decide +kernel
theorem d_LW_229 : decode code 229 = .ok (.aload_n 0, 1) := by decide +kernel
theorem d_LW_230 : decode code 230 = .ok (.iload_n 3, 1) := by decide +kernel
theorem d_LW_231 : decode code 231 = .ok (.iconst 1, 1) := by decide +kernel
theorem d_LW_232 : decode code 232 = .ok (.iadd, 1) := by decide +kernel
theorem d_LW_233 : decode code 233 = .ok (.iaload, 1) := by decide +kernel
theorem d_LW_234 : decode code 234 = .ok (.invokevirtual 34, 3) := by decide +kernel
theorem d_LW_237 : decode code 237 = .ok (.aload_n 2, 1) := by decide +kernel
theorem d_LW_238 : decode code 238 = .ok (.aload_n 0, 1) := by decide +kernel
theorem d_LW_239 : decode code 239 = .ok (.iload_n 3, 1) := by decide +kernel
theorem d_LW_240 : decode code 240 = .ok (.iconst 1, 1) := by decide +kernel
theorem d_LW_241 : decode code 241 = .ok (.iadd, 1) := by decide +kernel
theorem d_LW_242 : decode code 242 = .ok (.iaload, 1) := by decide +kernel
theorem d_LW_243 : decode code 243 = .ok (.invokevirtual 37, 3) := by decide +kernel
theorem d_LW_246 : decode code 246 = .ok (.if_icmp .eq 241, 3) := by decide +kernel
theorem d_LW_249 : decode code 249 = .ok (.iconst 0, 1) := by decide +kernel
theorem d_LW_250 : decode code 250 = .ok (.ireturn, 1) := by decide +kernel
theorem d_LW_251 : decode code 251 = .ok (.aload_n 1, 1) := by decide +kernel
theorem d_LW_252 : decode code 252 = .ok (.aload_n 0, 1) := by decide +kernel
theorem d_LW_253 : decode code 253 = .ok (.iload_n 3, 1) := by decide +kernel
theorem d_LW_254 : decode code 254 = .ok (.iconst 1, 1) := by decide +kernel
theorem d_LW_255 : decode code 255 = .ok (.iadd, 1) := by decide +kernel
theorem d_LW_256 : decode code 256 = .ok (.iaload, 1) := by decide +kernel
theorem d_LW_257 : decode code 257 = .ok (.invokevirtual 38, 3) := by decide +kernel
theorem d_LW_260 : decode code 260 = .ok (.aload_n 2, 1) := by decide +kernel
theorem d_LW_261 : decode code 261 = .ok (.aload_n 0, 1) := by decide +kernel
theorem d_LW_262 : decode code 262 = .ok (.iload_n 3, 1) := by decide +kernel
theorem d_LW_263 : decode code 263 = .ok (.iconst 1, 1) := by decide +kernel
theorem d_LW_264 : decode code 264 = .ok (.iadd, 1) := by decide +kernel
theorem d_LW_265 : decode code 265 = .ok (.iaload, 1) := by decide +kernel
theorem d_LW_266 : decode code 266 = .ok (.invokevirtual 41, 3) := by decide +kernel
theorem d_LW_269 : decode code 269 = .ok (.if_icmp .eq 218, 3) := by decide +kernel
theorem d_LW_272 : decode code 272 = .ok (.iconst 0, 1) := by decide +kernel
theorem d_LW_273 : decode code 273 = .ok (.ireturn, 1) := by decide +kernel
theorem d_LW_274 : decode code 274 = .ok (.aload_n 1, 1) := by decide +kernel
theorem d_LW_275 : decode code 275 = .ok (.aload_n 0, 1) := by decide +kernel
theorem d_LW_276 : decode code 276 = .ok (.iload_n 3, 1) := by decide +kernel
theorem d_LW_277 : decode code 277 = .ok (.iconst 1, 1) := by decide +kernel
theorem d_LW_278 : decode code 278 = .ok (.iadd, 1) := by decide +kernel
theorem d_LW_279 : decode code 279 = .ok (.iaload, 1) := by decide +kernel
theorem d_LW_280 : decode code 280 = .ok (.invokevirtual 42, 3) := by decide +kernel
theorem d_LW_283 : decode code 283 = .ok (.aload_n 2, 1) := by decide +kernel
theorem d_LW_284 : decode code 284 = .ok (.aload_n 0, 1) := by decide +kernel
theorem d_LW_285 : decode code 285 = .ok (.iload_n 3, 1) := by decide +kernel
theorem d_LW_286 : decode code 286 = .ok (.iconst 1, 1) := by decide +kernel
theorem d_LW_287 : decode code 287 = .ok (.iadd, 1) := by decide +kernel
theorem d_LW_288 : decode code 288 = .ok (.iaload, 1) := by decide +kernel
theorem d_LW_289 : decode code 289 = .ok (.invokevirtual 45, 3) := by decide +kernel
theorem d_LW_292 : decode code 292 = .ok (.if_icmp .eq 195, 3) := by decide +kernel
theorem d_LW_295 : decode code 295 = .ok (.iconst 0, 1) := by decide +kernel
theorem d_LW_296 : decode code 296 = .ok (.ireturn, 1) := by decide +kernel
theorem d_LW_297 : decode code 297 = .ok (.aload_n 1, 1) := by decide +kernel
theorem d_LW_298 : decode code 298 = .ok (.aload_n 0, 1) := by decide +kernel
theorem d_LW_299 : decode code 299 = .ok (.iload_n 3, 1) := by decide +kernel
theorem d_LW_300 : decode code 300 = .ok (.iconst 1, 1) := by decide +kernel
theorem d_LW_301 : decode code 301 = .ok (.iadd, 1) := by decide +kernel
theorem d_LW_302 : decode code 302 = .ok (.iaload, 1) := by decide +kernel
theorem d_LW_303 : decode code 303 = .ok (.invokevirtual 46, 3) := by decide +kernel
theorem d_LW_306 : decode code 306 = .ok (.aload_n 2, 1) := by decide +kernel
theorem d_LW_307 : decode code 307 = .ok (.aload_n 0, 1) := by decide +kernel
theorem d_LW_308 : decode code 308 = .ok (.iload_n 3, 1) := by decide +kernel
theorem d_LW_309 : decode code 309 = .ok (.iconst 1, 1) := by decide +kernel
theorem d_LW_310 : decode code 310 = .ok (.iadd, 1) := by decide +kernel
theorem d_LW_311 : decode code 311 = .ok (.iaload, 1) := by decide +kernel
theorem d_LW_312 : decode code 312 = .ok (.invokevirtual 49, 3) := by decide +kernel
theorem d_LW_315 : decode code 315 = .ok (.if_icmp .eq 172, 3) := by decide +kernel
theorem d_LW_318 : decode code 318 = .ok (.iconst 0, 1) := by decide +kernel
theorem d_LW_319 : decode code 319 = .ok (.ireturn, 1) := by decide +kernel
theorem d_LW_320 : decode code 320 = .ok (.aload_n 1, 1) := by decide +kernel
theorem d_LW_321 : decode code 321 = .ok (.aload_n 0, 1) := by decide +kernel
theorem d_LW_322 : decode code 322 = .ok (.iload_n 3, 1) := by decide +kernel
theorem d_LW_323 : decode code 323 = .ok (.iconst 1, 1) := by decide +kernel
theorem d_LW_324 : decode code 324 = .ok (.iadd, 1) := by decide +kernel
theorem d_LW_325 : decode code 325 = .ok (.iaload, 1) := by decide +kernel
theorem d_LW_326 : decode code 326 = .ok (.invokevirtual 50, 3) := by decide +kernel
theorem d_LW_329 : decode code 329 = .ok (.aload_n 2, 1) := by decide +kernel
theorem d_LW_330 : decode code 330 = .ok (.aload_n 0, 1) := by decide +kernel
theorem d_LW_331 : decode code 331 = .ok (.iload_n 3, 1) := by decide +kernel
theorem d_LW_332 : decode code 332 = .ok (.iconst 1, 1) := by decide +kernel
theorem d_LW_333 : decode code 333 = .ok (.iadd, 1) := by decide +kernel
theorem d_LW_334 : decode code 334 = .ok (.iaload, 1) := by decide +kernel
theorem d_LW_335 : decode code 335 = .ok (.invokevirtual 53, 3) := by decide +kernel
theorem d_LW_338 : decode code 338 = .ok (.if_icmp .eq 149, 3) := by decide +kernel
theorem d_LW_341 : decode code 341 = .ok (.iconst 0, 1) := by decide +kernel
theorem d_LW_342 : decode code 342 = .ok (.ireturn, 1) := by decide +kernel
theorem d_LW_343 : decode code 343 = .ok (.aload_n 1, 1) := by decide +kernel
theorem d_LW_344 : decode code 344 = .ok (.invokevirtual 54, 3) := by decide +kernel
theorem d_LW_347 : decode code 347 = .ok (.aload_n 2, 1) := by decide +kernel
theorem d_LW_348 : decode code 348 = .ok (.invokevirtual 57, 3) := by decide +kernel
theorem d_LW_351 : decode code 351 = .ok (.if_icmp .eq 136, 3) := by decide +kernel
theorem d_LW_354 : decode code 354 = .ok (.iconst 0, 1) := by decide +kernel
theorem d_LW_355 : decode code 355 = .ok (.ireturn, 1) := by decide +kernel
theorem d_LW_356 : decode code 356 = .ok (.aload_n 1, 1) := by decide +kernel
theorem d_LW_357 : decode code 357 = .ok (.invokevirtual 58, 3) := by decide +kernel
theorem d_LW_360 : decode code 360 = .ok (.aload_n 2, 1) := by decide +kernel
theorem d_LW_361 : decode code 361 = .ok (.invokevirtual 61, 3) := by decide +kernel
theorem d_LW_364 : decode code 364 = .ok (.if_icmp .eq 123, 3) := by decide +kernel
theorem d_LW_367 : decode code 367 = .ok (.iconst 0, 1) := by decide +kernel
theorem d_LW_368 : decode code 368 = .ok (.ireturn, 1) := by decide +kernel
theorem d_LW_369 : decode code 369 = .ok (.aload_n 1, 1) := by decide +kernel
theorem d_LW_370 : decode code 370 = .ok (.invokevirtual 62, 3) := by decide +kernel
theorem d_LW_373 : decode code 373 = .ok (.aload_n 2, 1) := by decide +kernel
theorem d_LW_374 : decode code 374 = .ok (.invokevirtual 65, 3) := by decide +kernel
theorem d_LW_377 : decode code 377 = .ok (.if_icmp .eq 110, 3) := by decide +kernel
theorem d_LW_380 : decode code 380 = .ok (.iconst 0, 1) := by decide +kernel
theorem d_LW_381 : decode code 381 = .ok (.ireturn, 1) := by decide +kernel
theorem d_LW_382 : decode code 382 = .ok (.aload_n 1, 1) := by decide +kernel
theorem d_LW_383 : decode code 383 = .ok (.aload_n 0, 1) := by decide +kernel
theorem d_LW_384 : decode code 384 = .ok (.iload_n 3, 1) := by decide +kernel
theorem d_LW_385 : decode code 385 = .ok (.iconst 1, 1) := by decide +kernel
theorem d_LW_386 : decode code 386 = .ok (.iadd, 1) := by decide +kernel
theorem d_LW_387 : decode code 387 = .ok (.iaload, 1) := by decide +kernel
theorem d_LW_388 : decode code 388 = .ok (.invokevirtual 66, 3) := by decide +kernel
theorem d_LW_391 : decode code 391 = .ok (.aload_n 2, 1) := by decide +kernel
theorem d_LW_392 : decode code 392 = .ok (.aload_n 0, 1) := by decide +kernel
theorem d_LW_393 : decode code 393 = .ok (.iload_n 3, 1) := by decide +kernel
theorem d_LW_394 : decode code 394 = .ok (.iconst 1, 1) := by decide +kernel
theorem d_LW_395 : decode code 395 = .ok (.iadd, 1) := by decide +kernel
theorem d_LW_396 : decode code 396 = .ok (.iaload, 1) := by decide +kernel
theorem d_LW_397 : decode code 397 = .ok (.invokevirtual 69, 3) := by decide +kernel
theorem d_LW_400 : decode code 400 = .ok (.if_icmp .eq 87, 3) := by decide +kernel
theorem d_LW_403 : decode code 403 = .ok (.iconst 0, 1) := by decide +kernel
theorem d_LW_404 : decode code 404 = .ok (.ireturn, 1) := by decide +kernel
theorem d_LW_405 : decode code 405 = .ok (.aload_n 1, 1) := by decide +kernel
theorem d_LW_406 : decode code 406 = .ok (.invokevirtual 70, 3) := by decide +kernel
theorem d_LW_409 : decode code 409 = .ok (.aload_n 2, 1) := by decide +kernel
theorem d_LW_410 : decode code 410 = .ok (.invokevirtual 73, 3) := by decide +kernel
theorem d_LW_413 : decode code 413 = .ok (.if_icmp .eq 74, 3) := by decide +kernel
theorem d_LW_416 : decode code 416 = .ok (.iconst 0, 1) := by decide +kernel
theorem d_LW_417 : decode code 417 = .ok (.ireturn, 1) := by decide +kernel
theorem d_LW_418 : decode code 418 = .ok (.aload_n 1, 1) := by decide +kernel
theorem d_LW_419 : decode code 419 = .ok (.aload_n 0, 1) := by decide +kernel
theorem d_LW_420 : decode code 420 = .ok (.iload_n 3, 1) := by decide +kernel
theorem d_LW_421 : decode code 421 = .ok (.iconst 1, 1) := by decide +kernel
theorem d_LW_422 : decode code 422 = .ok (.iadd, 1) := by decide +kernel
theorem d_LW_423 : decode code 423 = .ok (.iaload, 1) := by decide +kernel
theorem d_LW_424 : decode code 424 = .ok (.invokevirtual 74, 3) := by decide +kernel
theorem d_LW_427 : decode code 427 = .ok (.aload_n 2, 1) := by decide +kernel
theorem d_LW_428 : decode code 428 = .ok (.aload_n 0, 1) := by decide +kernel
theorem d_LW_429 : decode code 429 = .ok (.iload_n 3, 1) := by decide +kernel
theorem d_LW_430 : decode code 430 = .ok (.iconst 1, 1) := by decide +kernel
theorem d_LW_431 : decode code 431 = .ok (.iadd, 1) := by decide +kernel
theorem d_LW_432 : decode code 432 = .ok (.iaload, 1) := by decide +kernel
theorem d_LW_433 : decode code 433 = .ok (.invokevirtual 77, 3) := by decide +kernel
theorem d_LW_436 : decode code 436 = .ok (.if_icmp .eq 51, 3) := by decide +kernel
theorem d_LW_439 : decode code 439 = .ok (.iconst 0, 1) := by decide +kernel
theorem d_LW_440 : decode code 440 = .ok (.ireturn, 1) := by decide +kernel
theorem d_LW_441 : decode code 441 = .ok (.aload_n 1, 1) := by decide +kernel
theorem d_LW_442 : decode code 442 = .ok (.aload_n 0, 1) := by decide +kernel
theorem d_LW_443 : decode code 443 = .ok (.iload_n 3, 1) := by decide +kernel
theorem d_LW_444 : decode code 444 = .ok (.iconst 1, 1) := by decide +kernel
theorem d_LW_445 : decode code 445 = .ok (.iadd, 1) := by decide +kernel
theorem d_LW_446 : decode code 446 = .ok (.iaload, 1) := by decide +kernel
theorem d_LW_447 : decode code 447 = .ok (.invokevirtual 78, 3) := by decide +kernel
theorem d_LW_450 : decode code 450 = .ok (.aload_n 2, 1) := by decide +kernel
theorem d_LW_451 : decode code 451 = .ok (.aload_n 0, 1) := by decide +kernel
theorem d_LW_452 : decode code 452 = .ok (.iload_n 3, 1) := by decide +kernel
theorem d_LW_453 : decode code 453 = .ok (.iconst 1, 1) := by decide +kernel
theorem d_LW_454 : decode code 454 = .ok (.iadd, 1) := by decide +kernel
theorem d_LW_455 : decode code 455 = .ok (.iaload, 1) := by decide +kernel
theorem d_LW_456 : decode code 456 = .ok (.invokevirtual 81, 3) := by decide +kernel
theorem d_LW_459 : decode code 459 = .ok (.if_icmp .eq 28, 3) := by decide +kernel
theorem d_LW_462 : decode code 462 = .ok (.iconst 0, 1) := by decide +kernel
theorem d_LW_463 : decode code 463 = .ok (.ireturn, 1) := by decide +kernel
theorem d_LW_464 : decode code 464 = .ok (.aload_n 1, 1) := by decide +kernel
theorem d_LW_465 : decode code 465 = .ok (.aload_n 0, 1) := by decide +kernel
theorem d_LW_466 : decode code 466 = .ok (.iload_n 3, 1) := by decide +kernel
theorem d_LW_467 : decode code 467 = .ok (.iconst 1, 1) := by decide +kernel
theorem d_LW_468 : decode code 468 = .ok (.iadd, 1) := by decide +kernel
theorem d_LW_469 : decode code 469 = .ok (.iaload, 1) := by decide +kernel
theorem d_LW_470 : decode code 470 = .ok (.invokevirtual 82, 3) := by decide +kernel
theorem d_LW_473 : decode code 473 = .ok (.aload_n 2, 1) := by decide +kernel
theorem d_LW_474 : decode code 474 = .ok (.aload_n 0, 1) := by decide +kernel
theorem d_LW_475 : decode code 475 = .ok (.iload_n 3, 1) := by decide +kernel
theorem d_LW_476 : decode code 476 = .ok (.iconst 1, 1) := by decide +kernel
theorem d_LW_477 : decode code 477 = .ok (.iadd, 1) := by decide +kernel
theorem d_LW_478 : decode code 478 = .ok (.iaload, 1) := by decide +kernel
theorem d_LW_479 : decode code 479 = .ok (.invokevirtual 85, 3) := by decide +kernel
theorem d_LW_482 : decode code 482 = .ok (.if_icmp .eq 5, 3) := by decide +kernel
theorem d_LW_485 : decode code 485 = .ok (.iconst 0, 1) := by decide +kernel
theorem d_LW_486 : decode code 486 = .ok (.ireturn, 1) := by decide +kernel
theorem d_LW_487 : decode code 487 = .ok (.iinc 3 4, 3) := by decide +kernel
theorem d_LW_490 : decode code 490 = .ok (.goto (-472), 3) := by decide +kernel
theorem d_LW_493 : decode code 493 = .ok (.iconst 1, 1) := by decide +kernel
theorem d_LW_494 : decode code 494 = .ok (.ireturn, 1) := by decide +kernel
end
section
/-! ints by their numbers; arrays as functions of Int -/
def iI (z : Int) : Int32 := Int32.ofInt z
theorem iI_toInt {z : Int} (h1 : -2147483648 ≤ z) (h2 : z < 2147483648) : (iI z).toInt = z := Int32.toInt_ofInt_of_le (by omega) (by omega)
theorem iI_of (x : Int32) : x = iI x.toInt := (Int32.ofInt_toInt x).symm
theorem iI_rng (x : Int32) : -2147483648 ≤ x.toInt ∧ x.toInt < 2147483648 := ⟨by have := Int32.le_toInt x; omega, by have := Int32.toInt_lt x; omega⟩
theorem iI_ex (x : Int32) : ∃ z : Int, x = iI z ∧ -2147483648 ≤ z ∧ z < 2147483648 := ⟨x.toInt, iI_of x, iI_rng x⟩
theorem iI_add (a b : Int) : iI a + iI b = iI (a + b) := (Int32.ofInt_add a b).symm
theorem iI_sub (a b : Int) : iI a - iI b = iI (a - b) := (Int32.ofInt_sub a b).symm
theorem iI_mul (a b : Int) : iI a * iI b = iI (a * b) := (Int32.ofInt_mul a b).symm
abbrev iR (a : Int) : Prop := -2147483648 ≤ a ∧ a < 2147483648
theorem iI_lt {a b : Int} (ha : iR a) (hb : iR b) : iI a < iI b ↔ a < b := by
  rw [Int32.lt_iff_toInt_lt, iI_toInt ha.1 ha.2, iI_toInt hb.1 hb.2]
theorem iI_le {a b : Int} (ha : iR a) (hb : iR b) : iI a ≤ iI b ↔ a ≤ b := by
  rw [Int32.le_iff_toInt_le, iI_toInt ha.1 ha.2, iI_toInt hb.1 hb.2]
theorem iI_eq {a b : Int} (ha : iR a) (hb : iR b) : iI a = iI b ↔ a = b := by
  rw [← Int32.toInt_inj, iI_toInt ha.1 ha.2, iI_toInt hb.1 hb.2]
theorem iI_cl {a : Int} (h1 : 0 ≤ a) (h2 : a < 2147483648) : (iI a).toNatClampNeg = a.toNat := Int32.toNatClampNeg_ofInt_of_le (by omega) (by omega)
theorem iI_in {a : Int} {n : Nat} (h1 : 0 ≤ a) (h2 : a < n) (hn : n < 2147483648) : vp_in (iI a) n := vp_in_iff.mpr (by rw [iI_toInt (by omega) (by omega)]; omega)
theorem iI_zero : (0 : Int32) = iI 0 := by decide
def aI (g : Int → Int) : Nat → Int32 := fun j => iI (g (j : Int))
def iup (g : Int → Int) (k x : Int) : Int → Int := fun j => if j = k then x else g j
def icpy (f g : Int → Int) (sp dp n : Int) : Int → Int := fun j => if dp ≤ j ∧ j < dp + n then f (sp + (j - dp)) else g j
theorem iup_eq {g : Int → Int} {k x j : Int} (h : j = k) : iup g k x j = x := by simp [iup, h]
theorem iup_ne {g : Int → Int} {k x j : Int} (h : j ≠ k) : iup g k x j = g j := by simp [iup, h]
theorem aI_up {g : Int → Int} {k x : Int} (h0 : 0 ≤ k) (h1 : k < 2147483648) : upd (aI g) (iI k).toNatClampNeg (iI x) = aI (iup g k x) := by
  rw [iI_cl h0 h1]
  funext j
  by_cases hj : j = k.toNat
  · subst hj
    have e : ((k.toNat : Nat) : Int) = k := Int.toNat_of_nonneg h0
    simp only [upd, aI, iup, if_pos e, if_true]
  · have e : ¬ ((j : Nat) : Int) = k := fun z => hj (by omega)
    simp only [upd, aI, iup, if_neg e, if_neg hj]
theorem aI_cpy {f g : Int → Int} {sp dp n : Int} (h1 : 0 ≤ sp) (h2 : 0 ≤ dp) (h3 : 0 ≤ n) : va_cpy (aI f) (aI g) sp.toNat dp.toNat n.toNat = aI (icpy f g sp dp n) := by
  funext j
  simp only [va_cpy, aI, icpy]
  by_cases hj : dp.toNat ≤ j ∧ j < dp.toNat + n.toNat
  · have e : dp ≤ (j : Int) ∧ (j : Int) < dp + n := by omega
    rw [if_pos hj, if_pos e]
    have e2 : ((sp.toNat + (j - dp.toNat) : Nat) : Int) = sp + ((j : Int) - dp) := by omega
    rw [e2]
  · have e : ¬ (dp ≤ (j : Int) ∧ (j : Int) < dp + n) := by omega
    rw [if_neg hj, if_neg e]
theorem aI_zero : (fun _ : Nat => (0 : Int32)) = aI (fun _ => 0) := by
  funext j
  exact iI_zero
theorem x_fm {α β : Type} {f : α → Option β} : ∀ {is : List α} {w : List β}, is.map f = w.map some → is.filterMap f = w
  | [], w, h => by
    cases w with
    | nil => rfl
    | cons a t => simp at h
  | i :: is, w, h => by
    cases w with
    | nil => simp at h
    | cons a t =>
      simp only [List.map_cons, List.cons.injEq] at h
      rw [List.filterMap_cons, h.1, x_fm h.2]
/-! the judgement over lists -/
def xC (p : Program) (s : State) (m : MethodId) (args : Array Value) (c : Code) (cc : ByteArray) (nL : Nat) (own : String) (Ts : List Cond) (D : va_G) (cl : List vw_C) (tys : List (ClassId × FieldType)) (A : Nat → Prop) : Prop :=
  p.tables.exec = Jvm.exec ∧ c.code = cc ∧ c.maxLocals = nL ∧ s.vm.findClass own = some m.cls ∧ (∀ w ∈ Ts, w.before args s = true) ∧ va_K D cl tys s ∧ (∀ q, s.heap.size ≤ q → A q)
def xG (p : Program) (l : Launch) (e : Env) (R : Room) (s : State) (m : MethodId) (args : Array Value) (below : List Frame) (meth : Method) (c : Code) (Q : State → Prop) (nL : Nat) (D : va_G) (cl : List vw_C) (A : Nat → Prop) (cells slots : Nat) (ws : va_W) (pc : Nat) (lv : List (Nat × Value)) (st : List Value) : Prop :=
  ∀ (H : Heap) (locs : List Loc) (ls : Array Slot), va_P D cl ws H → va_D A ws → va_S A s.heap H locs → lv_has ls nL lv → W p l e R s m args below meth c H locs cells slots Q (F0 m pc ls st)
section XG
variable {p : Program} {l : Launch} {e : Env} {R : Room} {s : State} {m : MethodId} {args : Array Value} {below : List Frame} {meth : Method} {c : Code} {Q : State → Prop}
variable {cc : ByteArray} {nL : Nat} {own : String} {Ts : List Cond} {D : va_G} {cl : List vw_C} {tys : List (ClassId × FieldType)} {A : Nat → Prop} {cells slots : Nat} {ws : va_W} {pc : Nat} {lv : List (Nat × Value)} {st : List Value}
theorem g_iconst (X : xC p s m args c cc nL own Ts D cl tys A) {n : Int} (hd : decode cc pc = .ok (.iconst n, 1)) (k : xG p l e R s m args below meth c Q nL D cl A cells slots ws (pc + 1) lv (.int (iI n) :: st)) : xG p l e R s m args below meth c Q nL D cl A cells slots ws pc lv st :=
  fun H locs ls hP hD hS hl => lv_iconst X.1 X.2.1 hd rfl (k H locs ls hP hD hS hl)
theorem g_bipush (X : xC p s m args c cc nL own Ts D cl tys A) {n v : Int} (hd : decode cc pc = .ok (.bipush n, 2)) (hv : (Int8.ofInt n).toInt32 = iI v) (k : xG p l e R s m args below meth c Q nL D cl A cells slots ws (pc + 2) lv (.int (iI v) :: st)) : xG p l e R s m args below meth c Q nL D cl A cells slots ws pc lv st :=
  fun H locs ls hP hD hS hl => lv_bipush X.1 X.2.1 hd hv (k H locs ls hP hD hS hl)
theorem g_sipush (X : xC p s m args c cc nL own Ts D cl tys A) {n v : Int} (hd : decode cc pc = .ok (.sipush n, 3)) (hv : (Int16.ofInt n).toInt32 = iI v) (k : xG p l e R s m args below meth c Q nL D cl A cells slots ws (pc + 3) lv (.int (iI v) :: st)) : xG p l e R s m args below meth c Q nL D cl A cells slots ws pc lv st :=
  fun H locs ls hP hD hS hl => lv_sipush X.1 X.2.1 hd hv (k H locs ls hP hD hS hl)
theorem g_ldc2 (X : xC p s m args c cc nL own Ts D cl tys A) {index : Nat} {v : Int64} (hw : Cond.constantLong own index v ∈ Ts) (hd : decode cc pc = .ok (.ldc2_w index, 3)) (k : xG p l e R s m args below meth c Q nL D cl A cells slots ws (pc + 3) lv (.long v :: st)) : xG p l e R s m args below meth c Q nL D cl A cells slots ws pc lv st :=
  fun H locs ls hP hD hS hl => lv_ldc2 X.1 X.2.1 X.2.2.2.1 (X.2.2.2.2.1 _ hw) hd (k H locs ls hP hD hS hl)
theorem g_iload_n (X : xC p s m args c cc nL own Ts D cl tys A) {k0 : Fin 4} {i : Nat} {x : Int32} (hd : decode cc pc = .ok (.iload_n k0, 1)) (hi : (k0 : Nat) = i) (j : Nat) (hj : lv[j]? = some (i, .int x)) (k : xG p l e R s m args below meth c Q nL D cl A cells slots ws (pc + 1) lv (.int x :: st)) : xG p l e R s m args below meth c Q nL D cl A cells slots ws pc lv st :=
  fun H locs ls hP hD hS hl => lv_iload_n X.1 X.2.1 hd hi (lv_at hl j hj) (k H locs ls hP hD hS hl)
theorem g_iload (X : xC p s m args c cc nL own Ts D cl tys A) {i : Nat} {x : Int32} (hd : decode cc pc = .ok (.iload i, 2)) (j : Nat) (hj : lv[j]? = some (i, .int x)) (k : xG p l e R s m args below meth c Q nL D cl A cells slots ws (pc + 2) lv (.int x :: st)) : xG p l e R s m args below meth c Q nL D cl A cells slots ws pc lv st :=
  fun H locs ls hP hD hS hl => lv_iload X.1 X.2.1 hd (lv_at hl j hj) (k H locs ls hP hD hS hl)
theorem g_lload_n (X : xC p s m args c cc nL own Ts D cl tys A) {k0 : Fin 4} {i : Nat} {x : Int64} (hd : decode cc pc = .ok (.lload_n k0, 1)) (hi : (k0 : Nat) = i) (j : Nat) (hj : lv[j]? = some (i, .long x)) (k : xG p l e R s m args below meth c Q nL D cl A cells slots ws (pc + 1) lv (.long x :: st)) : xG p l e R s m args below meth c Q nL D cl A cells slots ws pc lv st :=
  fun H locs ls hP hD hS hl => lv_lload_n X.1 X.2.1 hd hi (lv_at hl j hj) (k H locs ls hP hD hS hl)
theorem g_lload (X : xC p s m args c cc nL own Ts D cl tys A) {i : Nat} {x : Int64} (hd : decode cc pc = .ok (.lload i, 2)) (j : Nat) (hj : lv[j]? = some (i, .long x)) (k : xG p l e R s m args below meth c Q nL D cl A cells slots ws (pc + 2) lv (.long x :: st)) : xG p l e R s m args below meth c Q nL D cl A cells slots ws pc lv st :=
  fun H locs ls hP hD hS hl => lv_lload X.1 X.2.1 hd (lv_at hl j hj) (k H locs ls hP hD hS hl)
theorem g_aload_n (X : xC p s m args c cc nL own Ts D cl tys A) {k0 : Fin 4} {i : Nat} {x : Nat} (hd : decode cc pc = .ok (.aload_n k0, 1)) (hi : (k0 : Nat) = i) (j : Nat) (hj : lv[j]? = some (i, .ref x)) (k : xG p l e R s m args below meth c Q nL D cl A cells slots ws (pc + 1) lv (.ref x :: st)) : xG p l e R s m args below meth c Q nL D cl A cells slots ws pc lv st :=
  fun H locs ls hP hD hS hl => lv_aload_n X.1 X.2.1 hd hi (lv_at hl j hj) (k H locs ls hP hD hS hl)
theorem g_aload (X : xC p s m args c cc nL own Ts D cl tys A) {i : Nat} {x : Nat} (hd : decode cc pc = .ok (.aload i, 2)) (j : Nat) (hj : lv[j]? = some (i, .ref x)) (k : xG p l e R s m args below meth c Q nL D cl A cells slots ws (pc + 2) lv (.ref x :: st)) : xG p l e R s m args below meth c Q nL D cl A cells slots ws pc lv st :=
  fun H locs ls hP hD hS hl => lv_aload X.1 X.2.1 hd (lv_at hl j hj) (k H locs ls hP hD hS hl)
theorem g_istore_n (X : xC p s m args c cc nL own Ts D cl tys A) {k0 : Fin 4} {i : Nat} {x : Int32} {lv' : List (Nat × Value)} (hd : decode cc pc = .ok (.istore_n k0, 1)) (hi : (k0 : Nat) = i) (hn : i < nL) (hl' : (i, Value.int x) :: lv.filter (fun q => !(q.1 == i) && !(q.1 + 1 == i && q.2.category == 2)) = lv') (k : xG p l e R s m args below meth c Q nL D cl A cells slots ws (pc + 1) lv' st) : xG p l e R s m args below meth c Q nL D cl A cells slots ws pc lv (.int x :: st) :=
  fun H locs ls hP hD hS hl => lv_istore_n X.1 X.2.1 hd hi hl hn hl' (fun ls' h' => k H locs ls' hP hD hS h')
theorem g_istore (X : xC p s m args c cc nL own Ts D cl tys A) {i : Nat} {x : Int32} {lv' : List (Nat × Value)} (hd : decode cc pc = .ok (.istore i, 2)) (hn : i < nL) (hl' : (i, Value.int x) :: lv.filter (fun q => !(q.1 == i) && !(q.1 + 1 == i && q.2.category == 2)) = lv') (k : xG p l e R s m args below meth c Q nL D cl A cells slots ws (pc + 2) lv' st) : xG p l e R s m args below meth c Q nL D cl A cells slots ws pc lv (.int x :: st) :=
  fun H locs ls hP hD hS hl => lv_istore X.1 X.2.1 hd hl hn hl' (fun ls' h' => k H locs ls' hP hD hS h')
theorem g_astore_n (X : xC p s m args c cc nL own Ts D cl tys A) {k0 : Fin 4} {i : Nat} {x : Nat} {lv' : List (Nat × Value)} (hd : decode cc pc = .ok (.astore_n k0, 1)) (hi : (k0 : Nat) = i) (hn : i < nL) (hl' : (i, Value.ref x) :: lv.filter (fun q => !(q.1 == i) && !(q.1 + 1 == i && q.2.category == 2)) = lv') (k : xG p l e R s m args below meth c Q nL D cl A cells slots ws (pc + 1) lv' st) : xG p l e R s m args below meth c Q nL D cl A cells slots ws pc lv (.ref x :: st) :=
  fun H locs ls hP hD hS hl => lv_astore_n X.1 X.2.1 hd hi hl hn hl' (fun ls' h' => k H locs ls' hP hD hS h')
theorem g_astore (X : xC p s m args c cc nL own Ts D cl tys A) {i : Nat} {x : Nat} {lv' : List (Nat × Value)} (hd : decode cc pc = .ok (.astore i, 2)) (hn : i < nL) (hl' : (i, Value.ref x) :: lv.filter (fun q => !(q.1 == i) && !(q.1 + 1 == i && q.2.category == 2)) = lv') (k : xG p l e R s m args below meth c Q nL D cl A cells slots ws (pc + 2) lv' st) : xG p l e R s m args below meth c Q nL D cl A cells slots ws pc lv (.ref x :: st) :=
  fun H locs ls hP hD hS hl => lv_astore X.1 X.2.1 hd hl hn hl' (fun ls' h' => k H locs ls' hP hD hS h')
theorem g_iinc (X : xC p s m args c cc nL own Ts D cl tys A) {i : Nat} {n x : Int} {lv' : List (Nat × Value)} (hd : decode cc pc = .ok (.iinc i n, 3)) (j : Nat) (hj : lv[j]? = some (i, .int (iI x))) (hn : i < nL) (hl' : (i, Value.int (iI (x + n))) :: lv.filter (fun q => !(q.1 == i) && !(q.1 + 1 == i && q.2.category == 2)) = lv') (k : xG p l e R s m args below meth c Q nL D cl A cells slots ws (pc + 3) lv' st) : xG p l e R s m args below meth c Q nL D cl A cells slots ws pc lv st :=
  fun H locs ls hP hD hS hl => lv_iinc X.1 X.2.1 hd hl hj (iI_add x n) hn hl' (fun ls' h' => k H locs ls' hP hD hS h')
theorem g_iadd (X : xC p s m args c cc nL own Ts D cl tys A) {a b : Int} (hd : decode cc pc = .ok (.iadd, 1)) (k : xG p l e R s m args below meth c Q nL D cl A cells slots ws (pc + 1) lv (.int (iI (a + b)) :: st)) : xG p l e R s m args below meth c Q nL D cl A cells slots ws pc lv (.int (iI b) :: .int (iI a) :: st) :=
  fun H locs ls hP hD hS hl => lv_iadd X.1 X.2.1 hd (by rw [iI_add]; exact k H locs ls hP hD hS hl)
theorem g_isub (X : xC p s m args c cc nL own Ts D cl tys A) {a b : Int} (hd : decode cc pc = .ok (.isub, 1)) (k : xG p l e R s m args below meth c Q nL D cl A cells slots ws (pc + 1) lv (.int (iI (a - b)) :: st)) : xG p l e R s m args below meth c Q nL D cl A cells slots ws pc lv (.int (iI b) :: .int (iI a) :: st) :=
  fun H locs ls hP hD hS hl => lv_isub X.1 X.2.1 hd (by rw [iI_sub]; exact k H locs ls hP hD hS hl)
theorem g_imul (X : xC p s m args c cc nL own Ts D cl tys A) {a b : Int} (hd : decode cc pc = .ok (.imul, 1)) (k : xG p l e R s m args below meth c Q nL D cl A cells slots ws (pc + 1) lv (.int (iI (a * b)) :: st)) : xG p l e R s m args below meth c Q nL D cl A cells slots ws pc lv (.int (iI b) :: .int (iI a) :: st) :=
  fun H locs ls hP hD hS hl => lv_imul X.1 X.2.1 hd (by rw [iI_mul]; exact k H locs ls hP hD hS hl)
theorem g_iand (X : xC p s m args c cc nL own Ts D cl tys A) {x y z : Int32} (hd : decode cc pc = .ok (.iand, 1)) (hz : x &&& y = z) (k : xG p l e R s m args below meth c Q nL D cl A cells slots ws (pc + 1) lv (.int z :: st)) : xG p l e R s m args below meth c Q nL D cl A cells slots ws pc lv (.int y :: .int x :: st) :=
  fun H locs ls hP hD hS hl => lv_iand X.1 X.2.1 hd (by rw [hz]; exact k H locs ls hP hD hS hl)
theorem g_land (X : xC p s m args c cc nL own Ts D cl tys A) {x y z : Int64} (hd : decode cc pc = .ok (.land, 1)) (hz : x &&& y = z) (k : xG p l e R s m args below meth c Q nL D cl A cells slots ws (pc + 1) lv (.long z :: st)) : xG p l e R s m args below meth c Q nL D cl A cells slots ws pc lv (.long y :: .long x :: st) :=
  fun H locs ls hP hD hS hl => lv_land X.1 X.2.1 hd (by rw [hz]; exact k H locs ls hP hD hS hl)
theorem g_lor (X : xC p s m args c cc nL own Ts D cl tys A) {x y z : Int64} (hd : decode cc pc = .ok (.lor, 1)) (hz : x ||| y = z) (k : xG p l e R s m args below meth c Q nL D cl A cells slots ws (pc + 1) lv (.long z :: st)) : xG p l e R s m args below meth c Q nL D cl A cells slots ws pc lv (.long y :: .long x :: st) :=
  fun H locs ls hP hD hS hl => lv_lor X.1 X.2.1 hd (by rw [hz]; exact k H locs ls hP hD hS hl)
theorem g_lushr (X : xC p s m args c cc nL own Ts D cl tys A) {x v : Int64} {y : Int32} (hd : decode cc pc = .ok (.lushr, 1)) (hv : (x.toUInt64 >>> (y.toInt64.toUInt64 &&& Int64.toUInt64 63)).toInt64 = v) (k : xG p l e R s m args below meth c Q nL D cl A cells slots ws (pc + 1) lv (.long v :: st)) : xG p l e R s m args below meth c Q nL D cl A cells slots ws pc lv (.int y :: .long x :: st) :=
  fun H locs ls hP hD hS hl => lv_lushr X.1 X.2.1 hd hv (k H locs ls hP hD hS hl)
theorem g_lshr (X : xC p s m args c cc nL own Ts D cl tys A) {x v : Int64} {y : Int32} (hd : decode cc pc = .ok (.lshr, 1)) (hv : x >>> (y.toInt64 &&& 63) = v) (k : xG p l e R s m args below meth c Q nL D cl A cells slots ws (pc + 1) lv (.long v :: st)) : xG p l e R s m args below meth c Q nL D cl A cells slots ws pc lv (.int y :: .long x :: st) :=
  fun H locs ls hP hD hS hl => lv_lshr X.1 X.2.1 hd hv (k H locs ls hP hD hS hl)
theorem g_lshl (X : xC p s m args c cc nL own Ts D cl tys A) {x v : Int64} {y : Int32} (hd : decode cc pc = .ok (.lshl, 1)) (hv : x <<< (y.toInt64 &&& 63) = v) (k : xG p l e R s m args below meth c Q nL D cl A cells slots ws (pc + 1) lv (.long v :: st)) : xG p l e R s m args below meth c Q nL D cl A cells slots ws pc lv (.int y :: .long x :: st) :=
  fun H locs ls hP hD hS hl => lv_lshl X.1 X.2.1 hd hv (k H locs ls hP hD hS hl)
theorem g_i2l (X : xC p s m args c cc nL own Ts D cl tys A) {x : Int32} {v : Int64} (hd : decode cc pc = .ok (.i2l, 1)) (hv : x.toInt64 = v) (k : xG p l e R s m args below meth c Q nL D cl A cells slots ws (pc + 1) lv (.long v :: st)) : xG p l e R s m args below meth c Q nL D cl A cells slots ws pc lv (.int x :: st) :=
  fun H locs ls hP hD hS hl => lv_i2l X.1 X.2.1 hd hv (k H locs ls hP hD hS hl)
theorem g_l2i (X : xC p s m args c cc nL own Ts D cl tys A) {x : Int64} {v : Int32} (hd : decode cc pc = .ok (.l2i, 1)) (hv : x.toInt32 = v) (k : xG p l e R s m args below meth c Q nL D cl A cells slots ws (pc + 1) lv (.int v :: st)) : xG p l e R s m args below meth c Q nL D cl A cells slots ws pc lv (.long x :: st) :=
  fun H locs ls hP hD hS hl => lv_l2i X.1 X.2.1 hd hv (k H locs ls hP hD hS hl)
theorem g_dup (X : xC p s m args c cc nL own Ts D cl tys A) {v : Value} (hd : decode cc pc = .ok (.dup, 1)) (hv : v.category = 1) (k : xG p l e R s m args below meth c Q nL D cl A cells slots ws (pc + 1) lv (v :: v :: st)) : xG p l e R s m args below meth c Q nL D cl A cells slots ws pc lv (v :: st) :=
  fun H locs ls hP hD hS hl => lv_dup X.1 X.2.1 hd hv (k H locs ls hP hD hS hl)
theorem g_pop (X : xC p s m args c cc nL own Ts D cl tys A) {v : Value} (hd : decode cc pc = .ok (.pop, 1)) (hv : v.category = 1) (k : xG p l e R s m args below meth c Q nL D cl A cells slots ws (pc + 1) lv st) : xG p l e R s m args below meth c Q nL D cl A cells slots ws pc lv (v :: st) :=
  fun H locs ls hP hD hS hl => lv_pop X.1 X.2.1 hd hv (k H locs ls hP hD hS hl)
theorem g_dup2 (X : xC p s m args c cc nL own Ts D cl tys A) {v w : Value} (hd : decode cc pc = .ok (.dup2, 1)) (hv : v.category = 1) (hw : w.category = 1) (k : xG p l e R s m args below meth c Q nL D cl A cells slots ws (pc + 1) lv (v :: w :: v :: w :: st)) : xG p l e R s m args below meth c Q nL D cl A cells slots ws pc lv (v :: w :: st) :=
  fun H locs ls hP hD hS hl => lv_dup2_11 X.1 X.2.1 hd hv hw (k H locs ls hP hD hS hl)
theorem g_icmp_eq (X : xC p s m args c cc nL own Ts D cl tys A) {a b off : Int} {tgt : Nat} (hd : decode cc pc = .ok (.if_icmp .eq off, 3)) (ht : (pc : Int) + off = (tgt : Int)) (ha : iR a) (hb : iR b) (kt : a = b → xG p l e R s m args below meth c Q nL D cl A cells slots ws tgt lv st) (kf : a ≠ b → xG p l e R s m args below meth c Q nL D cl A cells slots ws (pc + 3) lv st) : xG p l e R s m args below meth c Q nL D cl A cells slots ws pc lv (.int (iI b) :: .int (iI a) :: st) :=
  fun H locs ls hP hD hS hl => lv_icmp_eq X.1 X.2.1 hd ht (fun h => kt ((iI_eq ha hb).mp h) H locs ls hP hD hS hl) (fun h => kf (fun z => h ((iI_eq ha hb).mpr z)) H locs ls hP hD hS hl)
theorem g_if_eq (X : xC p s m args c cc nL own Ts D cl tys A) {a off : Int} {tgt : Nat} (hd : decode cc pc = .ok (.ifCond .eq off, 3)) (ht : (pc : Int) + off = (tgt : Int)) (ha : iR a) (kt : a = 0 → xG p l e R s m args below meth c Q nL D cl A cells slots ws tgt lv st) (kf : a ≠ 0 → xG p l e R s m args below meth c Q nL D cl A cells slots ws (pc + 3) lv st) : xG p l e R s m args below meth c Q nL D cl A cells slots ws pc lv (.int (iI a) :: st) :=
  fun H locs ls hP hD hS hl => lv_if_eq X.1 X.2.1 hd ht (fun h => by rw [iI_zero] at h; exact kt ((iI_eq ha (show iR 0 by omega)).mp h) H locs ls hP hD hS hl) (fun h => by rw [iI_zero] at h; exact kf (fun z => h ((iI_eq ha (show iR 0 by omega)).mpr z)) H locs ls hP hD hS hl)
theorem g_icmp_ne (X : xC p s m args c cc nL own Ts D cl tys A) {a b off : Int} {tgt : Nat} (hd : decode cc pc = .ok (.if_icmp .ne off, 3)) (ht : (pc : Int) + off = (tgt : Int)) (ha : iR a) (hb : iR b) (kt : a ≠ b → xG p l e R s m args below meth c Q nL D cl A cells slots ws tgt lv st) (kf : a = b → xG p l e R s m args below meth c Q nL D cl A cells slots ws (pc + 3) lv st) : xG p l e R s m args below meth c Q nL D cl A cells slots ws pc lv (.int (iI b) :: .int (iI a) :: st) :=
  fun H locs ls hP hD hS hl => lv_icmp_ne X.1 X.2.1 hd ht (fun h => kt (fun z => h ((iI_eq ha hb).mpr z)) H locs ls hP hD hS hl) (fun h => kf ((iI_eq ha hb).mp h) H locs ls hP hD hS hl)
theorem g_if_ne (X : xC p s m args c cc nL own Ts D cl tys A) {a off : Int} {tgt : Nat} (hd : decode cc pc = .ok (.ifCond .ne off, 3)) (ht : (pc : Int) + off = (tgt : Int)) (ha : iR a) (kt : a ≠ 0 → xG p l e R s m args below meth c Q nL D cl A cells slots ws tgt lv st) (kf : a = 0 → xG p l e R s m args below meth c Q nL D cl A cells slots ws (pc + 3) lv st) : xG p l e R s m args below meth c Q nL D cl A cells slots ws pc lv (.int (iI a) :: st) :=
  fun H locs ls hP hD hS hl => lv_if_ne X.1 X.2.1 hd ht (fun h => by rw [iI_zero] at h; exact kt (fun z => h ((iI_eq ha (show iR 0 by omega)).mpr z)) H locs ls hP hD hS hl) (fun h => by rw [iI_zero] at h; exact kf ((iI_eq ha (show iR 0 by omega)).mp h) H locs ls hP hD hS hl)
theorem g_icmp_lt (X : xC p s m args c cc nL own Ts D cl tys A) {a b off : Int} {tgt : Nat} (hd : decode cc pc = .ok (.if_icmp .lt off, 3)) (ht : (pc : Int) + off = (tgt : Int)) (ha : iR a) (hb : iR b) (kt : a < b → xG p l e R s m args below meth c Q nL D cl A cells slots ws tgt lv st) (kf : b ≤ a → xG p l e R s m args below meth c Q nL D cl A cells slots ws (pc + 3) lv st) : xG p l e R s m args below meth c Q nL D cl A cells slots ws pc lv (.int (iI b) :: .int (iI a) :: st) :=
  fun H locs ls hP hD hS hl => lv_icmp_lt X.1 X.2.1 hd ht (fun h => kt ((iI_lt ha hb).mp h) H locs ls hP hD hS hl) (fun h => kf (Int.not_lt.mp (fun z => h ((iI_lt ha hb).mpr z))) H locs ls hP hD hS hl)
theorem g_if_lt (X : xC p s m args c cc nL own Ts D cl tys A) {a off : Int} {tgt : Nat} (hd : decode cc pc = .ok (.ifCond .lt off, 3)) (ht : (pc : Int) + off = (tgt : Int)) (ha : iR a) (kt : a < 0 → xG p l e R s m args below meth c Q nL D cl A cells slots ws tgt lv st) (kf : 0 ≤ a → xG p l e R s m args below meth c Q nL D cl A cells slots ws (pc + 3) lv st) : xG p l e R s m args below meth c Q nL D cl A cells slots ws pc lv (.int (iI a) :: st) :=
  fun H locs ls hP hD hS hl => lv_if_lt X.1 X.2.1 hd ht (fun h => by rw [iI_zero] at h; exact kt ((iI_lt ha (show iR 0 by omega)).mp h) H locs ls hP hD hS hl) (fun h => by rw [iI_zero] at h; exact kf (Int.not_lt.mp (fun z => h ((iI_lt ha (show iR 0 by omega)).mpr z))) H locs ls hP hD hS hl)
theorem g_icmp_ge (X : xC p s m args c cc nL own Ts D cl tys A) {a b off : Int} {tgt : Nat} (hd : decode cc pc = .ok (.if_icmp .ge off, 3)) (ht : (pc : Int) + off = (tgt : Int)) (ha : iR a) (hb : iR b) (kt : b ≤ a → xG p l e R s m args below meth c Q nL D cl A cells slots ws tgt lv st) (kf : a < b → xG p l e R s m args below meth c Q nL D cl A cells slots ws (pc + 3) lv st) : xG p l e R s m args below meth c Q nL D cl A cells slots ws pc lv (.int (iI b) :: .int (iI a) :: st) :=
  fun H locs ls hP hD hS hl => lv_icmp_ge X.1 X.2.1 hd ht (fun h => kt ((iI_le hb ha).mp h) H locs ls hP hD hS hl) (fun h => kf (Int.not_le.mp (fun z => h ((iI_le hb ha).mpr z))) H locs ls hP hD hS hl)
theorem g_if_ge (X : xC p s m args c cc nL own Ts D cl tys A) {a off : Int} {tgt : Nat} (hd : decode cc pc = .ok (.ifCond .ge off, 3)) (ht : (pc : Int) + off = (tgt : Int)) (ha : iR a) (kt : 0 ≤ a → xG p l e R s m args below meth c Q nL D cl A cells slots ws tgt lv st) (kf : a < 0 → xG p l e R s m args below meth c Q nL D cl A cells slots ws (pc + 3) lv st) : xG p l e R s m args below meth c Q nL D cl A cells slots ws pc lv (.int (iI a) :: st) :=
  fun H locs ls hP hD hS hl => lv_if_ge X.1 X.2.1 hd ht (fun h => by rw [iI_zero] at h; exact kt ((iI_le (show iR 0 by omega) ha).mp h) H locs ls hP hD hS hl) (fun h => by rw [iI_zero] at h; exact kf (Int.not_le.mp (fun z => h ((iI_le (show iR 0 by omega) ha).mpr z))) H locs ls hP hD hS hl)
theorem g_icmp_gt (X : xC p s m args c cc nL own Ts D cl tys A) {a b off : Int} {tgt : Nat} (hd : decode cc pc = .ok (.if_icmp .gt off, 3)) (ht : (pc : Int) + off = (tgt : Int)) (ha : iR a) (hb : iR b) (kt : b < a → xG p l e R s m args below meth c Q nL D cl A cells slots ws tgt lv st) (kf : a ≤ b → xG p l e R s m args below meth c Q nL D cl A cells slots ws (pc + 3) lv st) : xG p l e R s m args below meth c Q nL D cl A cells slots ws pc lv (.int (iI b) :: .int (iI a) :: st) :=
  fun H locs ls hP hD hS hl => lv_icmp_gt X.1 X.2.1 hd ht (fun h => kt ((iI_lt hb ha).mp h) H locs ls hP hD hS hl) (fun h => kf (Int.not_lt.mp (fun z => h ((iI_lt hb ha).mpr z))) H locs ls hP hD hS hl)
theorem g_if_gt (X : xC p s m args c cc nL own Ts D cl tys A) {a off : Int} {tgt : Nat} (hd : decode cc pc = .ok (.ifCond .gt off, 3)) (ht : (pc : Int) + off = (tgt : Int)) (ha : iR a) (kt : 0 < a → xG p l e R s m args below meth c Q nL D cl A cells slots ws tgt lv st) (kf : a ≤ 0 → xG p l e R s m args below meth c Q nL D cl A cells slots ws (pc + 3) lv st) : xG p l e R s m args below meth c Q nL D cl A cells slots ws pc lv (.int (iI a) :: st) :=
  fun H locs ls hP hD hS hl => lv_if_gt X.1 X.2.1 hd ht (fun h => by rw [iI_zero] at h; exact kt ((iI_lt (show iR 0 by omega) ha).mp h) H locs ls hP hD hS hl) (fun h => by rw [iI_zero] at h; exact kf (Int.not_lt.mp (fun z => h ((iI_lt (show iR 0 by omega) ha).mpr z))) H locs ls hP hD hS hl)
theorem g_icmp_le (X : xC p s m args c cc nL own Ts D cl tys A) {a b off : Int} {tgt : Nat} (hd : decode cc pc = .ok (.if_icmp .le off, 3)) (ht : (pc : Int) + off = (tgt : Int)) (ha : iR a) (hb : iR b) (kt : a ≤ b → xG p l e R s m args below meth c Q nL D cl A cells slots ws tgt lv st) (kf : b < a → xG p l e R s m args below meth c Q nL D cl A cells slots ws (pc + 3) lv st) : xG p l e R s m args below meth c Q nL D cl A cells slots ws pc lv (.int (iI b) :: .int (iI a) :: st) :=
  fun H locs ls hP hD hS hl => lv_icmp_le X.1 X.2.1 hd ht (fun h => kt ((iI_le ha hb).mp h) H locs ls hP hD hS hl) (fun h => kf (Int.not_le.mp (fun z => h ((iI_le ha hb).mpr z))) H locs ls hP hD hS hl)
theorem g_if_le (X : xC p s m args c cc nL own Ts D cl tys A) {a off : Int} {tgt : Nat} (hd : decode cc pc = .ok (.ifCond .le off, 3)) (ht : (pc : Int) + off = (tgt : Int)) (ha : iR a) (kt : a ≤ 0 → xG p l e R s m args below meth c Q nL D cl A cells slots ws tgt lv st) (kf : 0 < a → xG p l e R s m args below meth c Q nL D cl A cells slots ws (pc + 3) lv st) : xG p l e R s m args below meth c Q nL D cl A cells slots ws pc lv (.int (iI a) :: st) :=
  fun H locs ls hP hD hS hl => lv_if_le X.1 X.2.1 hd ht (fun h => by rw [iI_zero] at h; exact kt ((iI_le ha (show iR 0 by omega)).mp h) H locs ls hP hD hS hl) (fun h => by rw [iI_zero] at h; exact kf (Int.not_le.mp (fun z => h ((iI_le ha (show iR 0 by omega)).mpr z))) H locs ls hP hD hS hl)
theorem g_goto (X : xC p s m args c cc nL own Ts D cl tys A) {off : Int} {tgt : Nat} (hd : decode cc pc = .ok (.goto off, 3)) (ht : (pc : Int) + off = (tgt : Int)) (k : xG p l e R s m args below meth c Q nL D cl A cells slots ws tgt lv st) : xG p l e R s m args below meth c Q nL D cl A cells slots ws pc lv st :=
  fun H locs ls hP hD hS hl => lv_goto X.1 X.2.1 hd ht (k H locs ls hP hD hS hl)
theorem g_lv {lv' : List (Nat × Value)} (ks : List Nat) (hk : lv_pick lv ks = lv') (k : xG p l e R s m args below meth c Q nL D cl A cells slots ws pc lv' st) : xG p l e R s m args below meth c Q nL D cl A cells slots ws pc lv st :=
  fun H locs ls hP hD hS hl => k H locs ls hP hD hS (lv_sub hl ks hk)
theorem g_ws {ws' : va_W} (is : List Nat) (hn : va_nd is = true) (hs : is.map (fun i => ws[i]?) = ws'.map some) (k : xG p l e R s m args below meth c Q nL D cl A cells slots ws' pc lv st) : xG p l e R s m args below meth c Q nL D cl A cells slots ws pc lv st :=
  fun H locs ls hP hD hS hl => k H locs ls (hP.sub is (x_fm hs)) (hD.sub is hn hs) hS hl
theorem g_widen {k0 n0 : Nat} (h1 : cells ≤ k0) (h2 : slots ≤ n0) (k : xG p l e R s m args below meth c Q nL D cl A k0 n0 ws pc lv st) : xG p l e R s m args below meth c Q nL D cl A cells slots ws pc lv st :=
  fun H locs ls hP hD hS hl => W.widen h1 h2 (k H locs ls hP hD hS hl)
theorem g_get (X : xC p s m args c cc nL own Ts D cl tys A) {ref C : String} {T : u_T} {N ci index a : Nat} (hin : ∀ w ∈ u_ws C T N, w ∈ Ts) (q0 : Nat) {fs : List Value} (he : ws[q0]? = some (a, .inr (ci, fs))) (hc : cl[ci]? = some (C, T, N)) (k0 : Nat) (hk : k0 < N) (hlink : Cond.fieldLink own index ref (T k0).2.1 (T k0).2.2.1 ∈ Ts) (href : (T k0).1 = ref) {v : Value} (hv : fs[k0]? = some v) (hd : decode cc pc = .ok (.getfield index, 3)) (k : xG p l e R s m args below meth c Q nL D cl A cells slots ws (pc + 3) lv (v :: st)) : xG p l e R s m args below meth c Q nL D cl A cells slots ws pc lv (.ref a :: st) :=
  fun H locs ls hP hD hS hl => va_get X.1 X.2.1 X.2.2.2.2.1 hin X.2.2.2.1 X.2.2.2.2.2.1 hP q0 he hc k0 hk (X.2.2.2.2.1 _ hlink) (fun x h => by rw [← href]; exact h) hv hd (k H locs ls hP hD hS hl)
theorem g_put (X : xC p s m args c cc nL own Ts D cl tys A) {ref C : String} {T : u_T} {N ci index a : Nat} (hin : ∀ w ∈ u_ws C T N, w ∈ Ts) (ty0 : Nat → FieldType) (hty : ∀ k, k < N → parseFieldDescriptor (T k).2.2.1 = some (ty0 k)) (hnm : ∀ a, a < N → ∀ b, b < N → a ≠ b → (T a).2.1 ≠ (T b).2.1) (q0 : Nat) {fs : List Value} (he : ws[q0]? = some (a, .inr (ci, fs))) (hc : cl[ci]? = some (C, T, N)) (k0 : Nat) (hk : k0 < N) (hlink : Cond.fieldLink own index ref (T k0).2.1 (T k0).2.2.1 ∈ Ts) (href : (T k0).1 = ref) (hfin : (T k0).2.2.2 = false) {ty : FieldType} {v : Value} (hdd : parseFieldDescriptor (T k0).2.2.1 = some ty) (hn : narrow ty v = v) (hfit : fits ty v = true) (hl0 : k0 < fs.length) {ws' : va_W} (hw : ws.set q0 (a, .inr (ci, fs.set k0 v)) = ws') (hd : decode cc pc = .ok (.putfield index, 3)) (k : xG p l e R s m args below meth c Q nL D cl A cells slots ws' (pc + 3) lv st) : xG p l e R s m args below meth c Q nL D cl A cells slots ws pc lv (v :: .ref a :: st) :=
  fun H locs ls hP hD hS hl => va_put X.1 X.2.1 X.2.2.2.2.1 hin ty0 hty hnm X.2.2.2.1 X.2.2.2.2.2.1 hP hD hS q0 he hc k0 hk (X.2.2.2.2.1 _ hlink) (fun x h => by rw [← href]; exact h) hfin hdd hn hfit hl0 hd (fun H1 locs1 hP1 hD1 hS1 => k H1 locs1 ls (hw ▸ hP1) (hw ▸ hD1) hS1 hl)
theorem g_putF (X : xC p s m args c cc nL own Ts D cl tys A) {ref C : String} {T : u_T} {N ci index a : Nat} (hin : ∀ w ∈ u_ws C T N, w ∈ Ts) (ty0 : Nat → FieldType) (hty : ∀ k, k < N → parseFieldDescriptor (T k).2.2.1 = some (ty0 k)) (hnm : ∀ a, a < N → ∀ b, b < N → a ≠ b → (T a).2.1 ≠ (T b).2.1) (q0 : Nat) {fs : List Value} (he : ws[q0]? = some (a, .inr (ci, fs))) (hc : cl[ci]? = some (C, T, N)) (k0 : Nat) (hk : k0 < N) (hlink : Cond.fieldLink own index ref (T k0).2.1 (T k0).2.2.1 ∈ Ts) (href : (T k0).1 = ref) (hfin : (T k0).2.2.2 = true) (hin2 : meth.name = "<init>") (hdecl : (T k0).1 = own) {ty : FieldType} {v : Value} (hdd : parseFieldDescriptor (T k0).2.2.1 = some ty) (hn : narrow ty v = v) (hfit : fits ty v = true) (hl0 : k0 < fs.length) {ws' : va_W} (hw : ws.set q0 (a, .inr (ci, fs.set k0 v)) = ws') (hd : decode cc pc = .ok (.putfield index, 3)) (k : xG p l e R s m args below meth c Q nL D cl A cells slots ws' (pc + 3) lv st) : xG p l e R s m args below meth c Q nL D cl A cells slots ws pc lv (v :: .ref a :: st) :=
  fun H locs ls hP hD hS hl => va_putF X.1 X.2.1 X.2.2.2.2.1 hin ty0 hty hnm X.2.2.2.1 X.2.2.2.2.2.1 hP hD hS q0 he hc k0 hk (X.2.2.2.2.1 _ hlink) (fun x h => by rw [← href]; exact h) hfin hin2 hdecl hdd hn hfit hl0 hd (fun H1 locs1 hP1 hD1 hS1 => k H1 locs1 ls (hw ▸ hP1) (hw ▸ hD1) hS1 hl)
theorem g_iald (X : xC p s m args c cc nL own Ts D cl tys A) (q0 t0 : Nat) {cA : ClassId} {n a : Nat} {f : Int → Int} {i : Int} (ha : ws[q0]? = some (a, .inl (cA, n, .inl (aI f)))) (ht : tys[t0]? = some (cA, .int)) (h : 0 ≤ i ∧ i < (n : Int) ∧ n < 2147483648) (hd : decode cc pc = .ok (.iaload, 1)) (k : xG p l e R s m args below meth c Q nL D cl A cells slots ws (pc + 1) lv (.int (iI (f i)) :: st)) : xG p l e R s m args below meth c Q nL D cl A cells slots ws pc lv (.int (iI i) :: .ref a :: st) :=
  fun H locs ls hP hD hS hl => va_iald X.1 X.2.1 X.2.2.2.2.2.1 hP q0 t0 ha ht (iI_in h.1 h.2.1 h.2.2) hd (by
    rw [iI_cl h.1 (by omega)]
    have e1 : aI f i.toNat = iI (f i) := by
      show iI (f ((i.toNat : Nat) : Int)) = _
      rw [Int.toNat_of_nonneg h.1]
    rw [e1]
    exact k H locs ls hP hD hS hl)
theorem g_iast (X : xC p s m args c cc nL own Ts D cl tys A) (q0 t0 : Nat) {cA : ClassId} {n a : Nat} {f : Int → Int} {i x : Int} (ha : ws[q0]? = some (a, .inl (cA, n, .inl (aI f)))) (ht : tys[t0]? = some (cA, .int)) (h : 0 ≤ i ∧ i < (n : Int) ∧ n < 2147483648) {ws' : va_W} (hw : ws.set q0 (a, .inl (cA, n, .inl (aI (iup f i x)))) = ws') (hd : decode cc pc = .ok (.iastore, 1)) (k : xG p l e R s m args below meth c Q nL D cl A cells slots ws' (pc + 1) lv st) : xG p l e R s m args below meth c Q nL D cl A cells slots ws pc lv (.int (iI x) :: .int (iI i) :: .ref a :: st) :=
  fun H locs ls hP hD hS hl => va_iast X.1 X.2.1 X.2.2.2.2.2.1 hP hD hS q0 t0 ha ht (iI_in h.1 h.2.1 h.2.2) hd (by
    rw [aI_up h.1 (by omega), hw]
    exact fun H1 locs1 hP1 hD1 hS1 => k H1 locs1 ls hP1 hD1 hS1 hl)
theorem g_copy (X : xC p s m args c cc nL own Ts D cl tys A) {index : Nat} (hlink : Cond.methodLink own index arraycopyName ∈ Ts) (hnat : Cond.native arraycopyName ∈ Ts) (hstat : Cond.static arraycopyName ∈ Ts) (hini : Cond.initialized "java/lang/System" ∈ Ts) (q0 q1 t0 t1 : Nat) {a0 a1 n0 n1 : Nat} {c0 c1 : ClassId} {f g : Int → Int} {sp dp n : Int} (ha0 : ws[q0]? = some (a0, .inl (c0, n0, .inl (aI f)))) (ha1 : ws[q1]? = some (a1, .inl (c1, n1, .inl (aI g)))) (ht0 : tys[t0]? = some (c0, .int)) (ht1 : tys[t1]? = some (c1, .int)) (h : 0 ≤ sp ∧ 0 ≤ dp ∧ 0 ≤ n ∧ sp + n ≤ n0 ∧ dp + n ≤ n1 ∧ n0 < 2147483648 ∧ n1 < 2147483648) (hfr : 1 ≤ R.frames) (hlo : (st.map fun v => v.category).sum + (nativeFrameWords "java/lang/System" "arraycopy" 5 + 11) ≤ R.locals) {ws' : va_W} (hw : ws.set q1 (a1, .inl (c1, n1, .inl (aI (icpy f g sp dp n)))) = ws') (hd : decode cc pc = .ok (.invokestatic index, 3)) (k : xG p l e R s m args below meth c Q nL D cl A cells slots ws' (pc + 3) lv st) : xG p l e R s m args below meth c Q nL D cl A cells slots ws pc lv (.int (iI n) :: .int (iI dp) :: .ref a1 :: .int (iI sp) :: .ref a0 :: st) :=
  fun H locs ls hP hD hS hl => by
    have z : ∀ {x : Int}, 0 ≤ x → x < 2147483648 → ¬ iI x < 0 := fun h0 h1 => by
      rw [iI_zero, iI_lt ⟨by omega, h1⟩ ⟨by omega, by omega⟩]; omega
    obtain ⟨h1, h2, h3, h4, h5, h6, h7⟩ := h
    refine va_copyi X.1 X.2.1 (X.2.2.1.trans hl.1.symm) X.2.2.2.1 (X.2.2.2.2.1 _ hlink) (X.2.2.2.2.1 _ hnat) (X.2.2.2.2.1 _ hstat) (X.2.2.2.2.1 _ hini) X.2.2.2.2.2.1 hP hD hS q0 q1 t0 t1 ha0 ha1 ht0 ht1 rfl (z h1 (by omega)) (z h2 (by omega)) (z h3 (by omega)) ?_ ?_ (fun _ _ => rfl) hfr hlo hd ?_
    · rw [iI_cl h1 (by omega), iI_cl h3 (by omega)]; omega
    · rw [iI_cl h2 (by omega), iI_cl h3 (by omega)]; omega
    · rw [iI_cl h1 (by omega), iI_cl h2 (by omega), iI_cl h3 (by omega), aI_cpy h1 h2 h3, hw]
      exact fun H1 locs1 hP1 hD1 hS1 => k H1 locs1 ls hP1 hD1 hS1 hl
theorem g_mmin (X : xC p s m args c cc nL own Ts D cl tys A) {index : Nat} {a b : Int} (hlink : Cond.methodLink own index Lib.Math.min.name ∈ Ts) (hstat : Cond.static Lib.Math.min.name ∈ Ts) (hini : Cond.initialized "java/lang/Math" ∈ Ts) (hcode : Cond.code Lib.Math.min.name Lib.Math.min.code 2 (some .int) ∈ Ts) (hfr : 1 ≤ R.frames) (hlo : (st.map fun v => v.category).sum + 13 ≤ R.locals) (hc : cells ≤ R.cells) (hs : slots ≤ R.slots) (ha : iR a) (hb : iR b) (hd : decode cc pc = .ok (.invokestatic index, 3)) (k : xG p l e R s m args below meth c Q nL D cl A cells slots ws (pc + 3) lv (.int (iI (min a b)) :: st)) : xG p l e R s m args below meth c Q nL D cl A cells slots ws pc lv (.int (iI b) :: .int (iI a) :: st) :=
  fun H locs ls hP hD hS hl => by
    have e : (if iI b < iI a then iI b else iI a) = iI (min a b) := by
      by_cases h : b < a
      · rw [if_pos ((iI_lt hb ha).mpr h), Int.min_eq_right (by omega)]
      · rw [if_neg (fun z => h ((iI_lt hb ha).mp z)), Int.min_eq_left (by omega)]
    refine va_mmin X.1 X.2.1 (X.2.2.1.trans hl.1.symm) X.2.2.2.1 (X.2.2.2.2.1 _ hlink) (X.2.2.2.2.1 _ hstat) (X.2.2.2.2.1 _ hini) (X.2.2.2.2.1 _ hcode) hfr hlo hc hs hd ?_
    rw [e]
    exact k H locs ls hP hD hS hl
theorem g_mmax (X : xC p s m args c cc nL own Ts D cl tys A) {index : Nat} {a b : Int} (hlink : Cond.methodLink own index Lib.Math.max.name ∈ Ts) (hstat : Cond.static Lib.Math.max.name ∈ Ts) (hini : Cond.initialized "java/lang/Math" ∈ Ts) (hcode : Cond.code Lib.Math.max.name Lib.Math.max.code 2 (some .int) ∈ Ts) (hfr : 1 ≤ R.frames) (hlo : (st.map fun v => v.category).sum + 13 ≤ R.locals) (hc : cells ≤ R.cells) (hs : slots ≤ R.slots) (ha : iR a) (hb : iR b) (hd : decode cc pc = .ok (.invokestatic index, 3)) (k : xG p l e R s m args below meth c Q nL D cl A cells slots ws (pc + 3) lv (.int (iI (max a b)) :: st)) : xG p l e R s m args below meth c Q nL D cl A cells slots ws pc lv (.int (iI b) :: .int (iI a) :: st) :=
  fun H locs ls hP hD hS hl => by
    have e : (if iI a < iI b then iI b else iI a) = iI (max a b) := by
      by_cases h : a < b
      · rw [if_pos ((iI_lt ha hb).mpr h), Int.max_eq_right (by omega)]
      · rw [if_neg (fun z => h ((iI_lt ha hb).mp z)), Int.max_eq_left (by omega)]
    refine va_mmax X.1 X.2.1 (X.2.2.1.trans hl.1.symm) X.2.2.2.1 (X.2.2.2.2.1 _ hlink) (X.2.2.2.2.1 _ hstat) (X.2.2.2.2.1 _ hini) (X.2.2.2.2.1 _ hcode) hfr hlo hc hs hd ?_
    rw [e]
    exact k H locs ls hP hD hS hl
end XG
/-! contracts: 'from the cells wc, the method with the arguments av returns r and leaves cells w with Qy r w'; no other old cell changes -/
def xM (l : Launch) (y : MethodName) (wy : List Cond) (rm : Room) (D : va_G) (cl : List vw_C) (tys : List (ClassId × FieldType)) (av : List Value) (wc : va_W) (Qy : Int32 → va_W → Prop) (mc ms : Nat) : Prop :=
  ∀ sz : Nat, Met l y wy rm (va_Pc av (fun U => U.heap.size = sz ∧ va_P D cl wc U.heap ∧ va_K D cl tys U ∧ va_D (fun _ => True) wc)) (va_Qi Qy (fun u t => va_P D cl u t.heap ∧ va_D (va_A wc sz) u) (va_A wc sz)) mc ms (va_A wc sz)
def xV (l : Launch) (y : MethodName) (wy : List Cond) (rm : Room) (D : va_G) (cl : List vw_C) (tys : List (ClassId × FieldType)) (av : List Value) (wc : va_W) (Qy : va_W → Prop) (mc ms : Nat) : Prop :=
  ∀ sz : Nat, Met l y wy rm (va_Pc av (fun U => U.heap.size = sz ∧ va_P D cl wc U.heap ∧ va_K D cl tys U ∧ va_D (fun _ => True) wc)) (va_Qv Qy (fun u t => va_P D cl u t.heap ∧ va_D (va_A wc sz) u) (va_A wc sz)) mc ms (va_A wc sz)
section XR
variable {p : Program} {l : Launch} {e : Env} {R : Room} {s : State} {m : MethodId} {args : Array Value} {below : List Frame} {meth : Method} {c : Code} {Q : State → Prop}
variable {cc : ByteArray} {nL : Nat} {own : String} {Ts : List Cond} {D : va_G} {cl : List vw_C} {tys : List (ClassId × FieldType)} {A : Nat → Prop} {cells slots : Nat} {ws : va_W} {pc : Nat} {lv : List (Nat × Value)} {st : List Value}
theorem g_iret (X : xC p s m args c cc nL own Ts D cl tys A) (hr : meth.sig.returnType = some .int) (hlk : meth.locks = false) {Qy : Int32 → va_W → Prop} {r : Int32} (hd : decode cc pc = .ok (.ireturn, 1)) {w : va_W} (is : List Nat) (hn : va_nd is = true) (hs : is.map (fun i => ws[i]?) = w.map some) (hq : Qy r w) : xG p l e R s m args below meth c (MQ below (va_Qi Qy (fun u t => va_P D cl u t.heap ∧ va_D A u) A) args s cells slots A) nL D cl A cells slots ws pc lv [.int r] :=
  fun H locs ls hP hD hS hl => W.iret X.1 X.2.1 hr (fun t ht _ => ⟨⟨r, w, rfl, hq, by rw [ht]; exact hP.sub is (x_fm hs), hD.sub is hn hs⟩, hS.F ht⟩) hS.2.2 hd hlk
theorem g_zret (X : xC p s m args c cc nL own Ts D cl tys A) (hr : meth.sig.returnType = some .boolean) (hlk : meth.locks = false) {Qy : Int32 → va_W → Prop} {r : Int32} (hb : r = iI 0 ∨ r = iI 1) (hd : decode cc pc = .ok (.ireturn, 1)) {w : va_W} (is : List Nat) (hn : va_nd is = true) (hs : is.map (fun i => ws[i]?) = w.map some) (hq : Qy r w) : xG p l e R s m args below meth c (MQ below (va_Qi Qy (fun u t => va_P D cl u t.heap ∧ va_D A u) A) args s cells slots A) nL D cl A cells slots ws pc lv [.int r] :=
  fun H locs ls hP hD hS hl => W.zret X.1 X.2.1 hr (by rcases hb with rfl | rfl <;> decide) (fun t ht _ => ⟨⟨r, w, rfl, hq, by rw [ht]; exact hP.sub is (x_fm hs), hD.sub is hn hs⟩, hS.F ht⟩) hS.2.2 hd hlk
theorem g_vret (X : xC p s m args c cc nL own Ts D cl tys A) (hr : meth.sig.returnType = none) (hlk : meth.locks = false) {Qy : va_W → Prop} (hd : decode cc pc = .ok (.return_, 1)) {w : va_W} (is : List Nat) (hn : va_nd is = true) (hs : is.map (fun i => ws[i]?) = w.map some) (hq : Qy w) : xG p l e R s m args below meth c (MQ below (va_Qv Qy (fun u t => va_P D cl u t.heap ∧ va_D A u) A) args s cells slots A) nL D cl A cells slots ws pc lv [] :=
  fun H locs ls hP hD hS hl => W.vret X.1 X.2.1 hr (fun t ht _ => ⟨⟨w, rfl, hq, by rw [ht]; exact hP.sub is (x_fm hs), hD.sub is hn hs⟩, hS.F ht⟩) hS.2.2 hd hlk
theorem g_calli (X : xC p s m args c cc nL own Ts D cl tys A) {y : MethodName} {wy : List Cond} {rm : Room} {b : Nat} {As : List Value} {wc : va_W} {Qy : Int32 → va_W → Prop} {mc ms index n maxL : Nat} {bytes : ByteArray} {ty : FieldType} {C : String} {stk : List Value} {wr : va_W} (hM : xM l y wy rm D cl tys (.ref b :: As) wc Qy mc ms) (cw : CallW R s args own C index y bytes maxL (some ty) wy rm mc ms n) (isC isR : List Nat) (hC : isC.map (fun i => ws[i]?) = wc.map some) (hR : isR.map (fun i => ws[i]?) = wr.map some) (hnC : va_nd isC = true) (hn : va_nd isR = true) (hdis : ∀ i ∈ isR, i ∉ isC) (q0 ci : Nat) {fs : List Value} (hrec : ws[q0]? = some (b, .inr (ci, fs))) {T : u_T} {N : Nat} (hcl : cl[ci]? = some (C, T, N)) (hAs : As.length = n) (hst : stk = As.reverse ++ .ref b :: st) (hrm : (st.map fun v => v.category).sum ≤ 8) (hd : decode cc pc = .ok (.invokevirtual index, 3)) (hf : cells + mc ≤ R.cells ∧ slots + ms ≤ R.slots) (kk : ∀ (r : Int32) (w : va_W), Qy r w → xG p l e R s m args below meth c Q nL D cl A (cells + mc) (slots + ms) (wr ++ w) (pc + 3) lv (.int r :: st)) : xG p l e R s m args below meth c Q nL D cl A cells slots ws pc lv stk := by
  intro H locs ls hP hD hS hl
  have hPc := hP.sub isC (x_fm hC)
  have hDc := hD.sub isC hnC hC
  have hF := va_free (wc := wc) hD hS X.2.2.2.2.2.2 isC hC
  refine va_calli (va_runV ⟨X.1, X.2.1, X.2.2.1, X.2.2.2.1, X.2.2.2.2.1⟩ (hM H.size) cw ⟨fun a U g mk q => ⟨q.1, q.2.1, q.2.2.1, va_K.moved (u := U) (U := U.calling g mk a) (Vm.Alike.refl U.vm) q.2.2.2.1, q.2.2.2.2⟩, va_recv X.2.2.2.2.2.1 hP hcl hrec, fun U hU hW => ⟨rfl, by rw [hU], by rw [hU]; exact hPc, va_K.moved hW.alike X.2.2.2.2.2.1, hDc.weaken (fun _ _ _ _ => trivial)⟩⟩ rfl hAs hl.1 hst (lv_room hrm) hd hf) hS (fun q _ h => hF q h) hF (fun r u t H1 locs1 ht hvm hq hB hz1 hk1 hS1 => ?_)
  obtain ⟨hP1, hD1⟩ := hB
  rw [ht] at hP1
  obtain ⟨hP2, hD2⟩ := va_join (wr := wr) hP hD isC isR hC hR hn hdis hk1 hF hP1 hD1
  exact kk r u hq H1 locs1 ls hP2 hD2 hS1 hl
theorem g_callNi (X : xC p s m args c cc nL own Ts D cl tys A) {y : MethodName} {wy : List Cond} {rm : Room} {b : Nat} {As : List Value} {wc : va_W} {Qy : Int32 → va_W → Prop} {mc ms index n maxL : Nat} {bytes : ByteArray} {ty : FieldType} {C : String} {host : String} {stk : List Value} {wr : va_W} (hM : xM l y wy rm D cl tys (.ref b :: As) wc Qy mc ms) (cw : va_CN R s args own index y host bytes maxL (some ty) wy rm mc ms n ∧ (Cond.instanceMethod y).before args s = true ∧ (Cond.selects C y y).before args s = true) (isC isR : List Nat) (hC : isC.map (fun i => ws[i]?) = wc.map some) (hR : isR.map (fun i => ws[i]?) = wr.map some) (hnC : va_nd isC = true) (hn : va_nd isR = true) (hdis : ∀ i ∈ isR, i ∉ isC) (q0 ci : Nat) {fs : List Value} (hrec : ws[q0]? = some (b, .inr (ci, fs))) {T : u_T} {N : Nat} (hcl : cl[ci]? = some (C, T, N)) (hAs : As.length = n) (hst : stk = As.reverse ++ .ref b :: st) (hrm : (st.map fun v => v.category).sum ≤ 8) (hd : decode cc pc = .ok (.invokevirtual index, 3)) (hf : cells + mc ≤ R.cells ∧ slots + ms ≤ R.slots) (kk : ∀ (r : Int32) (w : va_W), Qy r w → xG p l e R s m args below meth c Q nL D cl A (cells + mc) (slots + ms) (wr ++ w) (pc + 3) lv (.int r :: st)) : xG p l e R s m args below meth c Q nL D cl A cells slots ws pc lv stk := by
  intro H locs ls hP hD hS hl
  have hPc := hP.sub isC (x_fm hC)
  have hDc := hD.sub isC hnC hC
  have hF := va_free (wc := wc) hD hS X.2.2.2.2.2.2 isC hC
  refine va_calli (va_runVN ⟨X.1, X.2.1, X.2.2.1, X.2.2.2.1, X.2.2.2.2.1⟩ (hM H.size) cw ⟨fun a U g mk q => ⟨q.1, q.2.1, q.2.2.1, va_K.moved (u := U) (U := U.calling g mk a) (Vm.Alike.refl U.vm) q.2.2.2.1, q.2.2.2.2⟩, va_recv X.2.2.2.2.2.1 hP hcl hrec, fun U hU hW => ⟨rfl, by rw [hU], by rw [hU]; exact hPc, va_K.moved hW.alike X.2.2.2.2.2.1, hDc.weaken (fun _ _ _ _ => trivial)⟩⟩ rfl hAs hl.1 hst (lv_room hrm) hd hf) hS (fun q _ h => hF q h) hF (fun r u t H1 locs1 ht hvm hq hB hz1 hk1 hS1 => ?_)
  obtain ⟨hP1, hD1⟩ := hB
  rw [ht] at hP1
  obtain ⟨hP2, hD2⟩ := va_join (wr := wr) hP hD isC isR hC hR hn hdis hk1 hF hP1 hD1
  exact kk r u hq H1 locs1 ls hP2 hD2 hS1 hl
theorem g_callv (X : xC p s m args c cc nL own Ts D cl tys A) {y : MethodName} {wy : List Cond} {rm : Room} {b : Nat} {As : List Value} {wc : va_W} {Qy : va_W → Prop} {mc ms index n maxL : Nat} {bytes : ByteArray} {C : String} {stk : List Value} {wr : va_W} (hM : xV l y wy rm D cl tys (.ref b :: As) wc Qy mc ms) (cw : CallW R s args own C index y bytes maxL none wy rm mc ms n) (isC isR : List Nat) (hC : isC.map (fun i => ws[i]?) = wc.map some) (hR : isR.map (fun i => ws[i]?) = wr.map some) (hnC : va_nd isC = true) (hn : va_nd isR = true) (hdis : ∀ i ∈ isR, i ∉ isC) (q0 ci : Nat) {fs : List Value} (hrec : ws[q0]? = some (b, .inr (ci, fs))) {T : u_T} {N : Nat} (hcl : cl[ci]? = some (C, T, N)) (hAs : As.length = n) (hst : stk = As.reverse ++ .ref b :: st) (hrm : (st.map fun v => v.category).sum ≤ 8) (hd : decode cc pc = .ok (.invokevirtual index, 3)) (hf : cells + mc ≤ R.cells ∧ slots + ms ≤ R.slots) (kk : ∀ w : va_W, Qy w → xG p l e R s m args below meth c Q nL D cl A (cells + mc) (slots + ms) (wr ++ w) (pc + 3) lv st) : xG p l e R s m args below meth c Q nL D cl A cells slots ws pc lv stk := by
  intro H locs ls hP hD hS hl
  have hPc := hP.sub isC (x_fm hC)
  have hDc := hD.sub isC hnC hC
  have hF := va_free (wc := wc) hD hS X.2.2.2.2.2.2 isC hC
  refine va_callv (va_runV ⟨X.1, X.2.1, X.2.2.1, X.2.2.2.1, X.2.2.2.2.1⟩ (hM H.size) cw ⟨fun a U g mk q => ⟨q.1, q.2.1, q.2.2.1, va_K.moved (u := U) (U := U.calling g mk a) (Vm.Alike.refl U.vm) q.2.2.2.1, q.2.2.2.2⟩, va_recv X.2.2.2.2.2.1 hP hcl hrec, fun U hU hW => ⟨rfl, by rw [hU], by rw [hU]; exact hPc, va_K.moved hW.alike X.2.2.2.2.2.1, hDc.weaken (fun _ _ _ _ => trivial)⟩⟩ rfl hAs hl.1 hst (lv_room hrm) hd hf) hS (fun q _ h => hF q h) hF (fun u t H1 locs1 ht hvm hq hB hz1 hk1 hS1 => ?_)
  obtain ⟨hP1, hD1⟩ := hB
  rw [ht] at hP1
  obtain ⟨hP2, hD2⟩ := va_join (wr := wr) hP hD isC isR hC hR hn hdis hk1 hF hP1 hD1
  exact kk u hq H1 locs1 ls hP2 hD2 hS1 hl
theorem g_callNv (X : xC p s m args c cc nL own Ts D cl tys A) {y : MethodName} {wy : List Cond} {rm : Room} {b : Nat} {As : List Value} {wc : va_W} {Qy : va_W → Prop} {mc ms index n maxL : Nat} {bytes : ByteArray} {C : String} {host : String} {stk : List Value} {wr : va_W} (hM : xV l y wy rm D cl tys (.ref b :: As) wc Qy mc ms) (cw : va_CN R s args own index y host bytes maxL none wy rm mc ms n ∧ (Cond.instanceMethod y).before args s = true ∧ (Cond.selects C y y).before args s = true) (isC isR : List Nat) (hC : isC.map (fun i => ws[i]?) = wc.map some) (hR : isR.map (fun i => ws[i]?) = wr.map some) (hnC : va_nd isC = true) (hn : va_nd isR = true) (hdis : ∀ i ∈ isR, i ∉ isC) (q0 ci : Nat) {fs : List Value} (hrec : ws[q0]? = some (b, .inr (ci, fs))) {T : u_T} {N : Nat} (hcl : cl[ci]? = some (C, T, N)) (hAs : As.length = n) (hst : stk = As.reverse ++ .ref b :: st) (hrm : (st.map fun v => v.category).sum ≤ 8) (hd : decode cc pc = .ok (.invokevirtual index, 3)) (hf : cells + mc ≤ R.cells ∧ slots + ms ≤ R.slots) (kk : ∀ w : va_W, Qy w → xG p l e R s m args below meth c Q nL D cl A (cells + mc) (slots + ms) (wr ++ w) (pc + 3) lv st) : xG p l e R s m args below meth c Q nL D cl A cells slots ws pc lv stk := by
  intro H locs ls hP hD hS hl
  have hPc := hP.sub isC (x_fm hC)
  have hDc := hD.sub isC hnC hC
  have hF := va_free (wc := wc) hD hS X.2.2.2.2.2.2 isC hC
  refine va_callv (va_runVN ⟨X.1, X.2.1, X.2.2.1, X.2.2.2.1, X.2.2.2.2.1⟩ (hM H.size) cw ⟨fun a U g mk q => ⟨q.1, q.2.1, q.2.2.1, va_K.moved (u := U) (U := U.calling g mk a) (Vm.Alike.refl U.vm) q.2.2.2.1, q.2.2.2.2⟩, va_recv X.2.2.2.2.2.1 hP hcl hrec, fun U hU hW => ⟨rfl, by rw [hU], by rw [hU]; exact hPc, va_K.moved hW.alike X.2.2.2.2.2.1, hDc.weaken (fun _ _ _ _ => trivial)⟩⟩ rfl hAs hl.1 hst (lv_room hrm) hd hf) hS (fun q _ h => hF q h) hF (fun u t H1 locs1 ht hvm hq hB hz1 hk1 hS1 => ?_)
  obtain ⟨hP1, hD1⟩ := hB
  rw [ht] at hP1
  obtain ⟨hP2, hD2⟩ := va_join (wr := wr) hP hD isC isR hC hR hn hdis hk1 hF hP1 hD1
  exact kk u hq H1 locs1 ls hP2 hD2 hS1 hl
theorem g_callIv (X : xC p s m args c cc nL own Ts D cl tys A) {y : MethodName} {wy : List Cond} {rm : Room} {b : Nat} {As : List Value} {wc : va_W} {Qy : va_W → Prop} {mc ms index n maxL : Nat} {bytes : ByteArray} {stk : List Value} {wr : va_W} (hM : xV l y wy rm D cl tys (.ref b :: As) wc Qy mc ms) (cw : CallB R s args own index y bytes maxL none wy rm mc ms n ∧ y.name = "<init>" ∧ (Cond.instanceMethod y).before args s = true) (isC isR : List Nat) (hC : isC.map (fun i => ws[i]?) = wc.map some) (hR : isR.map (fun i => ws[i]?) = wr.map some) (hnC : va_nd isC = true) (hn : va_nd isR = true) (hdis : ∀ i ∈ isR, i ∉ isC) (hAs : As.length = n) (hst : stk = As.reverse ++ .ref b :: st) (hrm : (st.map fun v => v.category).sum ≤ 8) (hd : decode cc pc = .ok (.invokespecial index, 3)) (hf : cells + mc ≤ R.cells ∧ slots + ms ≤ R.slots) (kk : ∀ w : va_W, Qy w → xG p l e R s m args below meth c Q nL D cl A (cells + mc) (slots + ms) (wr ++ w) (pc + 3) lv st) : xG p l e R s m args below meth c Q nL D cl A cells slots ws pc lv stk := by
  intro H locs ls hP hD hS hl
  have hPc := hP.sub isC (x_fm hC)
  have hDc := hD.sub isC hnC hC
  have hF := va_free (wc := wc) hD hS X.2.2.2.2.2.2 isC hC
  refine va_callv (va_runI ⟨X.1, X.2.1, X.2.2.1, X.2.2.2.1, X.2.2.2.2.1⟩ (hM H.size) cw ⟨fun a U g mk q => ⟨q.1, q.2.1, q.2.2.1, va_K.moved (u := U) (U := U.calling g mk a) (Vm.Alike.refl U.vm) q.2.2.2.1, q.2.2.2.2⟩, fun U hU hW => ⟨rfl, by rw [hU], by rw [hU]; exact hPc, va_K.moved hW.alike X.2.2.2.2.2.1, hDc.weaken (fun _ _ _ _ => trivial)⟩⟩ rfl hAs hl.1 hst (lv_room hrm) hd hf) hS (fun q _ h => hF q h) hF (fun u t H1 locs1 ht hvm hq hB hz1 hk1 hS1 => ?_)
  obtain ⟨hP1, hD1⟩ := hB
  rw [ht] at hP1
  obtain ⟨hP2, hD2⟩ := va_join (wr := wr) hP hD isC isR hC hR hn hdis hk1 hF hP1 hD1
  exact kk u hq H1 locs1 ls hP2 hD2 hS1 hl
theorem g_objInit (X : xC p s m args c cc nL own Ts D cl tys A) {idx a : Nat} (hlink : Cond.methodLink own idx Lib.objectInit ∈ Ts) (hinst : Cond.instanceMethod Lib.objectInit ∈ Ts) (hcode : Cond.code Lib.objectInit ⟨#[0xb1]⟩ 1 none ∈ Ts) (hd : decode cc pc = .ok (.invokespecial idx, 3)) (hfr : 1 ≤ R.frames) (hlo : (st.map fun v => v.category).sum + 12 ≤ R.locals) (k : xG p l e R s m args below meth c Q nL D cl A cells slots ws (pc + 3) lv st) : xG p l e R s m args below meth c Q nL D cl A cells slots ws pc lv (.ref a :: st) :=
  fun H locs ls hP hD hS hl => W.objInit X.1 X.2.1 X.2.2.2.1 (X.2.2.2.2.1 _ hlink) (X.2.2.2.2.1 _ hinst) (X.2.2.2.2.1 _ hcode) rfl (hl.1.trans X.2.2.1.symm) rfl hd hfr (by show 2 * 0 + _ + 12 ≤ _; omega) (k H locs ls hP hD hS hl)
theorem g_new (X : xC p s m args c cc nL own Ts D cl tys A) {C : String} {T : u_T} {N ci index : Nat} (hin : ∀ w ∈ u_ws C T N, w ∈ Ts) (ty : Nat → FieldType) (hty : ∀ k, k < N → parseFieldDescriptor (T k).2.2.1 = some (ty k)) (hcl : Cond.classLink own index C ∈ Ts) (hinst : Cond.instantiable C N ∈ Ts) (hini : Cond.initialized C ∈ Ts) (hc : cl[ci]? = some (C, T, N)) {fs : List Value} (hfs : ∀ j, j < N → defaultValue (ty j) = vp_V fs j) (hcells : cells + 1 ≤ R.cells) (hslots : slots + N ≤ R.slots) (hd : decode cc pc = .ok (.new index, 3)) (k : ∀ q : Nat, xG p l e R s m args below meth c Q nL D cl A (cells + 1) (slots + N) (ws ++ [(q, .inr (ci, fs))]) (pc + 3) lv (.ref q :: st)) : xG p l e R s m args below meth c Q nL D cl A cells slots ws pc lv st :=
  fun H locs ls hP hD hS hl => va_new X.1 X.2.1 X.2.2.2.2.1 hin ty hty X.2.2.2.1 (X.2.2.2.2.1 _ hcl) (X.2.2.2.2.1 _ hinst) (X.2.2.2.2.1 _ hini) X.2.2.2.2.2.1 hP hD hS X.2.2.2.2.2.2 hc hfs hcells hslots hd (fun q H1 hP1 hD1 hS1 => k q H1 locs ls hP1 hD1 hS1 hl)
theorem g_newa (X : xC p s m args c cc nL own Ts D cl tys A) {cA : ClassId} (t0 : Nat) (ht : tys[t0]? = some (cA, .int)) (harr : Cond.arrayClass .int ∈ Ts) {n : Int} {N' : Nat} (hN : n = N') (hb : N' ≤ 1000000) (hcells : cells + 1 ≤ R.cells) (hslots : slots + N' ≤ R.slots) (hd : decode cc pc = .ok (.newarray .int, 2)) (k : ∀ q : Nat, xG p l e R s m args below meth c Q nL D cl A (cells + 1) (slots + N') (ws ++ [(q, .inl (cA, N', .inl (aI (fun _ => 0))))]) (pc + 2) lv (.ref q :: st)) : xG p l e R s m args below meth c Q nL D cl A cells slots ws pc lv (.int (iI n) :: st) :=
  fun H locs ls hP hD hS hl => by
    subst hN
    refine va_newa (a0 := (N', .inl (aI (fun _ => 0)))) X.1 X.2.1 (atype := .int) (X.2.2.2.2.1 _ harr) rfl X.2.2.2.2.2.1 hP hD hS X.2.2.2.2.2.2 ?_ ?_ ?_ ?_ hcells hslots hd (fun q cA' H1 hK1 hP1 hD1 hS1 => ?_)
    · intro cB
      rw [← aI_zero]
      rfl
    · rw [iI_zero, iI_lt ⟨by omega, by omega⟩ ⟨by omega, by omega⟩]; omega
    · rw [iI_cl (by omega) (by omega)]; omega
    · show N' * componentBytes FieldType.int ≤ _
      have : componentBytes FieldType.int = 4 := rfl
      rw [this]; omega
    · have e1 : va_RA s cA .int := (X.2.2.2.2.2.1.2 t0 _ ht).2
      have e2 : va_RA s cA' .int := (hK1.2 tys.length (cA', .int) (by simp; rfl)).2
      have e3 : cA' = cA := Option.some.inj (Eq.trans (Eq.symm e2) e1)
      subst e3
      exact k q H1 locs ls hP1 hD1 hS1 hl
end XR
theorem xM.ofI {l : Launch} {y : MethodName} {wy wy' : List Cond} {rm : Room} {D : va_G} {cl : List vw_C} {tys : List (ClassId × FieldType)} {av : List Value} {wc : va_W} {Qy : Int32 → va_W → Prop} {mc ms : Nat} {cc : ByteArray} {maxL : Nat} (hy : plainName y.cls = true) (hw : wy = Cond.code y cc maxL (some .int) :: wy') (hent : (lg_sl av).length ≤ maxL)
    (body : ∀ (p : Program) (e : Env) (s : State) (m : MethodId) (args : Array Value) (below : List Frame) (meth : Method) (c : Code) (A : Nat → Prop) (Q : State → Prop), xC p s m args c cc maxL y.cls wy D cl tys A → meth.name = y.name →
      (∀ (ws : va_W) (pc : Nat) (lv : List (Nat × Value)) (r : Int32) (w : va_W) (is : List Nat), decode cc pc = .ok (.ireturn, 1) → va_nd is = true → is.map (fun i => ws[i]?) = w.map some → Qy r w → xG p l e rm s m args below meth c Q maxL D cl A mc ms ws pc lv [.int r]) →
      xG p l e rm s m args below meth c Q maxL D cl A 0 0 wc 0 (lv_args 0 av) []) : xM l y wy rm D cl tys av wc Qy mc ms := by
  intro sz
  refine Met.ofW (cc := cc) (maxL := maxL) (ret := some .int) hy hw ?_
  intro p e s m args below meth c s₁ B hml hv
  obtain ⟨rfl, hsz, hP, hK, hD0⟩ := hv
  subst hsz
  have hD := hD0.self (sz := s.heap.size)
  have hl := lv_entry av (n := maxL) hent
  rw [lg_entry_eq]
  have X : xC p s m av.toArray c cc maxL y.cls wy D cl tys (va_A wc s.heap.size) := ⟨B.exec, B.bytes, hml, findClass_of_methodNamed B.named, atoms_spec (ws := wy) B.pre, hK, fun q h => Or.inr h⟩
  exact body p e s m av.toArray below meth c (va_A wc s.heap.size) _ X (name_of_methodNamed B.named B.method).1 (fun ws pc lv r w is hd hn hs hq => g_iret X B.returns B.notSynchronized hd is hn hs hq) s.heap [] _ hP hD va_S.rf hl
theorem xM.ofZ {l : Launch} {y : MethodName} {wy wy' : List Cond} {rm : Room} {D : va_G} {cl : List vw_C} {tys : List (ClassId × FieldType)} {av : List Value} {wc : va_W} {Qy : Int32 → va_W → Prop} {mc ms : Nat} {cc : ByteArray} {maxL : Nat} (hy : plainName y.cls = true) (hw : wy = Cond.code y cc maxL (some .boolean) :: wy') (hent : (lg_sl av).length ≤ maxL)
    (body : ∀ (p : Program) (e : Env) (s : State) (m : MethodId) (args : Array Value) (below : List Frame) (meth : Method) (c : Code) (A : Nat → Prop) (Q : State → Prop), xC p s m args c cc maxL y.cls wy D cl tys A → meth.name = y.name →
      (∀ (ws : va_W) (pc : Nat) (lv : List (Nat × Value)) (r : Int32) (w : va_W) (is : List Nat), r = iI 0 ∨ r = iI 1 → decode cc pc = .ok (.ireturn, 1) → va_nd is = true → is.map (fun i => ws[i]?) = w.map some → Qy r w → xG p l e rm s m args below meth c Q maxL D cl A mc ms ws pc lv [.int r]) →
      xG p l e rm s m args below meth c Q maxL D cl A 0 0 wc 0 (lv_args 0 av) []) : xM l y wy rm D cl tys av wc Qy mc ms := by
  intro sz
  refine Met.ofW (cc := cc) (maxL := maxL) (ret := some .boolean) hy hw ?_
  intro p e s m args below meth c s₁ B hml hv
  obtain ⟨rfl, hsz, hP, hK, hD0⟩ := hv
  subst hsz
  have hD := hD0.self (sz := s.heap.size)
  have hl := lv_entry av (n := maxL) hent
  rw [lg_entry_eq]
  have X : xC p s m av.toArray c cc maxL y.cls wy D cl tys (va_A wc s.heap.size) := ⟨B.exec, B.bytes, hml, findClass_of_methodNamed B.named, atoms_spec (ws := wy) B.pre, hK, fun q h => Or.inr h⟩
  exact body p e s m av.toArray below meth c (va_A wc s.heap.size) _ X (name_of_methodNamed B.named B.method).1 (fun ws pc lv r w is hz hd hn hs hq => g_zret X B.returns B.notSynchronized hz hd is hn hs hq) s.heap [] _ hP hD va_S.rf hl
theorem xV.of {l : Launch} {y : MethodName} {wy wy' : List Cond} {rm : Room} {D : va_G} {cl : List vw_C} {tys : List (ClassId × FieldType)} {av : List Value} {wc : va_W} {Qy : va_W → Prop} {mc ms : Nat} {cc : ByteArray} {maxL : Nat} (hy : plainName y.cls = true) (hw : wy = Cond.code y cc maxL (none) :: wy') (hent : (lg_sl av).length ≤ maxL)
    (body : ∀ (p : Program) (e : Env) (s : State) (m : MethodId) (args : Array Value) (below : List Frame) (meth : Method) (c : Code) (A : Nat → Prop) (Q : State → Prop), xC p s m args c cc maxL y.cls wy D cl tys A → meth.name = y.name →
      (∀ (ws : va_W) (pc : Nat) (lv : List (Nat × Value)) (w : va_W) (is : List Nat), decode cc pc = .ok (.return_, 1) → va_nd is = true → is.map (fun i => ws[i]?) = w.map some → Qy w → xG p l e rm s m args below meth c Q maxL D cl A mc ms ws pc lv []) →
      xG p l e rm s m args below meth c Q maxL D cl A 0 0 wc 0 (lv_args 0 av) []) : xV l y wy rm D cl tys av wc Qy mc ms := by
  intro sz
  refine Met.ofW (cc := cc) (maxL := maxL) (ret := none) hy hw ?_
  intro p e s m args below meth c s₁ B hml hv
  obtain ⟨rfl, hsz, hP, hK, hD0⟩ := hv
  subst hsz
  have hD := hD0.self (sz := s.heap.size)
  have hl := lv_entry av (n := maxL) hent
  rw [lg_entry_eq]
  have X : xC p s m av.toArray c cc maxL y.cls wy D cl tys (va_A wc s.heap.size) := ⟨B.exec, B.bytes, hml, findClass_of_methodNamed B.named, atoms_spec (ws := wy) B.pre, hK, fun q h => Or.inr h⟩
  exact body p e s m av.toArray below meth c (va_A wc s.heap.size) _ X (name_of_methodNamed B.named B.method).1 (fun ws pc lv w is hd hn hs hq => g_vret X B.returns B.notSynchronized hd is hn hs hq) s.heap [] _ hP hD va_S.rf hl
theorem x_ind {C : Nat → Prop} (h : ∀ k, (∀ j, j < k → C j) → C k) : ∀ k, C k := fun k => Nat.strongRecOn k h
abbrev cO (a ci : Nat) (fs : List Value) : Nat × va_E := (a, .inr (ci, fs))
abbrev cR (a : Nat) (cA : ClassId) (N : Nat) (g : Int → Int) : Nat × va_E := (a, .inl (cA, N, .inl (aI g)))
section XL
variable {p : Program} {l : Launch} {e : Env} {R : Room} {s : State} {m : MethodId} {args : Array Value} {below : List Frame} {meth : Method} {c : Code} {Q : State → Prop}
variable {cc : ByteArray} {nL : Nat} {own : String} {Ts : List Cond} {D : va_G} {cl : List vw_C} {tys : List (ClassId × FieldType)} {A : Nat → Prop} {cells slots : Nat} {ws : va_W} {pc : Nat} {lv : List (Nat × Value)} {st : List Value}
def sx (xs : Nat → Int32) (i : Int) : Int := (xs i.toNat).toInt
theorem sx_rng (xs : Nat → Int32) (i : Int) : iR (sx xs i) := iI_rng _
theorem g_sld (X : xC p s m args c cc nL own Ts D cl tys A) {b L : Nat} {xs : Nat → Int32} (hX : va_X b L xs s s.heap) (hbl : b < s.heap.size) (hbA : ¬ A b) {i : Int} (h : 0 ≤ i ∧ i < (L : Int) ∧ L < 2147483648) (hd : decode cc pc = .ok (.iaload, 1)) (k : xG p l e R s m args below meth c Q nL D cl A cells slots ws (pc + 1) lv (.int (iI (sx xs i)) :: st)) : xG p l e R s m args below meth c Q nL D cl A cells slots ws pc lv (.int (iI i) :: .ref b :: st) :=
  fun H locs ls hP hD hS hl => va_sld X.1 X.2.1 hX hbl hbA hS (iI_in h.1 h.2.1 h.2.2) hd (by
    rw [iI_cl h.1 (by omega)]
    have e1 : xs i.toNat = iI (sx xs i) := iI_of _
    rw [e1]
    exact k H locs ls hP hD hS hl)
theorem g_slen (X : xC p s m args c cc nL own Ts D cl tys A) {b L : Nat} {xs : Nat → Int32} (hX : va_X b L xs s s.heap) (hbl : b < s.heap.size) (hbA : ¬ A b) (hd : decode cc pc = .ok (.arraylength, 1)) (k : xG p l e R s m args below meth c Q nL D cl A cells slots ws (pc + 1) lv (.int (iI (L : Int)) :: st)) : xG p l e R s m args below meth c Q nL D cl A cells slots ws pc lv (.ref b :: st) :=
  fun H locs ls hP hD hS hl => va_slen X.1 X.2.1 hX hbl hbA hS hd (by
    have e1 : Int32.ofNat L = iI (L : Int) := Int32.ofInt_eq_ofNat.symm
    rw [e1]
    exact k H locs ls hP hD hS hl)
theorem g_tableIn (X : xC p s m args c cc nL own Ts D cl tys A) {dflt lo hi a off : Int} {offs : Array Int} {len tgt : Nat} (hd : decode cc pc = .ok (.tableswitch dflt lo hi offs, len)) (ha : iR a) (h1 : lo ≤ a) (h2 : a ≤ hi) (ho : offs[(a - lo).toNat]? = some off) (ht : (pc : Int) + off = (tgt : Int)) (k : xG p l e R s m args below meth c Q nL D cl A cells slots ws tgt lv st) : xG p l e R s m args below meth c Q nL D cl A cells slots ws pc lv (.int (iI a) :: st) :=
  fun H locs ls hP hD hS hl => lv_tableIn X.1 X.2.1 hd (by rw [iI_toInt ha.1 ha.2]; omega) (by rw [iI_toInt ha.1 ha.2]; omega) (by rw [iI_toInt ha.1 ha.2]; exact ho) ht (k H locs ls hP hD hS hl)
theorem g_tableOut (X : xC p s m args c cc nL own Ts D cl tys A) {dflt lo hi a : Int} {offs : Array Int} {len tgt : Nat} (hd : decode cc pc = .ok (.tableswitch dflt lo hi offs, len)) (ha : iR a) (h : a < lo ∨ hi < a) (ht : (pc : Int) + dflt = (tgt : Int)) (k : xG p l e R s m args below meth c Q nL D cl A cells slots ws tgt lv st) : xG p l e R s m args below meth c Q nL D cl A cells slots ws pc lv (.int (iI a) :: st) :=
  fun H locs ls hP hD hS hl => lv_tableOut X.1 X.2.1 hd (by rw [iI_toInt ha.1 ha.2]; exact h) ht (k H locs ls hP hD hS hl)
end XL
end
section
/-! counting, leading stretches -/
def cntN (P : Int → Bool) : Nat → Int
  | 0 => 0
  | k + 1 => cntN P k + (if P (k : Int) then 1 else 0)
/-- how many j, 0 ≤ j < n, have P -/
def cnt (P : Int → Bool) (n : Int) : Int := cntN P n.toNat
theorem cnt_0 {P : Int → Bool} {n : Int} (h : n ≤ 0) : cnt P n = 0 := by
  have e : n.toNat = 0 := by omega
  simp [cnt, e, cntN]
theorem cnt_s {P : Int → Bool} {n : Int} (h : 0 ≤ n) : cnt P (n + 1) = cnt P n + (if P n then 1 else 0) := by
  have e : (n + 1).toNat = n.toNat + 1 := by omega
  have e2 : ((n.toNat : Nat) : Int) = n := Int.toNat_of_nonneg h
  simp only [cnt, e, cntN, e2]
/-- induction up from 0 -/
theorem up_ind {C : Int → Prop} (h0 : C 0) (hs : ∀ k, 0 ≤ k → C k → C (k + 1)) : ∀ n, 0 ≤ n → C n := by
  intro n hn
  have key : ∀ k : Nat, C (k : Int) := by
    intro k
    induction k with
    | zero => exact h0
    | succ k ih => exact hs (k : Int) (by omega) ih
  have e : ((n.toNat : Nat) : Int) = n := Int.toNat_of_nonneg hn
  rw [← e]
  exact key _
theorem cnt_congr {P Q : Int → Bool} {n : Int} (h : ∀ j, 0 ≤ j → j < n → P j = Q j) : cnt P n = cnt Q n := by
  by_cases hn : n ≤ 0
  · rw [cnt_0 hn, cnt_0 hn]
  · have key : ∀ k, 0 ≤ k → k ≤ n → cnt P k = cnt Q k := by
      intro k hk
      refine up_ind (C := fun k => k ≤ n → cnt P k = cnt Q k) (fun _ => by rw [cnt_0 (by omega), cnt_0 (by omega)]) ?_ k hk
      intro k hk ih hk1
      rw [cnt_s hk, cnt_s hk, ih (by omega), h k hk (by omega)]
    exact key n (by omega) (by omega)
theorem cnt_mono {P Q : Int → Bool} {n : Int} (h : ∀ j, 0 ≤ j → j < n → P j = true → Q j = true) : cnt P n ≤ cnt Q n := by
  by_cases hn : n ≤ 0
  · rw [cnt_0 hn, cnt_0 hn]; omega
  · have key : ∀ k, 0 ≤ k → k ≤ n → cnt P k ≤ cnt Q k := by
      intro k hk
      refine up_ind (C := fun k => k ≤ n → cnt P k ≤ cnt Q k) (fun _ => by rw [cnt_0 (by omega), cnt_0 (by omega)]; omega) ?_ k hk
      intro k hk ih hk1
      rw [cnt_s hk, cnt_s hk]
      have i1 := ih (by omega)
      have i2 := h k hk (by omega)
      by_cases hp : P k = true
      · rw [if_pos hp, if_pos (i2 hp)]; omega
      · rw [if_neg hp]
        by_cases hq : Q k = true
        · rw [if_pos hq]; omega
        · rw [if_neg hq]; omega
    exact key n (by omega) (by omega)
theorem cnt_rng {P : Int → Bool} {n : Int} (h : 0 ≤ n) : 0 ≤ cnt P n ∧ cnt P n ≤ n := by
  refine up_ind (C := fun k => 0 ≤ cnt P k ∧ cnt P k ≤ k) (by rw [cnt_0 (by omega)]; omega) ?_ n h
  intro k hk ih
  rw [cnt_s hk]
  by_cases hp : P k = true
  · rw [if_pos hp]; omega
  · rw [if_neg hp]; omega
theorem cnt_none {P : Int → Bool} {n : Int} (h : ∀ j, 0 ≤ j → j < n → P j = false) : cnt P n = 0 := by
  by_cases hn : n ≤ 0
  · exact cnt_0 hn
  · have e : cnt P n = cnt (fun _ => false) n := cnt_congr h
    rw [e]
    refine up_ind (C := fun k => cnt (fun _ => false) k = 0) (cnt_0 (by omega)) ?_ n (by omega)
    intro k hk ih
    rw [cnt_s hk, ih]
    simp
theorem cnt_all {P : Int → Bool} {n : Int} (h0 : 0 ≤ n) (h : ∀ j, 0 ≤ j → j < n → P j = true) : cnt P n = n := by
  have e : cnt P n = cnt (fun _ => true) n := cnt_congr h
  rw [e]
  refine up_ind (C := fun k => cnt (fun _ => true) k = k) (cnt_0 (by omega)) ?_ n h0
  intro k hk ih
  rw [cnt_s hk, ih]
  simp
theorem cnt_not {P : Int → Bool} {n : Int} (h0 : 0 ≤ n) : cnt (fun j => !P j) n = n - cnt P n := by
  refine up_ind (C := fun k => cnt (fun j => !P j) k = k - cnt P k) (by rw [cnt_0 (by omega), cnt_0 (by omega)]; omega) ?_ n h0
  intro k hk ih
  rw [cnt_s hk, cnt_s hk, ih]
  cases P k <;> simp <;> omega
/-- one more -/
theorem cnt_one {P Q : Int → Bool} {n a : Int} (h0 : 0 ≤ a) (h1 : a < n) (hP : P a = true) (hQ : Q a = false) (h : ∀ j, 0 ≤ j → j < n → j ≠ a → P j = Q j) : cnt P n = cnt Q n + 1 := by
  have key : ∀ k, 0 ≤ k → k ≤ n → cnt P k = cnt Q k + (if a < k then 1 else 0) := by
    intro k hk
    refine up_ind (C := fun k => k ≤ n → cnt P k = cnt Q k + (if a < k then 1 else 0)) (fun _ => by rw [cnt_0 (by omega), cnt_0 (by omega), if_neg (by omega)]; omega) ?_ k hk
    intro k hk ih hk1
    rw [cnt_s hk, cnt_s hk, ih (by omega)]
    by_cases hka : k = a
    · subst hka
      have e2 : k < k + 1 := by omega
      simp [hP, hQ, e2]
    · rw [h k hk (by omega) hka]
      by_cases hl : a < k
      · have e : a < k + 1 := by omega
        simp only [if_pos hl, if_pos e]; omega
      · have e : ¬ a < k + 1 := by omega
        simp only [if_neg hl, if_neg e]; omega
  have := key n (by omega) (by omega)
  rw [if_pos h1] at this
  exact this
theorem cnt_lt {P Q : Int → Bool} {n a : Int} (h0 : 0 ≤ a) (h1 : a < n) (hP : P a = false) (hQ : Q a = true) (h : ∀ j, 0 ≤ j → j < n → P j = true → Q j = true) : cnt P n < cnt Q n := by
  have e : cnt Q n = cnt (fun j => Q j && decide (j ≠ a)) n + 1 := cnt_one h0 h1 hQ (by simp) (fun j _ _ hj => by simp [hj])
  have i : cnt P n ≤ cnt (fun j => Q j && decide (j ≠ a)) n := cnt_mono (fun j g0 g1 hp => by
    have hq := h j g0 g1 hp
    have hne : j ≠ a := fun z => by rw [z, hP] at hp; cases hp
    simp [hq, hne])
  omega
/-- k different places with P -/
theorem cnt_inj {P : Int → Bool} {n : Int} {f : Int → Int} : ∀ k, 0 ≤ k → ∀ P : Int → Bool, (∀ i, 0 ≤ i → i < k → 0 ≤ f i ∧ f i < n ∧ P (f i) = true) → (∀ i j, 0 ≤ i → i < j → j < k → f i ≠ f j) → k ≤ cnt P n := by
  intro k hk
  refine up_ind (C := fun k => ∀ P : Int → Bool, (∀ i, 0 ≤ i → i < k → 0 ≤ f i ∧ f i < n ∧ P (f i) = true) → (∀ i j, 0 ≤ i → i < j → j < k → f i ≠ f j) → k ≤ cnt P n) ?_ ?_ k hk
  · intro P _ _
    by_cases hn : 0 ≤ n
    · exact (cnt_rng hn).1
    · rw [cnt_0 (by omega)]; omega
  · intro k hk ih P h1 h2
    obtain ⟨g0, g1, g2⟩ := h1 k hk (by omega)
    have e : cnt P n = cnt (fun j => P j && decide (j ≠ f k)) n + 1 := cnt_one g0 g1 g2 (by simp) (fun j _ _ hj => by simp [hj])
    have i := ih (fun j => P j && decide (j ≠ f k)) (fun i hi hik => by
      obtain ⟨q0, q1, q2⟩ := h1 i hi (by omega)
      have hne : f i ≠ f k := h2 i k hi hik (by omega)
      exact ⟨q0, q1, by simp [q2, hne]⟩) (fun i j hi hij hj => h2 i j hi hij (by omega))
    omega
/-- an injection of [0, n) into itself meets everything -/
theorem inj_surj {f : Int → Int} {n : Int} (hn : 0 ≤ n) (h1 : ∀ i, 0 ≤ i → i < n → 0 ≤ f i ∧ f i < n) (h2 : ∀ i j, 0 ≤ i → i < j → j < n → f i ≠ f j) : ∀ r, 0 ≤ r → r < n → ∃ i, 0 ≤ i ∧ i < n ∧ f i = r := by
  intro r hr hrn
  refine Classical.byContradiction fun hno => ?_
  have hP : ∀ i, 0 ≤ i → i < n → 0 ≤ f i ∧ f i < n ∧ (fun j : Int => decide (j ≠ r)) (f i) = true := fun i hi hin => by
    obtain ⟨q0, q1⟩ := h1 i hi hin
    have hne : f i ≠ r := fun z => hno ⟨i, hi, hin, z⟩
    exact ⟨q0, q1, by simp [hne]⟩
  have i1 := cnt_inj (P := fun j => decide (j ≠ r)) n hn (fun j => decide (j ≠ r)) hP h2
  have e : cnt (fun _ => true) n = cnt (fun j => decide (j ≠ r)) n + 1 := cnt_one hr hrn rfl (by simp) (fun j _ _ hj => by simp [hj])
  rw [cnt_all hn (fun _ _ _ => rfl)] at e
  omega
/-- the leading stretch -/
def ldn (P : Int → Bool) : Nat → Int → Int
  | 0, i => i
  | b + 1, i => if P i then ldn P b (i + 1) else i
theorem ldn_spec (P : Int → Bool) : ∀ (b : Nat) (i : Int), i ≤ ldn P b i ∧ ldn P b i ≤ i + b ∧ (∀ j, i ≤ j → j < ldn P b i → P j = true) ∧ (ldn P b i = i + b ∨ P (ldn P b i) = false)
  | 0, i => ⟨by simp [ldn], by simp [ldn], fun j h1 h2 => by simp [ldn] at h2; omega, Or.inl (by simp [ldn])⟩
  | b + 1, i => by
    obtain ⟨h1, h2, h3, h4⟩ := ldn_spec P b (i + 1)
    by_cases hp : P i = true
    · have e : ldn P (b + 1) i = ldn P b (i + 1) := by simp [ldn, hp]
      rw [e]
      refine ⟨by omega, by omega, fun j g1 g2 => ?_, ?_⟩
      · by_cases hj : j = i
        · rw [hj]; exact hp
        · exact h3 j (by omega) g2
      · rcases h4 with h4 | h4
        · left; omega
        · right; exact h4
    · have e : ldn P (b + 1) i = i := by simp [ldn, hp]
      rw [e]
      exact ⟨by omega, by omega, fun j g1 g2 => by omega, Or.inr (by simpa using hp)⟩
theorem ldn_eq {P : Int → Bool} {b : Nat} {i k : Int} (h1 : i ≤ k) (h2 : k ≤ i + b) (h3 : ∀ j, i ≤ j → j < k → P j = true) (h4 : k = i + b ∨ P k = false) : ldn P b i = k := by
  obtain ⟨g1, g2, g3, g4⟩ := ldn_spec P b i
  rcases Int.lt_trichotomy (ldn P b i) k with h | h | h
  · have q := h3 _ g1 h
    rcases g4 with g4 | g4
    · omega
    · rw [q] at g4; cases g4
  · exact h
  · have q := g3 _ h1 h
    rcases h4 with h4 | h4
    · omega
    · rw [q] at h4; cases h4
/-! how far two rows are alike -/
def isAl (f : Int → Int) (n : Int) (g : Int → Int) (m p q k : Int) : Prop := 0 ≤ k ∧ p + k ≤ n ∧ q + k ≤ m ∧ (∀ j, 0 ≤ j → j < k → f (p + j) = g (q + j)) ∧ (p + k = n ∨ q + k = m ∨ f (p + k) ≠ g (q + k))
def al (f : Int → Int) (n : Int) (g : Int → Int) (m p q : Int) : Int := ldn (fun j => decide (f (p + j) = g (q + j))) (min (n - p) (m - q)).toNat 0
theorem al_spec {f g : Int → Int} {n m p q : Int} (hp : p ≤ n) (hq : q ≤ m) : isAl f n g m p q (al f n g m p q) := by
  obtain ⟨h1, h2, h3, h4⟩ := ldn_spec (fun j => decide (f (p + j) = g (q + j))) (min (n - p) (m - q)).toNat 0
  have e : al f n g m p q = ldn (fun j => decide (f (p + j) = g (q + j))) (min (n - p) (m - q)).toNat 0 := rfl
  rw [← e] at h1 h2 h3 h4
  have e2 : (((min (n - p) (m - q)).toNat : Nat) : Int) = min (n - p) (m - q) := Int.toNat_of_nonneg (by omega)
  rw [e2] at h2 h4
  refine ⟨h1, by omega, by omega, fun j g1 g2 => by simpa using h3 j g1 g2, ?_⟩
  rcases h4 with h4 | h4
  · omega
  · right; right; simpa using h4
theorem al_eq {f g : Int → Int} {n m p q k : Int} (h : isAl f n g m p q k) : al f n g m p q = k := by
  obtain ⟨h1, h2, h3, h4, h5⟩ := h
  have e2 : (((min (n - p) (m - q)).toNat : Nat) : Int) = min (n - p) (m - q) := Int.toNat_of_nonneg (by omega)
  refine ldn_eq h1 (by rw [e2]; omega) (fun j g1 g2 => by simpa using h4 j g1 g2) ?_
  rw [e2]
  rcases h5 with h5 | h5 | h5
  · left; omega
  · left; omega
  · right; simpa using h5
theorem isAl_symm {f g : Int → Int} {n m p q k : Int} (h : isAl f n g m p q k) : isAl g m f n q p k := by
  obtain ⟨h1, h2, h3, h4, h5⟩ := h
  refine ⟨h1, h3, h2, fun j g1 g2 => (h4 j g1 g2).symm, ?_⟩
  rcases h5 with h5 | h5 | h5
  · exact Or.inr (Or.inl h5)
  · exact Or.inl h5
  · exact Or.inr (Or.inr (fun z => h5 z.symm))
theorem al_comm {f g : Int → Int} {n m p q : Int} (hp : p ≤ n) (hq : q ≤ m) : al f n g m p q = al g m f n q p := al_eq (isAl_symm (al_spec hq hp))
/-! the order of suffixes -/
def LT (X : Int → Int) (n p q : Int) : Prop := ∃ k, 0 ≤ k ∧ (∀ j, 0 ≤ j → j < k → X (p + j) = X (q + j)) ∧ p + k ≤ n ∧ q + k < n ∧ (p + k = n ∨ X (p + k) < X (q + k))
theorem LT_irr {X : Int → Int} {n p : Int} (h : LT X n p p) : False := by
  obtain ⟨k, -, -, -, h1, h2⟩ := h
  rcases h2 with h2 | h2 <;> omega
theorem LT_trans {X : Int → Int} {n p q r : Int} (h1 : LT X n p q) (h2 : LT X n q r) : LT X n p r := by
  obtain ⟨a, a0, a1, a2, a3, a4⟩ := h1
  obtain ⟨b, b0, b1, b2, b3, b4⟩ := h2
  rcases Int.lt_trichotomy a b with h | h | h
  · refine ⟨a, a0, fun j g0 g1 => (a1 j g0 g1).trans (b1 j g0 (by omega)), a2, by omega, ?_⟩
    have e := b1 a a0 h
    rcases a4 with a4 | a4
    · exact Or.inl a4
    · right; rw [← e]; exact a4
  · subst h
    refine ⟨a, a0, fun j g0 g1 => (a1 j g0 g1).trans (b1 j g0 g1), a2, b3, ?_⟩
    rcases a4 with a4 | a4
    · exact Or.inl a4
    · rcases b4 with b4 | b4
      · omega
      · right; omega
  · refine ⟨b, b0, fun j g0 g1 => (a1 j g0 (by omega)).trans (b1 j g0 g1), by omega, b3, ?_⟩
    have e := a1 b b0 h
    rcases b4 with b4 | b4
    · omega
    · right; rw [e]; exact b4
theorem LT_al {X : Int → Int} {n p q k : Int} (h : isAl X n X n p q k) : LT X n p q ↔ (q + k < n ∧ (p + k = n ∨ X (p + k) < X (q + k))) := by
  obtain ⟨h1, h2, h3, h4, h5⟩ := h
  constructor
  · intro ⟨a, a0, a1, a2, a3, a4⟩
    rcases Int.lt_trichotomy a k with h | h | h
    · have e := h4 a a0 h
      rcases a4 with a4 | a4 <;> omega
    · subst h; exact ⟨a3, a4⟩
    · have e := a1 k h1 h
      rcases h5 with h5 | h5 | h5
      · omega
      · omega
      · exact absurd e h5
  · intro ⟨g1, g2⟩
    exact ⟨k, h1, h4, h2, g1, g2⟩
theorem LT_total {X : Int → Int} {n p q : Int} (hp : p ≤ n) (hq : q ≤ n) (hne : p ≠ q) : LT X n p q ∨ LT X n q p := by
  have h := al_spec (f := X) (g := X) (n := n) (m := n) hp hq
  rw [LT_al h, LT_al (isAl_symm h)]
  obtain ⟨h1, h2, h3, h4, h5⟩ := h
  generalize al X n X n p q = k at *
  rcases h5 with h5 | h5 | h5 <;> omega
theorem LT_asym {X : Int → Int} {n p q : Int} (h1 : LT X n p q) (h2 : LT X n q p) : False := LT_irr (LT_trans h1 h2)
theorem LT_end {X : Int → Int} {n q : Int} (hq : q < n) : LT X n n q := ⟨0, by omega, fun j _ _ => by omega, by omega, by omega, Or.inl (by omega)⟩
theorem LT_ne {X : Int → Int} {n p q : Int} (hp : p < n) (hq : q < n) (h : X p ≠ X q) : LT X n p q ↔ X p < X q := by
  have e : isAl X n X n p q 0 := ⟨by omega, by omega, by omega, fun j _ _ => by omega, Or.inr (Or.inr (by simpa using h))⟩
  rw [LT_al e]
  simp only [Int.add_zero]
  omega
theorem LT_step {X : Int → Int} {n p q : Int} (hp : p < n) (hq : q < n) (h : X p = X q) : LT X n p q ↔ LT X n (p + 1) (q + 1) := by
  have s := al_spec (f := X) (g := X) (n := n) (m := n) (p := p + 1) (q := q + 1) (by omega) (by omega)
  generalize al X n X n (p + 1) (q + 1) = k at s
  have s0 := s
  obtain ⟨h1, h2, h3, h4, h5⟩ := s0
  have e1 : p + (k + 1) = p + 1 + k := by omega
  have e2 : q + (k + 1) = q + 1 + k := by omega
  have t : isAl X n X n p q (k + 1) := by
    refine ⟨by omega, by omega, by omega, fun j g0 g1 => ?_, ?_⟩
    · by_cases hj : j = 0
      · subst hj; simpa using h
      · have := h4 (j - 1) (by omega) (by omega)
        have i1 : p + 1 + (j - 1) = p + j := by omega
        have i2 : q + 1 + (j - 1) = q + j := by omega
        rw [i1, i2] at this
        exact this
    · rw [e1, e2]; exact h5
  rw [LT_al t, LT_al s, e1, e2]
/-- LT as a test -/
def lb (X : Int → Int) (n p q : Int) : Bool := decide (q + al X n X n p q < n ∧ (p + al X n X n p q = n ∨ X (p + al X n X n p q) < X (q + al X n X n p q)))
theorem lb_iff {X : Int → Int} {n p q : Int} (hp : p ≤ n) (hq : q ≤ n) : lb X n p q = true ↔ LT X n p q := by
  rw [LT_al (al_spec hp hq)]
  simp [lb]
/-- the rank of p among the suffixes from s on -/
def rks (X : Int → Int) (n s p : Int) : Int := cnt (fun q => decide (s ≤ q) && lb X n q p) (n + 1)
def rk (X : Int → Int) (n p : Int) : Int := cnt (fun q => lb X n q p) (n + 1)
theorem rks_0 {X : Int → Int} {n p : Int} : rks X n 0 p = rk X n p := cnt_congr (fun j h _ => by simp [h])
theorem rks_lt {X : Int → Int} {n s p q : Int} (hp : p ≤ n) (hq : q ≤ n) (hs0 : 0 ≤ s) (hsp : s ≤ p) (h : LT X n p q) : rks X n s p < rks X n s q := by
  refine cnt_lt (a := p) (by omega) (by omega) ?_ ?_ ?_
  · have : ¬ lb X n p p = true := fun z => LT_irr ((lb_iff hp hp).mp z)
    simp [this]
  · simp [hsp, (lb_iff hp hq).mpr h]
  · intro j g0 g1 hj
    simp only [Bool.and_eq_true, decide_eq_true_eq] at hj ⊢
    exact ⟨hj.1, (lb_iff (by omega) hq).mpr (LT_trans ((lb_iff (by omega) hp).mp hj.2) h)⟩
theorem rks_iff {X : Int → Int} {n s p q : Int} (hp : p ≤ n) (hq : q ≤ n) (hs0 : 0 ≤ s) (hsp : s ≤ p) (hsq : s ≤ q) : rks X n s p < rks X n s q ↔ LT X n p q := by
  constructor
  · intro h
    by_cases e : p = q
    · subst e; omega
    · rcases LT_total hp hq e with g | g
      · exact g
      · have := rks_lt hq hp hs0 hsq g; omega
  · exact rks_lt hp hq hs0 hsp
theorem rk_lt {X : Int → Int} {n p q : Int} (hp0 : 0 ≤ p) (hp : p ≤ n) (hq : q ≤ n) (h : LT X n p q) : rk X n p < rk X n q := by
  have := rks_lt hp hq (Int.le_refl 0) hp0 h
  rwa [rks_0, rks_0] at this
theorem rk_iff {X : Int → Int} {n p q : Int} (hp0 : 0 ≤ p) (hp : p ≤ n) (hq0 : 0 ≤ q) (hq : q ≤ n) : rk X n p < rk X n q ↔ LT X n p q := by
  have := rks_iff (X := X) hp hq (Int.le_refl 0) hp0 hq0
  rwa [rks_0, rks_0] at this
theorem rk_inj {X : Int → Int} {n p q : Int} (hp0 : 0 ≤ p) (hp : p ≤ n) (hq0 : 0 ≤ q) (hq : q ≤ n) (h : rk X n p = rk X n q) : p = q := by
  refine Classical.byContradiction fun e => ?_
  rcases LT_total (X := X) hp hq e with g | g
  · have := rk_lt (X := X) hp0 hp hq g; omega
  · have := rk_lt (X := X) hq0 hq hp g; omega
theorem rks_rng {X : Int → Int} {n s p : Int} (hn : 0 ≤ n) (hs0 : 0 ≤ s) (hsp : s ≤ p) (hp : p ≤ n) : 0 ≤ rks X n s p ∧ rks X n s p ≤ n - s := by
  refine ⟨(cnt_rng (by omega)).1, ?_⟩
  have h1 : rks X n s p < cnt (fun q => decide (s ≤ q)) (n + 1) := cnt_lt (a := p) (by omega) (by omega) (by
    have : ¬ lb X n p p = true := fun z => LT_irr ((lb_iff hp hp).mp z)
    simp [this]) (by simp [hsp]) (fun j _ _ hj => by simp only [Bool.and_eq_true] at hj; exact hj.1)
  have h2 : cnt (fun q => !decide (s ≤ q)) (n + 1) = n + 1 - cnt (fun q => decide (s ≤ q)) (n + 1) := cnt_not (by omega)
  have h3 : s ≤ cnt (fun q => !decide (s ≤ q)) (n + 1) := cnt_inj (P := fun q => !decide (s ≤ q)) (f := fun i => i) s hs0 _ (fun i g0 g1 => ⟨g0, by omega, by simp; omega⟩) (fun i j _ h _ => by omega)
  omega
theorem rk_rng {X : Int → Int} {n p : Int} (hp0 : 0 ≤ p) (hp : p ≤ n) : 0 ≤ rk X n p ∧ rk X n p ≤ n := by
  have := rks_rng (X := X) (n := n) (s := 0) (p := p) (by omega) (by omega) hp0 hp
  rw [rks_0] at this
  omega
theorem rk_end {X : Int → Int} {n : Int} (hn : 0 ≤ n) : rk X n n = 0 := cnt_none (fun j h0 h1 => by
  have : ¬ lb X n j n = true := fun z => by
    obtain ⟨k, k0, -, -, k1, -⟩ := (lb_iff (by omega) (by omega)).mp z
    omega
  simpa using this)
theorem rk_surj {X : Int → Int} {n : Int} (hn : 0 ≤ n) : ∀ r, 0 ≤ r → r ≤ n → ∃ p, 0 ≤ p ∧ p ≤ n ∧ rk X n p = r := by
  intro r h0 h1
  obtain ⟨i, a, b, h⟩ := inj_surj (f := rk X n) (n := n + 1) (by omega) (fun i g0 g1 => by
    have := rk_rng (X := X) g0 (show i ≤ n by omega)
    omega) (fun i j g0 g1 g2 z => by
    have := rk_inj g0 (by omega) (by omega) (by omega) z
    omega) r h0 (by omega)
  exact ⟨i, a, by omega, h⟩
/-- one suffix more: the longer one comes in -/
theorem rks_in {X : Int → Int} {n s p : Int} (hs0 : 0 ≤ s) (hs : s ≤ n) : rks X n s p = rks X n (s + 1) p + (if lb X n s p then 1 else 0) := by
  by_cases h : lb X n s p = true
  · rw [if_pos h]
    refine cnt_one (a := s) hs0 (by omega) (by simp [h]) ?_ ?_
    · have : ¬ s + 1 ≤ s := by omega
      simp [this]
    · intro j _ _ hj
      have : s ≤ j ↔ s + 1 ≤ j := by omega
      simp [this]
  · rw [if_neg h, Int.add_zero]
    refine cnt_congr fun j _ _ => ?_
    by_cases hj : j = s
    · subst hj; simp [h]
    · have : s ≤ j ↔ s + 1 ≤ j := by omega
      simp [this]
/-- the order of the suffixes by their ranks -/
def SA (X : Int → Int) (n : Int) (o : Int → Int) : Prop := ∀ r, 0 ≤ r → r ≤ n → 0 ≤ o r ∧ o r ≤ n ∧ rk X n (o r) = r
theorem SA_at {X : Int → Int} {n : Int} {o : Int → Int} (h : SA X n o) {p : Int} (h0 : 0 ≤ p) (h1 : p ≤ n) : o (rk X n p) = p := by
  obtain ⟨g0, g1⟩ := rk_rng (X := X) h0 h1
  obtain ⟨a, b, d⟩ := h _ g0 g1
  exact rk_inj a b h0 h1 d
theorem SA_uniq {X : Int → Int} {n : Int} {o o' : Int → Int} (h : SA X n o) (h' : SA X n o') {r : Int} (h0 : 0 ≤ r) (h1 : r ≤ n) : o r = o' r := by
  obtain ⟨a, b, d⟩ := h r h0 h1
  obtain ⟨a', b', d'⟩ := h' r h0 h1
  exact rk_inj a b a' b' (d.trans d'.symm)
theorem SA_first {X : Int → Int} {n : Int} {o : Int → Int} (h : SA X n o) (hn : 0 ≤ n) : o 0 = n := by
  have := SA_at h hn (Int.le_refl n)
  rwa [rk_end hn] at this
/-- sorted rows are the order -/
theorem SA_of {X : Int → Int} {n : Int} {o : Int → Int} (h1 : ∀ r, 0 ≤ r → r ≤ n → 0 ≤ o r ∧ o r ≤ n) (h2 : ∀ i j, 0 ≤ i → i < j → j ≤ n → LT X n (o i) (o j)) : SA X n o := by
  intro r h0 hr
  obtain ⟨a, b⟩ := h1 r h0 hr
  refine ⟨a, b, ?_⟩
  have inj : ∀ i j, 0 ≤ i → i < j → j ≤ n → o i ≠ o j := fun i j g0 g1 g2 z => by
    have := h2 i j g0 g1 g2
    rw [z] at this
    exact LT_irr this
  have lo : r ≤ rk X n (o r) := cnt_inj (P := fun q => lb X n q (o r)) (f := o) r h0 _ (fun i g0 g1 => by
    obtain ⟨c, d⟩ := h1 i g0 (by omega)
    exact ⟨c, by omega, (lb_iff d b).mpr (h2 i r g0 g1 hr)⟩) (fun i j g0 g1 g2 => inj i j g0 g1 (by omega))
  have up : n + 1 - r ≤ cnt (fun q => !lb X n q (o r)) (n + 1) := cnt_inj (P := fun q => !lb X n q (o r)) (f := fun i => o (r + i)) (n + 1 - r) (by omega) _ (fun i g0 g1 => by
    obtain ⟨c, d⟩ := h1 (r + i) (by omega) (by omega)
    refine ⟨c, by omega, ?_⟩
    have : ¬ lb X n (o (r + i)) (o r) = true := fun z => by
      have z := (lb_iff d b).mp z
      by_cases hi : i = 0
      · subst hi
        rw [Int.add_zero] at z
        exact LT_irr z
      · exact LT_asym z (h2 r (r + i) h0 (by omega) (by omega))
    simpa using this) (fun i j g0 g1 g2 => inj _ _ (by omega) (by omega) (by omega))
  rw [cnt_not (by omega)] at up
  have e : rk X n (o r) = cnt (fun q => lb X n q (o r)) (n + 1) := rfl
  omega
end
section
/-! moving to the front -/
def mpos (L : Int → Int) (w : Int) : Int := ldn (fun j => decide (L j ≠ w)) 256 0
def mnew (L : Int → Int) (w : Int) : Int → Int := fun j => if j = 0 then w else if j ≤ mpos L w then L (j - 1) else L j
def mL0 : Int → Int := fun j => if j = 0 then -2 else j - 1
def mst (col : Int → Int) : Nat → Int → Int
  | 0 => mL0
  | k + 1 => mnew (mst col k) (col (k : Int))
def mS (col : Int → Int) (k : Int) : Int → Int := mst col k.toNat
def mN (col : Int → Int) (k : Int) : Int := mpos (mS col k) (col k)
theorem mS_0 {col : Int → Int} : mS col 0 = mL0 := rfl
theorem mS_s {col : Int → Int} {k : Int} (h : 0 ≤ k) : mS col (k + 1) = mnew (mS col k) (col k) := by
  have e : (k + 1).toNat = k.toNat + 1 := by omega
  have e2 : ((k.toNat : Nat) : Int) = k := Int.toNat_of_nonneg h
  simp only [mS, e, mst, e2]
def sy (w : Int) : Prop := w = -2 ∨ (0 ≤ w ∧ w ≤ 255)
def mok (L : Int → Int) : Prop := (∀ j, 0 ≤ j → j ≤ 256 → sy (L j)) ∧ (∀ w, sy w → ∃ j, 0 ≤ j ∧ j ≤ 256 ∧ L j = w)
theorem mok_0 : mok mL0 := by
  refine ⟨fun j h0 h1 => ?_, fun w hw => ?_⟩
  · by_cases h : j = 0
    · left; simp [mL0, h]
    · right; simp only [mL0, if_neg h]; omega
  · rcases hw with hw | hw
    · exact ⟨0, by omega, by omega, by simp [mL0, hw]⟩
    · refine ⟨w + 1, by omega, by omega, ?_⟩
      have : ¬ w + 1 = 0 := by omega
      simp only [mL0, if_neg this]; omega
theorem mpos_spec {L : Int → Int} {w : Int} (h : mok L) (hw : sy w) : 0 ≤ mpos L w ∧ mpos L w ≤ 256 ∧ L (mpos L w) = w ∧ ∀ j, 0 ≤ j → j < mpos L w → L j ≠ w := by
  obtain ⟨h1, h2, h3, h4⟩ := ldn_spec (fun j => decide (L j ≠ w)) 256 0
  have e : mpos L w = ldn (fun j => decide (L j ≠ w)) 256 0 := rfl
  rw [← e] at h1 h2 h3 h4
  have h3' : ∀ j, 0 ≤ j → j < mpos L w → L j ≠ w := fun j a b => by simpa using h3 j a b
  refine ⟨h1, by omega, ?_, h3'⟩
  rcases h4 with h4 | h4
  · obtain ⟨j, j0, j1, j2⟩ := h.2 w hw
    by_cases hj : j < mpos L w
    · exact absurd j2 (h3' j j0 hj)
    · have : j = mpos L w := by omega
      rw [← this]; exact j2
  · simpa using h4
theorem mpos_eq {L : Int → Int} {w k : Int} (h0 : 0 ≤ k) (h1 : k ≤ 256) (h2 : ∀ j, 0 ≤ j → j < k → L j ≠ w) (h3 : k = 256 ∨ L k = w) : mpos L w = k := by
  refine ldn_eq h0 (by omega) (fun j a b => by simpa using h2 j a b) ?_
  rcases h3 with h3 | h3
  · left; omega
  · right; simpa using h3
theorem mok_s {L : Int → Int} {w : Int} (h : mok L) (hw : sy w) : mok (mnew L w) := by
  obtain ⟨p0, p1, p2, p3⟩ := mpos_spec h hw
  refine ⟨fun j h0 h1 => ?_, fun v hv => ?_⟩
  · simp only [mnew]
    split
    · exact hw
    · split
      · exact h.1 _ (by omega) (by omega)
      · exact h.1 _ h0 h1
  · by_cases e : v = w
    · exact ⟨0, by omega, by omega, by simp [mnew, e]⟩
    · obtain ⟨j, j0, j1, j2⟩ := h.2 v hv
      by_cases hj : j < mpos L w
      · refine ⟨j + 1, by omega, by omega, ?_⟩
        have q1 : ¬ j + 1 = 0 := by omega
        have q2 : j + 1 ≤ mpos L w := by omega
        have q3 : j + 1 - 1 = j := by omega
        simp only [mnew, if_neg q1, if_pos q2, q3]
        exact j2
      · have hne : j ≠ mpos L w := fun z => by rw [z, p2] at j2; exact e j2.symm
        refine ⟨j, j0, j1, ?_⟩
        have q1 : ¬ j = 0 := by omega
        have q2 : ¬ j ≤ mpos L w := by omega
        simp only [mnew, if_neg q1, if_neg q2]
        exact j2
theorem mok_S {col : Int → Int} {n : Int} (hc : ∀ j, 0 ≤ j → j < n → sy (col j)) : ∀ k, 0 ≤ k → k ≤ n → mok (mS col k) := by
  intro k hk
  refine up_ind (C := fun k => k ≤ n → mok (mS col k)) (fun _ => mok_0) ?_ k hk
  intro k hk ih h
  rw [mS_s hk]
  exact mok_s (ih (by omega)) (hc k hk (by omega))
/-- the symbol as the reference writes it -/
def ph (w : Int) : Int := if w = -2 then 256 else w
theorem ph_inj {a b : Int} (ha : sy a) (hb : sy b) : ph a = ph b ↔ a = b := by
  simp only [ph, sy] at *
  split <;> split <;> omega
theorem ph_rng {a : Int} (ha : sy a) : 0 ≤ ph a ∧ ph a ≤ 256 := by
  simp only [ph, sy] at *
  split <;> omega
/-! the order by its ranks, the column -/
noncomputable def og (X : Int → Int) (n r : Int) : Int := Classical.epsilon (fun p => 0 ≤ p ∧ p ≤ n ∧ rk X n p = r)
theorem og_SA {X : Int → Int} {n : Int} (hn : 0 ≤ n) : SA X n (og X n) := by
  intro r h0 h1
  exact Classical.epsilon_spec (p := fun p => 0 ≤ p ∧ p ≤ n ∧ rk X n p = r) (rk_surj hn r h0 h1)
theorem og_rng {X : Int → Int} {n r : Int} (h0 : 0 ≤ r) (h1 : r ≤ n) : 0 ≤ og X n r ∧ og X n r ≤ n := by
  obtain ⟨a, b, _⟩ := og_SA (X := X) (n := n) (by omega) r h0 h1
  exact ⟨a, b⟩
theorem og_rk {X : Int → Int} {n p : Int} (h0 : 0 ≤ p) (h1 : p ≤ n) : og X n (rk X n p) = p := SA_at (og_SA (by omega)) h0 h1
theorem rk_og {X : Int → Int} {n r : Int} (h0 : 0 ≤ r) (h1 : r ≤ n) : rk X n (og X n r) = r := (og_SA (X := X) (n := n) (by omega) r h0 h1).2.2
theorem og_0 {X : Int → Int} {n : Int} (hn : 0 ≤ n) : og X n 0 = n := SA_first (og_SA hn) hn
noncomputable def cX (X : Int → Int) (n r : Int) : Int := if og X n r = 0 then -2 else X (og X n r - 1)
noncomputable def cm (X : Int → Int) (n r : Int) : Int := al X n X n (og X n r) (og X n (r + 1))
def ag (f F : Int → Int) (n : Int) : Prop := ∀ j, 0 ≤ j → j < n → f j = F j
def bt8 (X : Int → Int) (n : Int) : Prop := ∀ j, 0 ≤ j → j < n → 0 ≤ X j ∧ X j ≤ 255
theorem cX_sy {X : Int → Int} {n r : Int} (hb : bt8 X n) (h0 : 0 ≤ r) (h1 : r ≤ n) : sy (cX X n r) := by
  obtain ⟨a, b⟩ := og_rng (X := X) h0 h1
  unfold cX
  split
  · exact Or.inl rfl
  · exact Or.inr (hb _ (by omega) (by omega))
/-! sums, the best, the most -/
def smN (F : Int → Int) : Nat → Int
  | 0 => 0
  | k + 1 => smN F k + F (k : Int)
def sm (F : Int → Int) (n : Int) : Int := smN F n.toNat
theorem sm_0 {F : Int → Int} : sm F 0 = 0 := rfl
theorem sm_s {F : Int → Int} {n : Int} (h : 0 ≤ n) : sm F (n + 1) = sm F n + F n := by
  have e : (n + 1).toNat = n.toNat + 1 := by omega
  have e2 : ((n.toNat : Nat) : Int) = n := Int.toNat_of_nonneg h
  simp only [sm, e, smN, e2]
theorem sm_shift {F : Int → Int} {n : Int} (h : 0 ≤ n) : sm F (n + 1) = F 0 + sm (fun r => F (r + 1)) n := by
  refine up_ind (C := fun n => sm F (n + 1) = F 0 + sm (fun r => F (r + 1)) n) ?_ ?_ n h
  · rw [sm_s (by omega), sm_0, sm_0]; omega
  · intro k hk ih
    rw [sm_s (by omega), ih, sm_s hk]; omega
theorem sm_congr {F G : Int → Int} {n : Int} (h0 : 0 ≤ n) (h : ∀ j, 0 ≤ j → j < n → F j = G j) : sm F n = sm G n := by
  refine up_ind (C := fun k => k ≤ n → sm F k = sm G k) (fun _ => by rw [sm_0, sm_0]) ?_ n h0 (Int.le_refl n)
  intro k hk ih hk1
  rw [sm_s hk, sm_s hk, ih (by omega), h k hk (by omega)]
def rbN (c p : Int → Int) : Nat → Int × Int
  | 0 => (0, 0)
  | k + 1 => if (rbN c p k).1 < c k ∨ (c k = (rbN c p k).1 ∧ p k < (rbN c p k).2) then (c k, p k) else rbN c p k
def rb (c p : Int → Int) (n : Int) : Int × Int := rbN c p n.toNat
theorem rb_0 {c p : Int → Int} : rb c p 0 = (0, 0) := rfl
theorem rb_s {c p : Int → Int} {n : Int} (h : 0 ≤ n) : rb c p (n + 1) = if (rb c p n).1 < c n ∨ (c n = (rb c p n).1 ∧ p n < (rb c p n).2) then (c n, p n) else rb c p n := by
  have e : (n + 1).toNat = n.toNat + 1 := by omega
  have e2 : ((n.toNat : Nat) : Int) = n := Int.toNat_of_nonneg h
  have e3 : rbN c p (n.toNat + 1) = if (rbN c p n.toNat).1 < c (n.toNat : Int) ∨ (c (n.toNat : Int) = (rbN c p n.toNat).1 ∧ p (n.toNat : Int) < (rbN c p n.toNat).2) then (c (n.toNat : Int), p (n.toNat : Int)) else rbN c p n.toNat := rfl
  rw [e2] at e3
  show rbN c p (n + 1).toNat = _
  rw [e]
  exact e3
def mxN (F : Int → Int) : Nat → Int
  | 0 => 0
  | k + 1 => max (mxN F k) (F (k : Int))
def mx (F : Int → Int) (n : Int) : Int := mxN F n.toNat
theorem mx_0 {F : Int → Int} : mx F 0 = 0 := rfl
theorem mx_s {F : Int → Int} {n : Int} (h : 0 ≤ n) : mx F (n + 1) = max (mx F n) (F n) := by
  have e : (n + 1).toNat = n.toNat + 1 := by omega
  have e2 : ((n.toNat : Nat) : Int) = n := Int.toNat_of_nonneg h
  simp only [mx, e, mxN, e2]
/-! the pattern -/
def htb (Pt : Int → Int) (m : Int) (X : Int → Int) (n p : Int) : Bool := decide (al Pt m X n 0 p = m)
def bfb (Pt : Int → Int) (m : Int) (X : Int → Int) (n p : Int) : Bool := decide (al Pt m X n 0 p ≠ m ∧ (p + al Pt m X n 0 p = n ∨ X (p + al Pt m X n 0 p) < Pt (al Pt m X n 0 p)))
def htp (Pt : Int → Int) (m : Int) (X : Int → Int) (n k : Int) : Int := ldn (fun p => !(htb Pt m X n p && decide (cnt (htb Pt m X n) p = k))) (n + 1).toNat 0
def htr (Pt : Int → Int) (m : Int) (X : Int → Int) (n k : Int) : Int := if htp Pt m X n k ≤ n then htp Pt m X n k else -1
theorem htr_at {Pt : Int → Int} {m : Int} {X : Int → Int} {n k p : Int} (h0 : 0 ≤ p) (h1 : p ≤ n) (h2 : ∀ j, 0 ≤ j → j < p → ¬ (htb Pt m X n j = true ∧ cnt (htb Pt m X n) j = k)) (h3 : htb Pt m X n p = true) (h4 : cnt (htb Pt m X n) p = k) : htr Pt m X n k = p := by
  have e : htp Pt m X n k = p := by
    refine ldn_eq h0 (by omega) (fun j a b => ?_) (Or.inr (by simp [h3, h4]))
    have := h2 j a b
    simp only [Bool.not_eq_true', Bool.and_eq_false_iff, decide_eq_false_iff_not]
    by_cases g : htb Pt m X n j = true
    · right; exact fun z => this ⟨g, z⟩
    · left; simpa using g
  rw [htr, e, if_pos h1]
theorem htr_no {Pt : Int → Int} {m : Int} {X : Int → Int} {n k : Int} (hn : 0 ≤ n) (h2 : ∀ j, 0 ≤ j → j < n + 1 → ¬ (htb Pt m X n j = true ∧ cnt (htb Pt m X n) j = k)) : htr Pt m X n k = -1 := by
  have e : htp Pt m X n k = n + 1 := by
    refine ldn_eq (by omega) (by omega) (fun j a b => ?_) (Or.inl (by omega))
    have := h2 j a b
    simp only [Bool.not_eq_true', Bool.and_eq_false_iff, decide_eq_false_iff_not]
    by_cases g : htb Pt m X n j = true
    · right; exact fun z => this ⟨g, z⟩
    · left; simpa using g
  rw [htr, e, if_neg (by omega)]
/-! from a column back to its text -/
def lfb (col : Int → Int) (r o : Int) : Bool := decide (col o < col r ∨ (col o = col r ∧ o < r))
def lf (col : Int → Int) (N r : Int) : Int := cnt (lfb col r) (N + 1)
def wkN (col : Int → Int) (N : Int) : Nat → Int
  | 0 => 0
  | i + 1 => lf col N (wkN col N i)
def wk (col : Int → Int) (N i : Int) : Int := wkN col N i.toNat
theorem wk_0 {col : Int → Int} {N : Int} : wk col N 0 = 0 := rfl
theorem wk_s {col : Int → Int} {N i : Int} (h : 0 ≤ i) : wk col N (i + 1) = lf col N (wk col N i) := by
  have e : (i + 1).toNat = i.toNat + 1 := by omega
  simp only [wk, e, wkN]
def cok (col : Int → Int) (N k : Int) : Prop := 0 ≤ k ∧ k ≤ N ∧ col k = -2 ∧ ∀ j, 0 ≤ j → j ≤ N → j ≠ k → 0 ≤ col j ∧ col j ≤ 255
theorem lf_rng {col : Int → Int} {N r : Int} (h0 : 0 ≤ r) (h1 : r ≤ N) : 0 ≤ lf col N r ∧ lf col N r ≤ N := by
  refine ⟨(cnt_rng (by omega)).1, ?_⟩
  have := cnt_lt (P := lfb col r) (Q := fun _ => true) (n := N + 1) (a := r) h0 (by omega) (by simp [lfb]) rfl (fun _ _ _ _ => rfl)
  rw [cnt_all (by omega) (fun _ _ _ => rfl)] at this
  have e : lf col N r = cnt (lfb col r) (N + 1) := rfl
  omega
theorem lf_lt {col : Int → Int} {N a b : Int} (h0 : 0 ≤ a) (h1 : a ≤ N) (h : col a < col b ∨ (col a = col b ∧ a < b)) : lf col N a < lf col N b := by
  refine cnt_lt (a := a) h0 (by omega) (by simp [lfb]) (by simp only [lfb, decide_eq_true_eq]; exact h) ?_
  intro j _ _ hj
  simp only [lfb, decide_eq_true_eq] at hj ⊢
  omega
theorem lf_iff {col : Int → Int} {N a b : Int} (a0 : 0 ≤ a) (a1 : a ≤ N) (b0 : 0 ≤ b) (b1 : b ≤ N) : lf col N a < lf col N b ↔ (col a < col b ∨ (col a = col b ∧ a < b)) := by
  constructor
  · intro h
    by_cases e : a = b
    · subst e; omega
    · refine Classical.byContradiction fun z => ?_
      have := lf_lt (N := N) b0 b1 (col := col) (b := a) (by omega)
      omega
  · exact lf_lt a0 a1
theorem lf_inj {col : Int → Int} {N a b : Int} (a0 : 0 ≤ a) (a1 : a ≤ N) (b0 : 0 ≤ b) (b1 : b ≤ N) (h : lf col N a = lf col N b) : a = b := by
  refine Classical.byContradiction fun e => ?_
  by_cases z : col a < col b ∨ (col a = col b ∧ a < b)
  · have := lf_lt (N := N) a0 a1 z; omega
  · have := lf_lt (N := N) (col := col) (a := b) (b := a) b0 b1 (by omega); omega
theorem lf_zero {col : Int → Int} {N k r : Int} (hc : cok col N k) (h0 : 0 ≤ r) (h1 : r ≤ N) (h : lf col N r = 0) : r = k := by
  obtain ⟨k0, k1, k2, k3⟩ := hc
  refine Classical.byContradiction fun e => ?_
  have q := k3 r h0 h1 e
  have := lf_lt (N := N) (col := col) (a := k) (b := r) k0 k1 (by omega)
  have := (lf_rng (col := col) k0 k1).1
  omega
def wgood (col : Int → Int) (N : Int) : Prop := ∀ i, 0 ≤ i → i < N → col (wk col N i) ≠ -2
def xt (col : Int → Int) (N p : Int) : Int := col (wk col N (N - 1 - p))
theorem wk_rng {col : Int → Int} {N : Int} (hN : 0 ≤ N) : ∀ i, 0 ≤ i → 0 ≤ wk col N i ∧ wk col N i ≤ N := by
  intro i hi
  refine up_ind (C := fun i => 0 ≤ wk col N i ∧ wk col N i ≤ N) (by rw [wk_0]; omega) ?_ i hi
  intro k hk ih
  rw [wk_s hk]
  exact lf_rng ih.1 ih.2
theorem wk_inj {col : Int → Int} {N k : Int} (hN : 0 ≤ N) (hc : cok col N k) (hg : wgood col N) : ∀ i, 0 ≤ i → ∀ j, i < j → j ≤ N → wk col N i ≠ wk col N j := by
  intro i hi
  refine up_ind (C := fun i => ∀ j, i < j → j ≤ N → wk col N i ≠ wk col N j) ?_ ?_ i hi
  · intro j h1 h2 z
    have e : j = (j - 1) + 1 := by omega
    rw [wk_0, e, wk_s (by omega)] at z
    have r := wk_rng (col := col) hN (j - 1) (by omega)
    have q := lf_zero hc r.1 r.2 z.symm
    have := hg (j - 1) (by omega) (by omega)
    rw [q] at this
    exact this hc.2.2.1
  · intro i hi ih j h1 h2 z
    have e : j = (j - 1) + 1 := by omega
    rw [e, wk_s hi, wk_s (by omega)] at z
    have r1 := wk_rng (col := col) hN i hi
    have r2 := wk_rng (col := col) hN (j - 1) (by omega)
    exact ih (j - 1) (by omega) (by omega) (lf_inj r1.1 r1.2 r2.1 r2.2 z)
theorem xt_at {col : Int → Int} {N i : Int} : xt col N (N - (i + 1)) = col (wk col N i) := by
  have e : N - 1 - (N - (i + 1)) = i := by omega
  rw [xt, e]
theorem wk_ord {col : Int → Int} {N k : Int} (hN : 0 ≤ N) (hc : cok col N k) (hg : wgood col N) : ∀ i, 0 ≤ i → i ≤ N → ∀ j, 0 ≤ j → j ≤ N → wk col N i < wk col N j → LT (xt col N) N (N - i) (N - j) := by
  intro i hi
  refine up_ind (C := fun i => i ≤ N → ∀ j, 0 ≤ j → j ≤ N → wk col N i < wk col N j → LT (xt col N) N (N - i) (N - j)) ?_ ?_ i hi
  · intro _ j h0 h1 h
    have hj : j ≠ 0 := fun z => by subst z; omega
    have e : N - 0 = N := by omega
    rw [e]
    exact LT_end (by omega)
  · intro i hi ih hiN j h0 h1 h
    have hj : j ≠ 0 := fun z => by
      subst z
      rw [wk_0] at h
      have := (wk_rng (col := col) hN (i + 1) (by omega)).1
      omega
    have e : j = (j - 1) + 1 := by omega
    generalize j - 1 = j' at e
    subst e
    rw [wk_s hi, wk_s (by omega)] at h
    have r1 := wk_rng (col := col) hN i hi
    have r2 := wk_rng (col := col) hN j' (by omega)
    rw [lf_iff r1.1 r1.2 r2.1 r2.2] at h
    have x1 := xt_at (col := col) (N := N) (i := i)
    have x2 := xt_at (col := col) (N := N) (i := j')
    by_cases hx : xt col N (N - (i + 1)) = xt col N (N - (j' + 1))
    · rw [LT_step (by omega) (by omega) hx]
      have e1 : N - (i + 1) + 1 = N - i := by omega
      have e2 : N - (j' + 1) + 1 = N - j' := by omega
      rw [e1, e2]
      refine ih (by omega) j' (by omega) (by omega) ?_
      rw [x1, x2] at hx
      omega
    · rw [LT_ne (by omega) (by omega) hx, x1, x2]
      rw [x1, x2] at hx
      omega
/-- the text that the walk writes has the column that was given -/
theorem wk_col {col : Int → Int} {N k : Int} (hN : 0 ≤ N) (hc : cok col N k) (hg : wgood col N) : (∀ r, 0 ≤ r → r ≤ N → cX (xt col N) N r = col r) ∧ wk col N N = k ∧ bt8 (xt col N) N := by
  have sj := inj_surj (f := wk col N) (n := N + 1) (by omega) (fun i h0 h1 => by
    have := wk_rng (col := col) hN i h0
    omega) (fun i j h0 h1 h2 => wk_inj hN hc hg i h0 j h1 (by omega))
  have lastk : wk col N N = k := by
    obtain ⟨i, h0, h1, h2⟩ := sj k hc.1 (by have := hc.2.1; omega)
    by_cases hi : i = N
    · rw [hi] at h2; exact h2
    · have := hg i h0 (by omega)
      rw [h2] at this
      exact absurd hc.2.2.1 this
  have ord := wk_ord hN hc hg
  -- the order that the walk gives
  have hi : ∀ r, ∃ i, 0 ≤ r → r ≤ N → 0 ≤ i ∧ i ≤ N ∧ wk col N i = r := by
    intro r
    by_cases h : 0 ≤ r ∧ r ≤ N
    · obtain ⟨i, h0, h1, h2⟩ := sj r h.1 (by omega)
      exact ⟨i, fun _ _ => ⟨h0, by omega, h2⟩⟩
    · exact ⟨0, fun a b => absurd ⟨a, b⟩ h⟩
  have sa : SA (xt col N) N (fun r => N - Classical.choose (hi r)) := by
    refine SA_of (fun r h0 h1 => ?_) (fun a b h0 h1 h2 => ?_)
    · obtain ⟨g0, g1, -⟩ := Classical.choose_spec (hi r) h0 h1
      omega
    · obtain ⟨g0, g1, g2⟩ := Classical.choose_spec (hi a) h0 (by omega)
      obtain ⟨q0, q1, q2⟩ := Classical.choose_spec (hi b) (by omega) h2
      exact ord _ g0 g1 _ q0 q1 (by rw [g2, q2]; exact h1)
  refine ⟨fun r h0 h1 => ?_, lastk, fun j h0 h1 => ?_⟩
  · obtain ⟨g0, g1, g2⟩ := Classical.choose_spec (hi r) h0 h1
    have e : og (xt col N) N r = N - Classical.choose (hi r) := SA_uniq (og_SA hN) sa h0 h1
    generalize Classical.choose (hi r) = i at g0 g1 g2 e
    unfold cX
    rw [e]
    by_cases hz : N - i = 0
    · rw [if_pos hz]
      have : i = N := by omega
      rw [this, lastk] at g2
      rw [← g2]
      exact hc.2.2.1.symm
    · rw [if_neg hz]
      have e2 : N - i - 1 = N - (i + 1) := by omega
      rw [e2, xt_at, g2]
  · have e : j = N - ((N - 1 - j) + 1) := by omega
    have r := wk_rng (col := col) hN (N - 1 - j) (by omega)
    have hne := hg (N - 1 - j) (by omega) (by omega)
    rw [e, xt_at]
    refine hc.2.2.2 _ r.1 r.2 (fun z => ?_)
    rw [z] at hne
    exact hne hc.2.2.1
end
section
/-! one turn of the reference's sorting -/
def srt (X : Int → Int) (n : Int) (o : Int → Int) (p : Int) : Prop := (∀ j, 0 ≤ j → j < p → 0 ≤ o j ∧ o j < p) ∧ ∀ i j, 0 ≤ i → i < j → j < p → LT X n (o i) (o j)
theorem srt_0 {X : Int → Int} {n : Int} {o : Int → Int} : srt X n o 0 := ⟨fun j _ _ => by omega, fun i j _ _ _ => by omega⟩
theorem srt_s {X : Int → Int} {n p a : Int} {o cur : Int → Int} (h0 : 0 ≤ a) (h1 : a ≤ p) (h2 : p ≤ n) (ho : srt X n o p) (c1 : ∀ j, 0 ≤ j → j < a → cur j = o j) (c2 : ∀ j, a < j → j ≤ p → cur j = o (j - 1)) (hb : ∀ j, a ≤ j → j < p → LT X n p (o j)) (he : a = 0 ∨ ¬ LT X n p (o (a - 1))) : srt X n (iup cur a p) (p + 1) := by
  obtain ⟨r, s⟩ := ho
  have v : ∀ j, iup cur a p j = if j = a then p else cur j := fun j => rfl
  refine ⟨fun j g0 g1 => ?_, fun i j g0 g1 g2 => ?_⟩
  · rw [v]
    split
    · omega
    · by_cases hj : j < a
      · rw [c1 j g0 hj]
        have := r j g0 (by omega)
        omega
      · rw [c2 j (by omega) (by omega)]
        have := r (j - 1) (by omega) (by omega)
        omega
  · have low : ∀ i, 0 ≤ i → i < a → LT X n (o i) p := fun i q0 q1 => by
      rcases he with he | he
      · omega
      · have rr := r (a - 1) (by omega) (by omega)
        have t : LT X n (o (a - 1)) p := by
          rcases LT_total (X := X) (n := n) (p := p) (q := o (a - 1)) h2 (by omega) (by omega) with z | z
          · exact absurd z he
          · exact z
        by_cases hi : i = a - 1
        · rw [hi]; exact t
        · exact LT_trans (s i (a - 1) q0 (by omega) (by omega)) t
    rw [v, v]
    by_cases hj : j = a
    · rw [if_pos hj, if_neg (by omega), c1 i g0 (by omega)]
      exact low i g0 (by omega)
    · rw [if_neg hj]
      by_cases hi : i = a
      · rw [if_pos hi, c2 j (by omega) (by omega)]
        exact hb (j - 1) (by omega) (by omega)
      · rw [if_neg hi]
        by_cases gj : j < a
        · rw [c1 i g0 (by omega), c1 j (by omega) gj]
          exact s i j g0 g1 (by omega)
        · rw [c2 j (by omega) (by omega)]
          by_cases gi : i < a
          · rw [c1 i g0 gi]
            exact s i (j - 1) g0 (by omega) (by omega)
          · rw [c2 i (by omega) (by omega)]
            exact s (i - 1) (j - 1) (by omega) (by omega) (by omega)
theorem srt_og {X : Int → Int} {n : Int} {o : Int → Int} (hn : 0 ≤ n) (h : srt X n o (n + 1)) : ag o (og X n) (n + 1) := by
  have sa : SA X n o := SA_of (fun r a b => by have := h.1 r a (by omega); omega) (fun i j a b d => h.2 i j a b (by omega))
  exact fun j a b => SA_uniq sa (og_SA hn) a (by omega)
/-! one turn of the ranking -/
theorem ras_iff {X : Int → Int} {n s p : Int} (hs0 : 0 ≤ s) (hsp : s < p) (hp : p ≤ n) : rks X n (s + 1) s ≤ rks X n (s + 1) p ↔ LT X n s p := by
  constructor
  · intro h
    rcases LT_total (X := X) (n := n) (p := s) (q := p) (by omega) hp (by omega) with z | z
    · exact z
    · have := rks_lt (X := X) (n := n) (s := s + 1) (p := p) (q := s) hp (by omega) (by omega) (by omega) z
      omega
  · intro h
    refine cnt_mono fun j g0 g1 hj => ?_
    simp only [Bool.and_eq_true, decide_eq_true_eq] at hj ⊢
    exact ⟨hj.1, (lb_iff (by omega) hp).mpr (LT_trans ((lb_iff (by omega) (by omega)).mp hj.2) h)⟩
theorem ras_s {X : Int → Int} {n s p : Int} (hs0 : 0 ≤ s) (hsp : s < p) (hp : p ≤ n) : rks X n s p = rks X n (s + 1) p + (if rks X n (s + 1) s ≤ rks X n (s + 1) p then 1 else 0) := by
  rw [rks_in hs0 (by omega)]
  by_cases h : LT X n s p
  · rw [if_pos ((lb_iff (by omega) hp).mpr h), if_pos ((ras_iff hs0 hsp hp).mpr h)]
  · rw [if_neg (fun z => h ((lb_iff (by omega) hp).mp z)), if_neg (fun z => h ((ras_iff hs0 hsp hp).mp z))]
theorem ras_self {X : Int → Int} {n s : Int} (hs0 : 0 ≤ s) (hs : s ≤ n) : rks X n s s = rks X n (s + 1) s := by
  rw [rks_in hs0 hs, if_neg (fun z => LT_irr ((lb_iff hs hs).mp z)), Int.add_zero]
def rkc (X : Int → Int) (n s i : Int) : Int := cnt (fun q => decide (s + 1 ≤ q) && lb X n q s) i
theorem rkc_0 {X : Int → Int} {n s : Int} : rkc X n s (s + 1) = 0 := cnt_none (fun j _ h => by
  have : ¬ s + 1 ≤ j := by omega
  simp [this])
theorem rkc_s {X : Int → Int} {n s i : Int} (h0 : 0 ≤ s) (h : s < i) (hi : i ≤ n) : rkc X n s (i + 1) = rkc X n s i + (if lb X n i s then 1 else 0) := by
  unfold rkc
  rw [cnt_s (by omega)]
  have : s + 1 ≤ i := by omega
  simp [this]
theorem rkc_end {X : Int → Int} {n s : Int} : rkc X n s (n + 1) = rks X n (s + 1) s := rfl
theorem rkc_rng {X : Int → Int} {n s i : Int} (h0 : 0 ≤ i) : 0 ≤ rkc X n s i ∧ rkc X n s i ≤ i := cnt_rng h0
/-! how many rows: the sum from the second suffix on -/
theorem dst_eq {X : Int → Int} {n : Int} (hn : 0 ≤ n) : sm (fun r => n - og X n r - (if 0 < r then al X n X n (og X n (r - 1)) (og X n r) else 0)) (n + 1) = sm (fun r => n - og X n (r + 1) - cm X n r) n := by
  rw [sm_shift hn, og_0 hn]
  have e : sm (fun r => n - og X n (r + 1) - (if 0 < r + 1 then al X n X n (og X n (r + 1 - 1)) (og X n (r + 1)) else 0)) n = sm (fun r => n - og X n (r + 1) - cm X n r) n := sm_congr hn (fun j a _ => by
    have q : 0 < j + 1 := by omega
    have q2 : j + 1 - 1 = j := by omega
    simp only [if_pos q, q2, cm])
  rw [e]
  simp
/-! the walk back as the reference counts -/
theorem lf_lon {col : Int → Int} {N k r : Int} (hc : cok col N k) (h0 : 0 ≤ r) (h1 : r ≤ N) (hr : r ≠ k) : lf col N r = 1 + cnt (fun o => decide (0 ≤ col o) && lfb col r o) (N + 1) := by
  obtain ⟨k0, k1, k2, k3⟩ := hc
  have q := k3 r h0 h1 hr
  have : lf col N r = cnt (fun o => decide (0 ≤ col o) && lfb col r o) (N + 1) + 1 := by
    refine cnt_one (a := k) k0 (by omega) (by simp only [lfb, decide_eq_true_eq]; omega) (by simp [k2]) ?_
    intro j g0 g1 hj
    have := k3 j g0 (by omega) hj
    simp [this.1]
  omega
end
section
/-! what the calls do to the three rows: typed (T, t), text (X, n), pattern (Pt, m) -/
def gv (T : Int → Int) (k : Int) : Int → Int := fun j => if j < k then T j else if j = k then -2 else T (j - 1)
theorem gv_cok {T : Int → Int} {t k : Int} (hb : bt8 T t) (h0 : 0 ≤ k) (h1 : k ≤ t) : cok (gv T k) t k := by
  refine ⟨h0, h1, ?_, fun j g0 g1 hj => ?_⟩
  · simp [gv]
  · simp only [gv]
    split
    · exact hb j g0 (by omega)
    · exact hb (j - 1) (by omega) (by omega)
theorem cok_rng {col : Int → Int} {N k : Int} (h : cok col N k) : ∀ j, 0 ≤ j → j ≤ N → -2 ≤ col j ∧ col j ≤ 255 := by
  intro j h0 h1
  by_cases e : j = k
  · rw [e, h.2.2.1]; omega
  · have := h.2.2.2 j h0 h1 e; omega
theorem cok_k {col : Int → Int} {N k j : Int} (h : cok col N k) (h0 : 0 ≤ j) (h1 : j ≤ N) : col j = -2 ↔ j = k := by
  constructor
  · intro z
    refine Classical.byContradiction fun e => ?_
    have := h.2.2.2 j h0 h1 e; omega
  · intro z
    rw [z]; exact h.2.2.1
/-- the byte that type takes at i -/
def tb (bits : Int64) (i : Int) : Int := (((bits.toUInt64 >>> ((iI (8 * i)).toInt64.toUInt64 &&& Int64.toUInt64 63)).toInt64).toInt32 &&& iI 255).toInt
theorem tb_cls (bits : Int64) (i : Int) : ((bits.toUInt64 >>> ((iI (8 * i)).toInt64.toUInt64 &&& Int64.toUInt64 63)).toInt64).toInt32 &&& iI 255 = iI (tb bits i) := iI_of _
theorem tb_rng (bits : Int64) (i : Int) : 0 ≤ tb bits i ∧ tb bits i ≤ 255 := by
  unfold tb
  generalize ((bits.toUInt64 >>> ((iI (8 * i)).toInt64.toUInt64 &&& Int64.toUInt64 63)).toInt64).toInt32 = x
  rw [pk_and x (m := iI 255) 8 (by decide), nI_toInt (by omega)]
  omega
def tyR (t nn : Int) : Int := if nn < 1 ∨ 8 < nn then -1 else if 96 - t < nn then -3 else t + nn
def tyN (t nn : Int) : Int := if nn < 1 ∨ 8 < nn then t else if 96 - t < nn then t else t + nn
def tyG (T : Int → Int) (t : Int) (bits : Int64) (nn : Int) : Int → Int := fun j => if j < t then T j else tb bits (nn - 1 - (j - t))
theorem tyG_bt {T : Int → Int} {t n' nn : Int} {bits : Int64} (h : bt8 T t) : bt8 (tyG T t bits nn) n' := by
  intro j g0 g1
  simp only [tyG]
  split
  · exact h j g0 (by assumption)
  · exact tb_rng _ _
theorem tyN_rng {t nn : Int} (h0 : 0 ≤ t) (h1 : t ≤ 96) : 0 ≤ tyN t nn ∧ tyN t nn ≤ 96 := by
  unfold tyN
  split
  · omega
  · split <;> omega
def exR (m b : Int) : Int := if b < 0 ∨ 256 ≤ b then -1 else if 96 ≤ m then -3 else 0
def exN (m b : Int) : Int := if exR m b = 0 then m + 1 else m
def exG (Pt : Int → Int) (m b : Int) : Int → Int := if exR m b = 0 then (fun j => if j = 0 then b else Pt (j - 1)) else Pt
theorem exG_bt {Pt : Int → Int} {m b : Int} (h : bt8 Pt m) : bt8 (exG Pt m b) (exN m b) := by
  intro j g0 g1
  unfold exG exN at *
  by_cases e : exR m b = 0
  · rw [if_pos e] at *
    have hb : ¬ (b < 0 ∨ 256 ≤ b) := fun z => by unfold exR at e; rw [if_pos z] at e; omega
    show 0 ≤ (if j = 0 then b else Pt (j - 1)) ∧ (if j = 0 then b else Pt (j - 1)) ≤ 255
    split
    · omega
    · exact h (j - 1) (by omega) (by omega)
  · rw [if_neg e] at *
    exact h j g0 g1
theorem exN_rng {m b : Int} (h0 : 0 ≤ m) (h1 : m ≤ 96) : 0 ≤ exN m b ∧ exN m b ≤ 96 := by
  by_cases e : exR m b = 0
  · have hm : ¬ 96 ≤ m := fun z => by
      unfold exR at e
      by_cases hb : b < 0 ∨ 256 ≤ b
      · rw [if_pos hb] at e; omega
      · rw [if_neg hb, if_pos z] at e; omega
    simp only [exN, if_pos e]; omega
  · simp only [exN, if_neg e]; omega
theorem ag_refl {f : Int → Int} {n : Int} : ag f f n := fun _ _ _ => rfl
def cxi (X : Int → Int) (n : Int) (fX sa ro co cl nu : Int → Int) : Prop := ag fX X n ∧ bt8 X n ∧ (0 ≤ n ∧ n ≤ 96) ∧ ag sa (og X n) (n + 1) ∧ ag ro (rk X n) (n + 1) ∧ ag co (cm X n) n ∧ ag cl (cX X n) (n + 1) ∧ ag nu (mN (cX X n)) (n + 1)
def rvP (T : Int → Int) (t : Int) (X : Int → Int) (n k z t' : Int) (X' : Int → Int) (n' : Int) : Prop :=
  (¬ (0 ≤ k ∧ k ≤ t) ∧ z = -1 ∧ t' = t ∧ X' = X ∧ n' = n) ∨ ((0 ≤ k ∧ k ≤ t) ∧ wgood (gv T k) t ∧ z = t ∧ t' = 0 ∧ X' = xt (gv T k) t ∧ n' = t) ∨ ((0 ≤ k ∧ k ≤ t) ∧ ¬ wgood (gv T k) t ∧ z = -4 ∧ t' = 0 ∧ X' = X ∧ n' = n)
theorem rvP_fun {T : Int → Int} {t : Int} {X : Int → Int} {n k z t' n' : Int} {X' : Int → Int} {z2 t2 n2 : Int} {X2 : Int → Int} (h : rvP T t X n k z t' X' n') (h2 : rvP T t X n k z2 t2 X2 n2) : z = z2 ∧ t' = t2 ∧ X' = X2 ∧ n' = n2 := by
  rcases h with ⟨a, rfl, rfl, rfl, rfl⟩ | ⟨a, b, rfl, rfl, rfl, rfl⟩ | ⟨a, b, rfl, rfl, rfl, rfl⟩ <;> rcases h2 with ⟨c, rfl, rfl, rfl, rfl⟩ | ⟨c, d, rfl, rfl, rfl, rfl⟩ | ⟨c, d, rfl, rfl, rfl, rfl⟩
  · exact ⟨rfl, rfl, rfl, rfl⟩
  · exact absurd c a
  · exact absurd c a
  · exact absurd a c
  · exact ⟨rfl, rfl, rfl, rfl⟩
  · exact absurd b d
  · exact absurd a c
  · exact absurd d b
  · exact ⟨rfl, rfl, rfl, rfl⟩
def ps (w : Int) : Int := if w = -2 then -1 else w
noncomputable def rpt (X : Int → Int) (n : Int) : Int := if (rb (cm X n) (fun r => min (og X n r) (og X n (r + 1))) n).1 = 0 then 0 else 128 * (rb (cm X n) (fun r => min (og X n r) (og X n (r + 1))) n).1 + (rb (cm X n) (fun r => min (og X n r) (og X n (r + 1))) n).2
theorem rb_rng {c q : Int → Int} {n B : Int} (hB : 0 ≤ B) (hc : ∀ j, 0 ≤ j → j < n → 0 ≤ c j ∧ c j ≤ B) (hp : ∀ j, 0 ≤ j → j < n → 0 ≤ q j ∧ q j ≤ B) : ∀ k, 0 ≤ k → k ≤ n → 0 ≤ (rb c q k).1 ∧ (rb c q k).1 ≤ B ∧ 0 ≤ (rb c q k).2 ∧ (rb c q k).2 ≤ B := by
  intro k hk
  refine up_ind (C := fun k => k ≤ n → 0 ≤ (rb c q k).1 ∧ (rb c q k).1 ≤ B ∧ 0 ≤ (rb c q k).2 ∧ (rb c q k).2 ≤ B) (fun _ => by rw [rb_0]; exact ⟨Int.le_refl 0, hB, Int.le_refl 0, hB⟩) ?_ k hk
  intro k hk ih h
  rw [rb_s hk]
  have a := hc k hk (by omega)
  have b := hp k hk (by omega)
  have i := ih (by omega)
  split
  · exact ⟨a.1, a.2, b.1, b.2⟩
  · exact i
theorem cm_rng {X : Int → Int} {n r : Int} (h0 : 0 ≤ r) (h1 : r < n) : 0 ≤ cm X n r ∧ cm X n r ≤ n := by
  have a := og_rng (X := X) (n := n) h0 (by omega)
  have b := og_rng (X := X) (n := n) (r := r + 1) (by omega) (by omega)
  obtain ⟨p1, p2, _⟩ := al_spec (f := X) (g := X) (n := n) (m := n) (p := og X n r) (q := og X n (r + 1)) a.2 b.2
  have e : cm X n r = al X n X n (og X n r) (og X n (r + 1)) := rfl
  omega
theorem al_rng {f g : Int → Int} {n m p q : Int} (hp : p ≤ n) (hq : q ≤ m) : 0 ≤ al f n g m p q ∧ p + al f n g m p q ≤ n ∧ q + al f n g m p q ≤ m := by
  obtain ⟨h1, h2, h3, _⟩ := al_spec (f := f) (g := g) hp hq
  exact ⟨h1, h2, h3⟩
theorem mx_rng {F : Int → Int} {n B : Int} (hB : 0 ≤ B) (h : ∀ j, 0 ≤ j → j < n → F j ≤ B) : ∀ k, 0 ≤ k → k ≤ n → 0 ≤ mx F k ∧ mx F k ≤ B := by
  intro k hk
  refine up_ind (C := fun k => k ≤ n → 0 ≤ mx F k ∧ mx F k ≤ B) (fun _ => by rw [mx_0]; omega) ?_ k hk
  intro k hk ih hkn
  rw [mx_s hk]
  have a := h k hk (by omega)
  have i := ih (by omega)
  omega
end
section
theorem z01 {b : Bool} : iR (if b then 1 else 0) := by cases b <;> exact ⟨by decide, by decide⟩
theorem z01_0 {b : Bool} (h : (if b then (1 : Int) else 0) = 0) : b = false := by cases b <;> simp_all
theorem z01_1 {b : Bool} (h : (if b then (1 : Int) else 0) ≠ 0) : b = true := by cases b <;> simp_all
theorem shb_end {X : Int → Int} {n q : Int} (hq : q < n) : lb X n n q = true := (lb_iff (Int.le_refl n) (by omega)).mpr (LT_end hq)
theorem shb_lt {X : Int → Int} {n p q : Int} (hp : p < n) (hq : q < n) (h : X p < X q) : lb X n p q = true := (lb_iff (by omega) (by omega)).mpr ((LT_ne hp hq (by omega)).mpr h)
theorem shb_gt {X : Int → Int} {n p q : Int} (hp : p < n) (hq : q < n) (h : X q < X p) : lb X n p q = false := by
  have : ¬ lb X n p q = true := fun z => by
    have := (LT_ne hp hq (by omega)).mp ((lb_iff (by omega) (by omega)).mp z)
    omega
  simpa using this
theorem shb_t {X : Int → Int} {n s p q : Int} (hs : 0 ≤ s) (h1 : s ≤ p + 1) (h2 : s ≤ q + 1) (hp : p < n) (hq : q < n) (h : X p = X q) (g : rks X n s (p + 1) < rks X n s (q + 1)) : lb X n p q = true :=
  (lb_iff (by omega) (by omega)).mpr ((LT_step hp hq h).mpr ((rks_iff (by omega) (by omega) hs h1 h2).mp g))
theorem shb_f {X : Int → Int} {n s p q : Int} (hs : 0 ≤ s) (h1 : s ≤ p + 1) (h2 : s ≤ q + 1) (hp : p < n) (hq : q < n) (h : X p = X q) (g : rks X n s (q + 1) ≤ rks X n s (p + 1)) : lb X n p q = false := by
  have : ¬ lb X n p q = true := fun z => by
    have := (rks_iff (by omega) (by omega) hs h1 h2).mpr ((LT_step hp hq h).mp ((lb_iff (by omega) (by omega)).mp z))
    omega
  simpa using this
theorem all_s {P : Int → Prop} {k : Int} (h : ∀ j, 0 ≤ j → j < k → P j) (hk : P k) : ∀ j, 0 ≤ j → j < k + 1 → P j := fun j a b => by
  by_cases e : j = k
  · rw [e]; exact hk
  · exact h j a (by omega)
theorem ag_s {f F : Int → Int} {k x : Int} (h : ag f F k) (hx : x = F k) : ag (iup f k x) F (k + 1) := fun j a b => by
  by_cases e : j = k
  · rw [iup_eq e, hx, e]
  · rw [iup_ne e]; exact h j a (by omega)
theorem ag_0 {f F : Int → Int} {n : Int} (h : n ≤ 0) : ag f F n := fun j a b => by omega
theorem ag_le {f F : Int → Int} {k n : Int} (h : ag f F n) (hk : k ≤ n) : ag f F k := fun j a b => h j a (by omega)
theorem ag_cpy {f g F : Int → Int} {n : Int} (h : ag f F n) : ag (icpy f g 0 0 n) F n := fun j a b => by
  have e : (0 : Int) ≤ j ∧ j < 0 + n := by omega
  have e2 : (0 : Int) + (j - 0) = j := by omega
  simp only [icpy, if_pos e, e2]
  exact h j a b
theorem ras_keep {X : Int → Int} {n s k : Int} {ro : Int → Int} (h : ∀ p, s + 1 ≤ p → p < k → ro p = rks X n s p) (e : ro k = rks X n s k) : ∀ p, s + 1 ≤ p → p < k + 1 → ro p = rks X n s p := fun p a b => by
  by_cases z : p = k
  · rw [z]; exact e
  · exact h p a (by omega)
theorem ras_put {X : Int → Int} {n s k v : Int} {ro : Int → Int} (h : ∀ p, s + 1 ≤ p → p < k → ro p = rks X n s p) (e : v = rks X n s k) : ∀ p, s + 1 ≤ p → p < k + 1 → iup ro k v p = rks X n s p := fun p a b => by
  by_cases z : p = k
  · rw [iup_eq z, z]; exact e
  · rw [iup_ne z]; exact h p a (by omega)
theorem ras_rest {X : Int → Int} {n s k v : Int} {ro : Int → Int} (h : ∀ p, k ≤ p → p ≤ n → ro p = rks X n s p) : ∀ p, k + 1 ≤ p → p ≤ n → iup ro k v p = rks X n s p := fun p a b => by
  rw [iup_ne (by omega)]; exact h p (by omega) b
theorem ord_put {X : Int → Int} {n i r v : Int} {sa cl : Int → Int} (hi : 0 ≤ i ∧ i ≤ n) (hr : r = rk X n i) (hv : v = if i = 0 then -2 else X (i - 1)) (h : ∀ p, 0 ≤ p → p < i → sa (rk X n p) = p ∧ cl (rk X n p) = (if p = 0 then -2 else X (p - 1))) : ∀ p, 0 ≤ p → p < i + 1 → iup sa r i (rk X n p) = p ∧ iup cl r v (rk X n p) = (if p = 0 then -2 else X (p - 1)) := fun p a b => by
  by_cases z : p = i
  · subst z
    rw [iup_eq hr.symm, iup_eq hr.symm]
    exact ⟨rfl, hv⟩
  · have hne : rk X n p ≠ r := fun y => z (rk_inj a (by omega) hi.1 hi.2 (y.trans hr))
    rw [iup_ne hne, iup_ne hne]
    exact h p a (by omega)
theorem ord_end {X : Int → Int} {n : Int} {sa cl : Int → Int} (hn : 0 ≤ n) (h : ∀ p, 0 ≤ p → p < n + 1 → sa (rk X n p) = p ∧ cl (rk X n p) = (if p = 0 then -2 else X (p - 1))) : ag sa (og X n) (n + 1) ∧ ag cl (cX X n) (n + 1) := by
  refine ⟨fun j a b => ?_, fun j a b => ?_⟩
  · obtain ⟨g0, g1⟩ := og_rng (X := X) (n := n) (r := j) a (by omega)
    have := (h _ g0 (by omega)).1
    rwa [rk_og a (by omega)] at this
  · obtain ⟨g0, g1⟩ := og_rng (X := X) (n := n) (r := j) a (by omega)
    have := (h _ g0 (by omega)).2
    rw [rk_og a (by omega)] at this
    rw [this]
    rfl
theorem sy_rng {w : Int} (h : sy w) : -2 ≤ w ∧ w ≤ 255 := by
  rcases h with h | h <;> omega
theorem cnt_y {P : Int → Bool} {n : Int} (h : 0 ≤ n) (hP : P n = true) : cnt P (n + 1) = cnt P n + 1 := by rw [cnt_s h, if_pos hP]
theorem cnt_n {P : Int → Bool} {n : Int} (h : 0 ≤ n) (hP : P n = false) : cnt P (n + 1) = cnt P n := by
  rw [cnt_s h, hP]; simp
theorem mnew_ag {f L : Int → Int} {w k : Int} (hf : ag f L 257) (hk : mpos L w = k) (h0 : 0 ≤ k ∧ k ≤ 256) : ag (iup (icpy f f 0 1 k) 0 w) (mnew L w) 257 := fun j a b => by
  by_cases z : j = 0
  · rw [iup_eq z]; simp [mnew, z]
  · rw [iup_ne z]
    simp only [mnew, if_neg z, hk, icpy]
    by_cases g : j ≤ k
    · rw [if_pos (show 1 ≤ j ∧ j < 1 + k by omega), if_pos g, show (0 : Int) + (j - 1) = j - 1 by omega]
      exact hf (j - 1) (by omega) (by omega)
    · rw [if_neg (show ¬ (1 ≤ j ∧ j < 1 + k) by omega), if_neg g]
      exact hf j a b
theorem gv_put {co T : Int → Int} {i p q x : Int} (h : ∀ j, 0 ≤ j → j < p → co (if j < i then j else j + 1) = T j) (hq : q = if p < i then p else p + 1) (hx : x = T p) : ∀ j, 0 ≤ j → j < p + 1 → iup co q x (if j < i then j else j + 1) = T j := fun j a b => by
  by_cases z : j = p
  · rw [iup_eq (by rw [hq, z]), hx, z]
  · rw [iup_ne (by rw [hq]; split <;> split <;> omega)]
    exact h j a (by omega)
theorem gv_end {co T : Int → Int} {i t p : Int} (hi : 0 ≤ i ∧ i ≤ t) (hp : t ≤ p) (h : ∀ j, 0 ≤ j → j < p → co (if j < i then j else j + 1) = T j) : ag (iup co i (-2)) (gv T i) (t + 1) := fun j a b => by
  by_cases z : j = i
  · rw [iup_eq z]; simp [gv, z]
  · rw [iup_ne z]
    by_cases g : j < i
    · have := h j a (by omega)
      rw [if_pos g] at this
      simp only [gv, if_pos g]
      exact this
    · have := h (j - 1) (by omega) (by omega)
      rw [if_neg (show ¬ j - 1 < i by omega), show j - 1 + 1 = j by omega] at this
      simp only [gv, if_neg g, if_neg z]
      exact this
theorem rb_put {c q : Int → Int} {n b l x y : Int} (h0 : 0 ≤ n) (h : (b, l) = rb c q n) (hx : x = c n) (hy : y = q n) (hc : b < x ∨ (x = b ∧ y < l)) : (x, y) = rb c q (n + 1) := by
  rw [rb_s h0, ← h]
  have e : (b, l).1 < c n ∨ (c n = (b, l).1 ∧ q n < (b, l).2) := by
    show b < c n ∨ (c n = b ∧ q n < l)
    rw [← hx, ← hy]; exact hc
  rw [if_pos e, hx, hy]
theorem rb_keep {c q : Int → Int} {n b l x y : Int} (h0 : 0 ≤ n) (h : (b, l) = rb c q n) (hx : x = c n) (hy : y = q n) (hc : ¬ (b < x ∨ (x = b ∧ y < l))) : (b, l) = rb c q (n + 1) := by
  rw [rb_s h0, ← h]
  have e : ¬ ((b, l).1 < c n ∨ (c n = (b, l).1 ∧ q n < (b, l).2)) := by
    show ¬ (b < c n ∨ (c n = b ∧ q n < l))
    rw [← hx, ← hy]; exact hc
  rw [if_neg e]
theorem rpt_0 {X : Int → Int} {n b l : Int} (h : rb (cm X n) (fun r => min (og X n r) (og X n (r + 1))) n = (b, l)) (hb : b = 0) : rpt X n = 0 := by
  unfold rpt
  rw [h]
  exact if_pos hb
theorem rpt_1 {X : Int → Int} {n b l : Int} (h : rb (cm X n) (fun r => min (og X n r) (og X n (r + 1))) n = (b, l)) (hb : b ≠ 0) : rpt X n = 128 * b + l := by
  unfold rpt
  rw [h]
  exact if_neg hb
theorem rpt_rng {X : Int → Int} {n r : Int} (hn : 0 ≤ n ∧ n ≤ 96) (h0 : 0 ≤ r) (h1 : r ≤ n) {b l : Int} (h : (b, l) = rb (cm X n) (fun r => min (og X n r) (og X n (r + 1))) r) : 0 ≤ b ∧ b ≤ 96 ∧ 0 ≤ l ∧ l ≤ 96 := by
  have rr := rb_rng (c := cm X n) (q := fun r => min (og X n r) (og X n (r + 1))) (n := n) (B := 96) (by omega) (fun j a b => by
    have := cm_rng (X := X) (n := n) a b; omega) (fun j a b => by
    have := og_rng (X := X) (n := n) (r := j) a (by omega)
    have := og_rng (X := X) (n := n) (r := j + 1) (by omega) (by omega)
    show 0 ≤ min (og X n j) (og X n (j + 1)) ∧ min (og X n j) (og X n (j + 1)) ≤ 96
    omega) r h0 h1
  rw [← h] at rr
  exact rr
theorem exN_bad {m b : Int} (h : exR m b ≠ 0) : exN m b = m := if_neg h
theorem exG_bad {Pt : Int → Int} {m b : Int} (h : exR m b ≠ 0) : exG Pt m b = Pt := if_neg h
theorem exN_ok {m b : Int} (h : exR m b = 0) : exN m b = m + 1 := if_pos h
theorem exG_ok {Pt : Int → Int} {m b : Int} (h : exR m b = 0) : exG Pt m b = (fun j => if j = 0 then b else Pt (j - 1)) := if_pos h
theorem exR_bad {m b : Int} (h : b < 0 ∨ 256 ≤ b) : exR m b = -1 := if_pos h
theorem exR_full {m b : Int} (h : ¬ (b < 0 ∨ 256 ≤ b)) (h2 : 96 ≤ m) : exR m b = -3 := by unfold exR; rw [if_neg h, if_pos h2]
theorem exR_ok {m b : Int} (h : ¬ (b < 0 ∨ 256 ≤ b)) (h2 : ¬ 96 ≤ m) : exR m b = 0 := by unfold exR; rw [if_neg h, if_neg h2]
theorem ex_ag {f Pt : Int → Int} {m b : Int} (h : exR m b = 0) (hf : ag f Pt m) : ag (iup (icpy f f 0 1 m) 0 b) (exG Pt m b) (m + 1) := fun j a d => by
  rw [exG_ok h]
  by_cases z : j = 0
  · rw [iup_eq z]; simp [z]
  · rw [iup_ne z]
    show icpy f f 0 1 m j = if j = 0 then b else Pt (j - 1)
    rw [if_neg z]
    simp only [icpy]
    rw [if_pos (show 1 ≤ j ∧ j < 1 + m by omega), show (0 : Int) + (j - 1) = j - 1 by omega]
    exact hf (j - 1) (by omega) (by omega)
theorem ty_bad {t i : Int} (h : i < 1 ∨ 8 < i) : tyR t i = -1 ∧ tyN t i = t := ⟨if_pos h, if_pos h⟩
theorem ty_full {t i : Int} (h : ¬ (i < 1 ∨ 8 < i)) (h2 : 96 - t < i) : tyR t i = -3 ∧ tyN t i = t := by
  unfold tyR tyN
  rw [if_neg h, if_neg h, if_pos h2, if_pos h2]
  exact ⟨rfl, rfl⟩
theorem ty_ok {t i : Int} (h : ¬ (i < 1 ∨ 8 < i)) (h2 : ¬ 96 - t < i) : tyR t i = t + i ∧ tyN t i = t + i := by
  unfold tyR tyN
  rw [if_neg h, if_neg h, if_neg h2, if_neg h2]
  exact ⟨rfl, rfl⟩
theorem tyG_ag {f T : Int → Int} {t i : Int} {bits : Int64} (h : ag f T t) : ag f (tyG T t bits i) t := fun j a b => by
  simp only [tyG, if_pos b]
  exact h j a b
theorem zi {c : Prop} [Decidable c] : iR (if c then 1 else 0) := by split <;> exact ⟨by decide, by decide⟩
theorem zi_0 {c : Prop} [Decidable c] (h : (if c then (1 : Int) else 0) = 0) : ¬ c := fun z => by rw [if_pos z] at h; exact absurd h (by decide)
theorem zi_1 {c : Prop} [Decidable c] (h : (if c then (1 : Int) else 0) ≠ 0) : c := Classical.byContradiction fun z => h (if_neg z)
end
section
theorem bv8 (x : BitVec 64) (k : Nat) (hk : k ≤ 56) : ((x.sshiftRight k) &&& 255#64).signExtend 32 = ((x >>> k).signExtend 32) &&& 255#32 := by
  apply BitVec.eq_of_getLsbD_eq
  intro j hj
  have h255 : ∀ j, j < 32 → (255#64).getLsbD j = (255#32).getLsbD j := by decide
  have e2 : j < 64 := by omega
  by_cases h8 : j < 8
  · have e1 : k + j < 64 := by omega
    simp only [BitVec.getLsbD_signExtend, BitVec.getLsbD_and, BitVec.getLsbD_sshiftRight, BitVec.getLsbD_ushiftRight, hj, h255 j hj, e1, e2, if_true, decide_true, Bool.true_and]
    simp [show ¬ 64 ≤ j by omega]
  · have h0 : (255#32).getLsbD j = false := by
      have : ∀ j, j < 32 → ¬ j < 8 → (255#32).getLsbD j = false := by decide
      exact this j hj h8
    simp only [BitVec.getLsbD_signExtend, BitVec.getLsbD_and, hj, h255 j hj, h0, e2, if_true, decide_true, Bool.true_and, Bool.and_false]
theorem tb_mod (bits : Int64) (i : Int) (h : 0 ≤ i ∧ i ≤ 7) : ((bits >>> ((iI (8 * i)).toInt64 &&& 63)) &&& 255).toInt32 = iI (tb bits i) := by
  rw [← tb_cls]
  have hi : i = 0 ∨ i = 1 ∨ i = 2 ∨ i = 3 ∨ i = 4 ∨ i = 5 ∨ i = 6 ∨ i = 7 := by omega
  apply Int32.toBitVec_inj.mp
  rcases hi with rfl | rfl | rfl | rfl | rfl | rfl | rfl | rfl
  · exact bv8 bits.toBitVec 0 (by decide)
  · exact bv8 bits.toBitVec 8 (by decide)
  · exact bv8 bits.toBitVec 16 (by decide)
  · exact bv8 bits.toBitVec 24 (by decide)
  · exact bv8 bits.toBitVec 32 (by decide)
  · exact bv8 bits.toBitVec 40 (by decide)
  · exact bv8 bits.toBitVec 48 (by decide)
  · exact bv8 bits.toBitVec 56 (by decide)
theorem rkf_0 {X : Int → Int} {n i : Int} : (-1 : Int) = if 0 ≤ i ∧ i ≤ n ∧ rk X n i < 0 then rk X n i else -1 := by
  rw [if_neg (fun z => by have := rk_rng (X := X) z.1 z.2.1; omega)]
theorem rkf_put {X : Int → Int} {n i r : Int} (h0 : 0 ≤ r) (h1 : r ≤ n) (e : og X n r = i) : r = if 0 ≤ i ∧ i ≤ n ∧ rk X n i < r + 1 then rk X n i else -1 := by
  have g := og_rng (X := X) h0 h1
  have q := rk_og (X := X) h0 h1
  rw [e] at g q
  rw [if_pos ⟨g.1, g.2, by omega⟩, q]
theorem rkf_keep {X : Int → Int} {n i r fo : Int} (h0 : 0 ≤ r) (h1 : r ≤ n) (e : og X n r ≠ i) (h : fo = if 0 ≤ i ∧ i ≤ n ∧ rk X n i < r then rk X n i else -1) : fo = if 0 ≤ i ∧ i ≤ n ∧ rk X n i < r + 1 then rk X n i else -1 := by
  by_cases c : 0 ≤ i ∧ i ≤ n ∧ rk X n i < r + 1
  · have hne : rk X n i ≠ r := fun z => e (by rw [← z, og_rk c.1 c.2.1])
    have c2 : 0 ≤ i ∧ i ≤ n ∧ rk X n i < r := ⟨c.1, c.2.1, by omega⟩
    rw [if_pos c2] at h
    rw [if_pos c]; exact h
  · have c2 : ¬ (0 ≤ i ∧ i ≤ n ∧ rk X n i < r) := fun z => c ⟨z.1, z.2.1, by omega⟩
    rw [if_neg c2] at h
    rw [if_neg c]; exact h
theorem rkf_end {X : Int → Int} {n i r fo : Int} (hr : n < r) (h : fo = if 0 ≤ i ∧ i ≤ n ∧ rk X n i < r then rk X n i else -1) : fo = if 0 ≤ i ∧ i ≤ n then rk X n i else -1 := by
  by_cases c : 0 ≤ i ∧ i ≤ n
  · have q := rk_rng (X := X) c.1 c.2
    rw [if_pos ⟨c.1, c.2, by omega⟩] at h
    rw [if_pos c]; exact h
  · rw [if_neg (fun z => c ⟨z.1, z.2.1⟩)] at h
    rw [if_neg c]; exact h
theorem phc_0 {X : Int → Int} {n i : Int} (h : og X n i = 0) : ph (cX X n i) = 256 := by
  simp [cX, h, ph]
theorem phc_1 {X : Int → Int} {n i : Int} (hb : bt8 X n) (h0 : 0 ≤ i) (h1 : i ≤ n) (h : og X n i ≠ 0) : ph (cX X n i) = X (og X n i - 1) := by
  have g := og_rng (X := X) h0 h1
  have b := hb (og X n i - 1) (by omega) (by omega)
  have e : cX X n i = X (og X n i - 1) := if_neg h
  rw [e]
  exact if_neg (by omega)
theorem ph_none {w : Int} (hs : sy w) (h : ph w = 256) : w = -2 := by
  simp only [ph, sy] at *
  split at h <;> omega
theorem ph_some {w : Int} (h : ph w ≠ 256) : ph w = w := by
  simp only [ph] at *
  split at h
  · exact absurd rfl h
  · rename_i z; rw [if_neg z]
theorem ph_c (w : Int) : (w = -2 ∧ ph w = 256) ∨ (w ≠ -2 ∧ ph w = w) := by
  by_cases h : w = -2
  · exact Or.inl ⟨h, if_pos h⟩
  · exact Or.inr ⟨h, if_neg h⟩
theorem ps_c (w : Int) : (w = -2 ∧ ps w = -1) ∨ (w ≠ -2 ∧ ps w = w) := by
  by_cases h : w = -2
  · exact Or.inl ⟨h, if_pos h⟩
  · exact Or.inr ⟨h, if_neg h⟩
theorem cok_val {col : Int → Int} {N k j : Int} (h : cok col N k) (h0 : 0 ≤ j) (h1 : j ≤ N) : col j = -2 ∨ (0 ≤ col j ∧ col j ≤ 255) := by
  by_cases e : j = k
  · rw [e]; exact Or.inl h.2.2.1
  · exact Or.inr (h.2.2.2 j h0 h1 e)
theorem mshift {f g L : Int → Int} {w q : Int} (hf : ag f (fun j => ph (L j)) 257) (d3 : ∀ j, 0 < j → j ≤ q → g j = f (j - 1)) (d4 : ∀ j, q < j → j < 257 → g j = f j) (hq : mpos L w = q) (h0 : 0 ≤ q ∧ q ≤ 256) : ag (iup g 0 (ph w)) (fun j => ph (mnew L w j)) 257 := fun j a b => by
  show iup g 0 (ph w) j = ph (mnew L w j)
  by_cases z : j = 0
  · rw [iup_eq z]; simp [mnew, z]
  · rw [iup_ne z]
    simp only [mnew, if_neg z, hq]
    by_cases c : j ≤ q
    · rw [if_pos c, d3 j (by omega) c]
      exact hf (j - 1) (by omega) (by omega)
    · rw [if_neg c, d4 j (by omega) b]
      exact hf j a b
theorem exs_ag {f g Pt : Int → Int} {m b : Int} (h : exR m b = 0) (hf : ag f Pt m) (d : ∀ j, 0 < j → j ≤ m → g j = f (j - 1)) : ag (iup g 0 b) (exG Pt m b) (m + 1) := fun j a c => by
  rw [exG_ok h]
  by_cases z : j = 0
  · rw [iup_eq z]; simp [z]
  · rw [iup_ne z]
    show g j = if j = 0 then b else Pt (j - 1)
    rw [if_neg z, d j (by omega) (by omega)]
    exact hf (j - 1) (by omega) (by omega)
theorem gvp1 {T : Int → Int} {t i j : Int} (hb : bt8 T t) (h0 : 0 ≤ j) (h1 : j < t) (h : j < i) : T j = ps (gv T i j) := by
  have b := hb j h0 h1
  have e : gv T i j = T j := if_pos h
  rw [e]
  exact (if_neg (by omega)).symm
theorem gvp2 {T : Int → Int} {i j : Int} (h : j = i) : -1 = ps (gv T i j) := by
  simp [gv, h, ps]
theorem gvp3 {T : Int → Int} {t i j : Int} (hb : bt8 T t) (h0 : 0 ≤ i) (h : i < j) (h1 : j ≤ t) : T (j - 1) = ps (gv T i j) := by
  have b := hb (j - 1) (by omega) (by omega)
  have e : gv T i j = T (j - 1) := by
    simp only [gv]
    rw [if_neg (by omega), if_neg (by omega)]
  rw [e]
  exact (if_neg (by omega)).symm
end
section
abbrev rm_BR_clear : Room := { frames := 0, cells := 0, slots := 0, locals := 0 }
set_option maxHeartbeats 4000000 in
set_option maxRecDepth 100000 in
theorem c_BR_clear (l : Launch) (D : va_G) (cA : ClassId) (h q : Nat) (n : Int)  : xV l y_BR_clear w_BR_clear rm_BR_clear D vwCl [(cA, .int)] [.ref h] [cO h 0 [.ref q, .int (iI n)]] (fun w => w = [cO h 0 [.ref q, .int (iI 0)]]) 0 0 := by
  refine xV.of (by decide) rfl (Nat.le_of_ble_eq_true rfl) ?_
  intro P0 E0 S0 M0 A0 B0 T0 C0 AA QQ XX hnm ret
  refine g_aload_n XX d_BR_clear_0 rfl 0 rfl ?_
  refine g_iconst XX d_BR_clear_1 ?_
  refine g_put (C := R_BR) (T := T_BR) (N := 2) (ty := (.int)) (ws' := [cO h 0 [.ref q, .int (iI 0)]]) XX (tmw win0_BR) ty_BR ok_BR nm_BR 0 rfl rfl 1 (by decide) (tm kw_160) rfl rfl (by decide +kernel) rfl rfl (Nat.le_of_ble_eq_true rfl) rfl d_BR_clear_2 ?_
  exact ret _ _ _ [cO h 0 [.ref q, .int (iI 0)]] [0] d_BR_clear_5 (by decide) rfl rfl
abbrev rm_BR_append : Room := { frames := 0, cells := 0, slots := 0, locals := 0 }
set_option maxHeartbeats 4000000 in
set_option maxRecDepth 100000 in
theorem c_BR_append (l : Launch) (D : va_G) (cA : ClassId) (h q : Nat) (f : Int → Int) (n b : Int) (hn : 0 ≤ n ∧ n < 96) : xV l y_BR_append w_BR_append rm_BR_append D vwCl [(cA, .int)] [.ref h, .int (iI b)] [cO h 0 [.ref q, .int (iI n)], cR q cA 96 f] (fun w => w = [cO h 0 [.ref q, .int (iI (n + 1))], cR q cA 96 (iup f n b)]) 0 0 := by
  refine xV.of (by decide) rfl (Nat.le_of_ble_eq_true rfl) ?_
  intro P0 E0 S0 M0 A0 B0 T0 C0 AA QQ XX hnm ret
  refine g_aload_n XX d_BR_append_0 rfl 0 rfl ?_
  refine g_get (C := R_BR) (T := T_BR) (N := 2) XX (tmw win0_BR) 0 rfl rfl 1 (by decide) (tm kw_160) rfl rfl d_BR_append_1 ?_
  refine g_bipush (v := 96) XX d_BR_append_4 (by decide) ?_
  refine g_icmp_ge (tgt := 29) XX d_BR_append_6 (by decide) ⟨by omega, by omega⟩ ⟨by omega, by omega⟩ (fun h6 => by exfalso; omega) (fun h6 => ?_)
  refine g_aload_n XX d_BR_append_9 rfl 0 rfl ?_
  refine g_get (C := R_BR) (T := T_BR) (N := 2) XX (tmw win0_BR) 0 rfl rfl 0 (by decide) (tm kw_159) rfl rfl d_BR_append_10 ?_
  refine g_aload_n XX d_BR_append_13 rfl 0 rfl ?_
  refine g_get (C := R_BR) (T := T_BR) (N := 2) XX (tmw win0_BR) 0 rfl rfl 1 (by decide) (tm kw_160) rfl rfl d_BR_append_14 ?_
  refine g_iload_n XX d_BR_append_17 rfl 1 rfl ?_
  refine g_iast (ws' := [cO h 0 [.ref q, .int (iI n)], cR q cA 96 (iup f n b)]) XX 1 0 rfl rfl ⟨by omega, by omega, by decide⟩ rfl d_BR_append_18 ?_
  refine g_aload_n XX d_BR_append_19 rfl 0 rfl ?_
  refine g_dup XX d_BR_append_20 rfl ?_
  refine g_get (C := R_BR) (T := T_BR) (N := 2) XX (tmw win0_BR) 0 rfl rfl 1 (by decide) (tm kw_160) rfl rfl d_BR_append_21 ?_
  refine g_iconst XX d_BR_append_24 ?_
  refine g_iadd XX d_BR_append_25 ?_
  refine g_put (C := R_BR) (T := T_BR) (N := 2) (ty := (.int)) (ws' := [cO h 0 [.ref q, .int (iI (n + 1))], cR q cA 96 (iup f n b)]) XX (tmw win0_BR) ty_BR ok_BR nm_BR 0 rfl rfl 1 (by decide) (tm kw_160) rfl rfl (by decide +kernel) rfl rfl (Nat.le_of_ble_eq_true rfl) rfl d_BR_append_26 ?_
  exact ret _ _ _ [cO h 0 [.ref q, .int (iI (n + 1))], cR q cA 96 (iup f n b)] [0, 1] d_BR_append_29 (by decide) rfl rfl
abbrev rm_BR_front : Room := { frames := 1, cells := 0, slots := 0, locals := 26 }
set_option maxHeartbeats 4000000 in
set_option maxRecDepth 100000 in
theorem c_BR_front (l : Launch) (D : va_G) (cA : ClassId) (h q : Nat) (f : Int → Int) (n b : Int) (hn : 0 ≤ n ∧ n < 96) : xV l y_BR_putInFront w_BR_putInFront rm_BR_front D vwCl [(cA, .int)] [.ref h, .int (iI b)] [cO h 0 [.ref q, .int (iI n)], cR q cA 96 f] (fun w => w = [cO h 0 [.ref q, .int (iI (n + 1))], cR q cA 96 (iup (icpy f f 0 1 n) 0 b)]) 0 0 := by
  refine xV.of (by decide) rfl (Nat.le_of_ble_eq_true rfl) ?_
  intro P0 E0 S0 M0 A0 B0 T0 C0 AA QQ XX hnm ret
  refine g_aload_n XX d_BR_putInFront_0 rfl 0 rfl ?_
  refine g_get (C := R_BR) (T := T_BR) (N := 2) XX (tmw win0_BR) 0 rfl rfl 1 (by decide) (tm kw_160) rfl rfl d_BR_putInFront_1 ?_
  refine g_bipush (v := 96) XX d_BR_putInFront_4 (by decide) ?_
  refine g_icmp_ge (tgt := 43) XX d_BR_putInFront_6 (by decide) ⟨by omega, by omega⟩ ⟨by omega, by omega⟩ (fun h6 => by exfalso; omega) (fun h6 => ?_)
  refine g_aload_n XX d_BR_putInFront_9 rfl 0 rfl ?_
  refine g_get (C := R_BR) (T := T_BR) (N := 2) XX (tmw win0_BR) 0 rfl rfl 0 (by decide) (tm kw_159) rfl rfl d_BR_putInFront_10 ?_
  refine g_iconst XX d_BR_putInFront_13 ?_
  refine g_aload_n XX d_BR_putInFront_14 rfl 0 rfl ?_
  refine g_get (C := R_BR) (T := T_BR) (N := 2) XX (tmw win0_BR) 0 rfl rfl 0 (by decide) (tm kw_159) rfl rfl d_BR_putInFront_15 ?_
  refine g_iconst XX d_BR_putInFront_18 ?_
  refine g_aload_n XX d_BR_putInFront_19 rfl 0 rfl ?_
  refine g_get (C := R_BR) (T := T_BR) (N := 2) XX (tmw win0_BR) 0 rfl rfl 1 (by decide) (tm kw_160) rfl rfl d_BR_putInFront_20 ?_
  refine g_copy (ws' := [cO h 0 [.ref q, .int (iI n)], cR q cA 96 (icpy f f 0 1 n)]) XX (tm kw_161) (tm kw_162) (tm kw_163) (tm kw_164) 1 1 0 0 rfl rfl rfl rfl ⟨by omega, by omega, by omega, by omega, by omega, by decide, by decide⟩ (by decide) (Nat.le_of_ble_eq_true rfl) rfl d_BR_putInFront_23 ?_
  refine g_aload_n XX d_BR_putInFront_26 rfl 0 rfl ?_
  refine g_get (C := R_BR) (T := T_BR) (N := 2) XX (tmw win0_BR) 0 rfl rfl 0 (by decide) (tm kw_159) rfl rfl d_BR_putInFront_27 ?_
  refine g_iconst XX d_BR_putInFront_30 ?_
  refine g_iload_n XX d_BR_putInFront_31 rfl 1 rfl ?_
  refine g_iast (ws' := [cO h 0 [.ref q, .int (iI n)], cR q cA 96 (iup (icpy f f 0 1 n) 0 b)]) XX 1 0 rfl rfl ⟨by omega, by omega, by decide⟩ rfl d_BR_putInFront_32 ?_
  refine g_aload_n XX d_BR_putInFront_33 rfl 0 rfl ?_
  refine g_dup XX d_BR_putInFront_34 rfl ?_
  refine g_get (C := R_BR) (T := T_BR) (N := 2) XX (tmw win0_BR) 0 rfl rfl 1 (by decide) (tm kw_160) rfl rfl d_BR_putInFront_35 ?_
  refine g_iconst XX d_BR_putInFront_38 ?_
  refine g_iadd XX d_BR_putInFront_39 ?_
  refine g_put (C := R_BR) (T := T_BR) (N := 2) (ty := (.int)) (ws' := [cO h 0 [.ref q, .int (iI (n + 1))], cR q cA 96 (iup (icpy f f 0 1 n) 0 b)]) XX (tmw win0_BR) ty_BR ok_BR nm_BR 0 rfl rfl 1 (by decide) (tm kw_160) rfl rfl (by decide +kernel) rfl rfl (Nat.le_of_ble_eq_true rfl) rfl d_BR_putInFront_40 ?_
  exact ret _ _ _ [cO h 0 [.ref q, .int (iI (n + 1))], cR q cA 96 (iup (icpy f f 0 1 n) 0 b)] [0, 1] d_BR_putInFront_43 (by decide) rfl rfl
abbrev rm_BR_copy : Room := { frames := 1, cells := 0, slots := 0, locals := 26 }
set_option maxHeartbeats 4000000 in
set_option maxRecDepth 100000 in
theorem c_BR_copy (l : Launch) (D : va_G) (cA : ClassId) (h q k a : Nat) (f g : Int → Int) (n m : Int) (hm : 0 ≤ m ∧ m ≤ 96) : xV l y_BR_copyFrom w_BR_copyFrom rm_BR_copy D vwCl [(cA, .int)] [.ref h, .ref k] [cO h 0 [.ref q, .int (iI n)], cR q cA 96 f, cO k 0 [.ref a, .int (iI m)], cR a cA 96 g] (fun w => w = [cO h 0 [.ref q, .int (iI m)], cR q cA 96 (icpy g f 0 0 m), cO k 0 [.ref a, .int (iI m)], cR a cA 96 g]) 0 0 := by
  refine xV.of (by decide) rfl (Nat.le_of_ble_eq_true rfl) ?_
  intro P0 E0 S0 M0 A0 B0 T0 C0 AA QQ XX hnm ret
  refine g_aload_n XX d_BR_copyFrom_0 rfl 1 rfl ?_
  refine g_get (C := R_BR) (T := T_BR) (N := 2) XX (tmw win0_BR) 2 rfl rfl 0 (by decide) (tm kw_159) rfl rfl d_BR_copyFrom_1 ?_
  refine g_iconst XX d_BR_copyFrom_4 ?_
  refine g_aload_n XX d_BR_copyFrom_5 rfl 0 rfl ?_
  refine g_get (C := R_BR) (T := T_BR) (N := 2) XX (tmw win0_BR) 0 rfl rfl 0 (by decide) (tm kw_159) rfl rfl d_BR_copyFrom_6 ?_
  refine g_iconst XX d_BR_copyFrom_9 ?_
  refine g_aload_n XX d_BR_copyFrom_10 rfl 1 rfl ?_
  refine g_get (C := R_BR) (T := T_BR) (N := 2) XX (tmw win0_BR) 2 rfl rfl 1 (by decide) (tm kw_160) rfl rfl d_BR_copyFrom_11 ?_
  refine g_copy (ws' := [cO h 0 [.ref q, .int (iI n)], cR q cA 96 (icpy g f 0 0 m), cO k 0 [.ref a, .int (iI m)], cR a cA 96 g]) XX (tm kw_161) (tm kw_162) (tm kw_163) (tm kw_164) 3 1 0 0 rfl rfl rfl rfl ⟨by omega, by omega, by omega, by omega, by omega, by decide, by decide⟩ (by decide) (Nat.le_of_ble_eq_true rfl) rfl d_BR_copyFrom_14 ?_
  refine g_aload_n XX d_BR_copyFrom_17 rfl 0 rfl ?_
  refine g_aload_n XX d_BR_copyFrom_18 rfl 1 rfl ?_
  refine g_get (C := R_BR) (T := T_BR) (N := 2) XX (tmw win0_BR) 2 rfl rfl 1 (by decide) (tm kw_160) rfl rfl d_BR_copyFrom_19 ?_
  refine g_put (C := R_BR) (T := T_BR) (N := 2) (ty := (.int)) (ws' := [cO h 0 [.ref q, .int (iI m)], cR q cA 96 (icpy g f 0 0 m), cO k 0 [.ref a, .int (iI m)], cR a cA 96 g]) XX (tmw win0_BR) ty_BR ok_BR nm_BR 0 rfl rfl 1 (by decide) (tm kw_160) rfl rfl (by decide +kernel) rfl rfl (Nat.le_of_ble_eq_true rfl) rfl d_BR_copyFrom_22 ?_
  exact ret _ _ _ [cO h 0 [.ref q, .int (iI m)], cR q cA 96 (icpy g f 0 0 m), cO k 0 [.ref a, .int (iI m)], cR a cA 96 g] [0, 1, 2, 3] d_BR_copyFrom_25 (by decide) rfl rfl
abbrev rm_BR_alike : Room := { frames := 1, cells := 0, slots := 0, locals := 21 }
set_option maxHeartbeats 4000000 in
set_option maxRecDepth 100000 in
theorem c_BR_alike (l : Launch) (D : va_G) (cA : ClassId) (h q k a : Nat) (f g F G : Int → Int) (n m i j : Int) (hn : 0 ≤ n ∧ n ≤ 96 ∧ 0 ≤ m ∧ m ≤ 96) (hi : 0 ≤ i ∧ i ≤ n) (hj : 0 ≤ j ∧ j ≤ m) (hf : ag f F n) (hg : ag g G m) (hbf : bt8 F n) (hbg : bt8 G m) : xM l y_BR_alike w_BR_alike rm_BR_alike D vwCl [(cA, .int)] [.ref h, .int (iI i), .ref k, .int (iI j)] [cO h 0 [.ref q, .int (iI n)], cR q cA 96 f, cO k 0 [.ref a, .int (iI m)], cR a cA 96 g] (fun r w => r = iI (al F n G m i j) ∧ w = [cO h 0 [.ref q, .int (iI n)], cR q cA 96 f, cO k 0 [.ref a, .int (iI m)], cR a cA 96 g]) 0 0 := by
  refine xM.ofI (by decide) rfl (Nat.le_of_ble_eq_true rfl) ?_
  intro P0 E0 S0 M0 A0 B0 T0 C0 AA QQ XX hnm ret
  refine g_aload_n XX d_BR_alike_0 rfl 0 rfl ?_
  refine g_get (C := R_BR) (T := T_BR) (N := 2) XX (tmw win0_BR) 0 rfl rfl 1 (by decide) (tm kw_160) rfl rfl d_BR_alike_1 ?_
  refine g_iload_n XX d_BR_alike_4 rfl 1 rfl ?_
  refine g_isub XX d_BR_alike_5 ?_
  refine g_aload_n XX d_BR_alike_6 rfl 2 rfl ?_
  refine g_get (C := R_BR) (T := T_BR) (N := 2) XX (tmw win0_BR) 2 rfl rfl 1 (by decide) (tm kw_160) rfl rfl d_BR_alike_7 ?_
  refine g_iload_n XX d_BR_alike_10 rfl 3 rfl ?_
  refine g_isub XX d_BR_alike_11 ?_
  refine g_mmin XX (tm kw_165) (tm kw_62) (tm kw_63) (tm kw_64) (by decide) (Nat.le_of_ble_eq_true rfl) (by decide) (by decide) ⟨by omega, by omega⟩ ⟨by omega, by omega⟩ d_BR_alike_12 ?_
  refine g_istore (lv' := [(4, .int (iI (min (n - i) (m - j)))), (0, .ref h), (1, .int (iI i)), (2, .ref k), (3, .int (iI j))]) XX d_BR_alike_15 (by decide) rfl ?_
  refine g_iconst XX d_BR_alike_17 ?_
  refine g_istore (lv' := [(5, .int (iI 0)), (4, .int (iI (min (n - i) (m - j)))), (0, .ref h), (1, .int (iI i)), (2, .ref k), (3, .int (iI j))]) XX d_BR_alike_18 (by decide) rfl ?_
  have L20 : ∀ (k_20 : Nat) (cc : Int), (0 ≤ cc ∧ cc ≤ min (n - i) (m - j)) → (∀ j0, 0 ≤ j0 → j0 < cc → F (i + j0) = G (j + j0)) → (min (n - i) (m - j) - cc).toNat = k_20 → xG P0 l E0 rm_BR_alike S0 M0 A0 B0 T0 C0 QQ 6 D vwCl AA 0 0 [cO h 0 [.ref q, .int (iI n)], cR q cA 96 f, cO k 0 [.ref a, .int (iI m)], cR a cA 96 g] 20 [(5, .int (iI cc)), (4, .int (iI (min (n - i) (m - j)))), (0, .ref h), (1, .int (iI i)), (2, .ref k), (3, .int (iI j))] [] := by
    refine x_ind (fun k_20 ih_20 cc hc he hk_20 => ?_)
    refine g_iload XX d_BR_alike_20 0 rfl ?_
    refine g_iload XX d_BR_alike_22 1 rfl ?_
    refine g_icmp_ge (tgt := 54) XX d_BR_alike_24 (by decide) ⟨by omega, by omega⟩ ⟨by omega, by omega⟩ (fun h24 => ?_) (fun h24 => ?_)
    · -- 24: yes
      refine g_iload XX d_BR_alike_54 0 rfl ?_
      exact ret _ _ _ _ [cO h 0 [.ref q, .int (iI n)], cR q cA 96 f, cO k 0 [.ref a, .int (iI m)], cR a cA 96 g] [0, 1, 2, 3] d_BR_alike_56 (by decide) rfl (⟨congrArg iI (al_eq (show isAl F n G m i j cc from ⟨by omega, by omega, by omega, he, by omega⟩)).symm, rfl⟩)
    · -- 24: no
      refine g_aload_n XX d_BR_alike_27 rfl 2 rfl ?_
      refine g_get (C := R_BR) (T := T_BR) (N := 2) XX (tmw win0_BR) 0 rfl rfl 0 (by decide) (tm kw_159) rfl rfl d_BR_alike_28 ?_
      refine g_iload_n XX d_BR_alike_31 rfl 3 rfl ?_
      refine g_iload XX d_BR_alike_32 0 rfl ?_
      refine g_iadd XX d_BR_alike_34 ?_
      refine g_iald XX 1 0 rfl rfl ⟨by omega, by omega, by decide⟩ d_BR_alike_35 ?_
      refine g_aload_n XX d_BR_alike_36 rfl 4 rfl ?_
      refine g_get (C := R_BR) (T := T_BR) (N := 2) XX (tmw win0_BR) 2 rfl rfl 0 (by decide) (tm kw_159) rfl rfl d_BR_alike_37 ?_
      refine g_iload_n XX d_BR_alike_40 rfl 5 rfl ?_
      refine g_iload XX d_BR_alike_41 0 rfl ?_
      refine g_iadd XX d_BR_alike_43 ?_
      refine g_iald XX 3 0 rfl rfl ⟨by omega, by omega, by decide⟩ d_BR_alike_44 ?_
      have e1 := hf (i + cc) (by omega) (by omega)
      have e2 := hg (j + cc) (by omega) (by omega)
      have b1 := hbf (i + cc) (by omega) (by omega)
      have b2 := hbg (j + cc) (by omega) (by omega)
      refine g_icmp_ne (tgt := 54) XX d_BR_alike_45 (by decide) ⟨by omega, by omega⟩ ⟨by omega, by omega⟩ (fun h45 => ?_) (fun h45 => ?_)
      · -- 45: yes
        refine g_iload XX d_BR_alike_54 0 rfl ?_
        exact ret _ _ _ _ [cO h 0 [.ref q, .int (iI n)], cR q cA 96 f, cO k 0 [.ref a, .int (iI m)], cR a cA 96 g] [0, 1, 2, 3] d_BR_alike_56 (by decide) rfl (⟨congrArg iI (al_eq (show isAl F n G m i j cc from ⟨by omega, by omega, by omega, he, by omega⟩)).symm, rfl⟩)
      · -- 45: no
        refine g_iinc (lv' := [(5, .int (iI (cc + 1))), (4, .int (iI (min (n - i) (m - j)))), (0, .ref h), (1, .int (iI i)), (2, .ref k), (3, .int (iI j))]) XX d_BR_alike_48 0 rfl (by decide) rfl ?_
        refine g_goto (tgt := 20) XX d_BR_alike_51 (by decide) ?_
        exact ih_20 _ (by omega) (cc + 1) (by omega) (all_s he (by show F (i + cc) = G (j + cc); omega)) rfl
  exact L20 _ 0 (by omega) (fun j0 a b => by omega) rfl
abbrev rm_BR_alikeS : Room := { frames := 1, cells := 0, slots := 0, locals := 21 }
set_option maxHeartbeats 4000000 in
set_option maxRecDepth 100000 in
theorem c_BR_alikeS (l : Launch) (D : va_G) (cA : ClassId) (h q : Nat) (f F : Int → Int) (n i j : Int) (hn : 0 ≤ n ∧ n ≤ 96) (hi : 0 ≤ i ∧ i ≤ n) (hj : 0 ≤ j ∧ j ≤ n) (hf : ag f F n) (hbf : bt8 F n) : xM l y_BR_alike w_BR_alike rm_BR_alikeS D vwCl [(cA, .int)] [.ref h, .int (iI i), .ref h, .int (iI j)] [cO h 0 [.ref q, .int (iI n)], cR q cA 96 f] (fun r w => r = iI (al F n F n i j) ∧ w = [cO h 0 [.ref q, .int (iI n)], cR q cA 96 f]) 0 0 := by
  refine xM.ofI (by decide) rfl (Nat.le_of_ble_eq_true rfl) ?_
  intro P0 E0 S0 M0 A0 B0 T0 C0 AA QQ XX hnm ret
  refine g_aload_n XX d_BR_alike_0 rfl 0 rfl ?_
  refine g_get (C := R_BR) (T := T_BR) (N := 2) XX (tmw win0_BR) 0 rfl rfl 1 (by decide) (tm kw_160) rfl rfl d_BR_alike_1 ?_
  refine g_iload_n XX d_BR_alike_4 rfl 1 rfl ?_
  refine g_isub XX d_BR_alike_5 ?_
  refine g_aload_n XX d_BR_alike_6 rfl 2 rfl ?_
  refine g_get (C := R_BR) (T := T_BR) (N := 2) XX (tmw win0_BR) 0 rfl rfl 1 (by decide) (tm kw_160) rfl rfl d_BR_alike_7 ?_
  refine g_iload_n XX d_BR_alike_10 rfl 3 rfl ?_
  refine g_isub XX d_BR_alike_11 ?_
  refine g_mmin XX (tm kw_165) (tm kw_62) (tm kw_63) (tm kw_64) (by decide) (Nat.le_of_ble_eq_true rfl) (by decide) (by decide) ⟨by omega, by omega⟩ ⟨by omega, by omega⟩ d_BR_alike_12 ?_
  refine g_istore (lv' := [(4, .int (iI (min (n - i) (n - j)))), (0, .ref h), (1, .int (iI i)), (2, .ref h), (3, .int (iI j))]) XX d_BR_alike_15 (by decide) rfl ?_
  refine g_iconst XX d_BR_alike_17 ?_
  refine g_istore (lv' := [(5, .int (iI 0)), (4, .int (iI (min (n - i) (n - j)))), (0, .ref h), (1, .int (iI i)), (2, .ref h), (3, .int (iI j))]) XX d_BR_alike_18 (by decide) rfl ?_
  have L20 : ∀ (k_20 : Nat) (cc : Int), (0 ≤ cc ∧ cc ≤ min (n - i) (n - j)) → (∀ j0, 0 ≤ j0 → j0 < cc → F (i + j0) = F (j + j0)) → (min (n - i) (n - j) - cc).toNat = k_20 → xG P0 l E0 rm_BR_alikeS S0 M0 A0 B0 T0 C0 QQ 6 D vwCl AA 0 0 [cO h 0 [.ref q, .int (iI n)], cR q cA 96 f] 20 [(5, .int (iI cc)), (4, .int (iI (min (n - i) (n - j)))), (0, .ref h), (1, .int (iI i)), (2, .ref h), (3, .int (iI j))] [] := by
    refine x_ind (fun k_20 ih_20 cc hc he hk_20 => ?_)
    refine g_iload XX d_BR_alike_20 0 rfl ?_
    refine g_iload XX d_BR_alike_22 1 rfl ?_
    refine g_icmp_ge (tgt := 54) XX d_BR_alike_24 (by decide) ⟨by omega, by omega⟩ ⟨by omega, by omega⟩ (fun h24 => ?_) (fun h24 => ?_)
    · -- 24: yes
      refine g_iload XX d_BR_alike_54 0 rfl ?_
      exact ret _ _ _ _ [cO h 0 [.ref q, .int (iI n)], cR q cA 96 f] [0, 1] d_BR_alike_56 (by decide) rfl (⟨congrArg iI (al_eq (show isAl F n F n i j cc from ⟨by omega, by omega, by omega, he, by omega⟩)).symm, rfl⟩)
    · -- 24: no
      refine g_aload_n XX d_BR_alike_27 rfl 2 rfl ?_
      refine g_get (C := R_BR) (T := T_BR) (N := 2) XX (tmw win0_BR) 0 rfl rfl 0 (by decide) (tm kw_159) rfl rfl d_BR_alike_28 ?_
      refine g_iload_n XX d_BR_alike_31 rfl 3 rfl ?_
      refine g_iload XX d_BR_alike_32 0 rfl ?_
      refine g_iadd XX d_BR_alike_34 ?_
      refine g_iald XX 1 0 rfl rfl ⟨by omega, by omega, by decide⟩ d_BR_alike_35 ?_
      refine g_aload_n XX d_BR_alike_36 rfl 4 rfl ?_
      refine g_get (C := R_BR) (T := T_BR) (N := 2) XX (tmw win0_BR) 0 rfl rfl 0 (by decide) (tm kw_159) rfl rfl d_BR_alike_37 ?_
      refine g_iload_n XX d_BR_alike_40 rfl 5 rfl ?_
      refine g_iload XX d_BR_alike_41 0 rfl ?_
      refine g_iadd XX d_BR_alike_43 ?_
      refine g_iald XX 1 0 rfl rfl ⟨by omega, by omega, by decide⟩ d_BR_alike_44 ?_
      have e1 := hf (i + cc) (by omega) (by omega)
      have e2 := hf (j + cc) (by omega) (by omega)
      have b1 := hbf (i + cc) (by omega) (by omega)
      have b2 := hbf (j + cc) (by omega) (by omega)
      refine g_icmp_ne (tgt := 54) XX d_BR_alike_45 (by decide) ⟨by omega, by omega⟩ ⟨by omega, by omega⟩ (fun h45 => ?_) (fun h45 => ?_)
      · -- 45: yes
        refine g_iload XX d_BR_alike_54 0 rfl ?_
        exact ret _ _ _ _ [cO h 0 [.ref q, .int (iI n)], cR q cA 96 f] [0, 1] d_BR_alike_56 (by decide) rfl (⟨congrArg iI (al_eq (show isAl F n F n i j cc from ⟨by omega, by omega, by omega, he, by omega⟩)).symm, rfl⟩)
      · -- 45: no
        refine g_iinc (lv' := [(5, .int (iI (cc + 1))), (4, .int (iI (min (n - i) (n - j)))), (0, .ref h), (1, .int (iI i)), (2, .ref h), (3, .int (iI j))]) XX d_BR_alike_48 0 rfl (by decide) rfl ?_
        refine g_goto (tgt := 20) XX d_BR_alike_51 (by decide) ?_
        exact ih_20 _ (by omega) (cc + 1) (by omega) (all_s he (by show F (i + cc) = F (j + cc); omega)) rfl
  exact L20 _ 0 (by omega) (fun j0 a b => by omega) rfl
end
section
abbrev rm_SO_before : Room := { frames := 0, cells := 0, slots := 0, locals := 0 }
set_option maxHeartbeats 4000000 in
set_option maxRecDepth 100000 in
theorem c_SO_before (l : Launch) (D : va_G) (cA : ClassId) (h a1 a2 a3 a4 k a : Nat) (ro f X : Int → Int) (n : Int) (sh su : Int) (hn : 0 ≤ su ∧ su < sh ∧ sh ≤ n ∧ n ≤ 96) (hf : ag f X n) (hb : bt8 X n) (hr : ∀ p, su + 1 ≤ p → p ≤ n → ro p = rks X n (su + 1) p) : xM l y_SO_shorterIsBefore w_SO_shorterIsBefore rm_SO_before D vwCl [(cA, .int)] [.ref h, .ref k, .int (iI sh), .int (iI su)] [cO h 3 [.ref a1, .ref a2, .ref a3, .ref a4], cR a2 cA 97 ro, cO k 0 [.ref a, .int (iI n)], cR a cA 96 f] (fun r w => r = iI (if lb X n sh su then 1 else 0) ∧ w = [cO h 3 [.ref a1, .ref a2, .ref a3, .ref a4], cR a2 cA 97 ro, cO k 0 [.ref a, .int (iI n)], cR a cA 96 f]) 0 0 := by
  refine xM.ofZ (by decide) rfl (Nat.le_of_ble_eq_true rfl) ?_
  intro P0 E0 S0 M0 A0 B0 T0 C0 AA QQ XX hnm ret
  refine g_iload_n XX d_SO_shorterIsBefore_0 rfl 2 rfl ?_
  refine g_aload_n XX d_SO_shorterIsBefore_1 rfl 1 rfl ?_
  refine g_get (C := R_BR) (T := T_BR) (N := 2) XX (tmw win0_BR) 2 rfl rfl 1 (by decide) (tm kw_192) rfl rfl d_SO_shorterIsBefore_2 ?_
  refine g_icmp_ne (tgt := 10) XX d_SO_shorterIsBefore_5 (by decide) ⟨by omega, by omega⟩ ⟨by omega, by omega⟩ (fun h5 => ?_) (fun h5 => ?_)
  · -- 5: yes
    refine g_aload_n XX d_SO_shorterIsBefore_10 rfl 1 rfl ?_
    refine g_get (C := R_BR) (T := T_BR) (N := 2) XX (tmw win0_BR) 2 rfl rfl 0 (by decide) (tm kw_197) rfl rfl d_SO_shorterIsBefore_11 ?_
    refine g_iload_n XX d_SO_shorterIsBefore_14 rfl 2 rfl ?_
    refine g_iald XX 3 0 rfl rfl ⟨by omega, by omega, by decide⟩ d_SO_shorterIsBefore_15 ?_
    refine g_aload_n XX d_SO_shorterIsBefore_16 rfl 1 rfl ?_
    refine g_get (C := R_BR) (T := T_BR) (N := 2) XX (tmw win0_BR) 2 rfl rfl 0 (by decide) (tm kw_197) rfl rfl d_SO_shorterIsBefore_17 ?_
    refine g_iload_n XX d_SO_shorterIsBefore_20 rfl 3 rfl ?_
    refine g_iald XX 3 0 rfl rfl ⟨by omega, by omega, by decide⟩ d_SO_shorterIsBefore_21 ?_
    have e1 := hf sh (by omega) (by omega)
    have e2 := hf su (by omega) (by omega)
    have b1 := hb sh (by omega) (by omega)
    have b2 := hb su (by omega) (by omega)
    refine g_isub XX d_SO_shorterIsBefore_22 ?_
    refine g_istore (lv' := [(4, .int (iI ((f sh) - (f su)))), (0, .ref h), (1, .ref k), (2, .int (iI sh)), (3, .int (iI su))]) XX d_SO_shorterIsBefore_23 (by decide) rfl ?_
    refine g_iload XX d_SO_shorterIsBefore_25 0 rfl ?_
    refine g_if_eq (tgt := 43) XX d_SO_shorterIsBefore_27 (by decide) ⟨by omega, by omega⟩ (fun h27 => ?_) (fun h27 => ?_)
    · -- 27: yes
      refine g_aload_n XX d_SO_shorterIsBefore_43 rfl 1 rfl ?_
      refine g_get (C := R_SO) (T := T_SO) (N := 4) XX (tmw win0_SO) 0 rfl rfl 1 (by decide) (tm kw_189) rfl rfl d_SO_shorterIsBefore_44 ?_
      refine g_iload_n XX d_SO_shorterIsBefore_47 rfl 3 rfl ?_
      refine g_iconst XX d_SO_shorterIsBefore_48 ?_
      refine g_iadd XX d_SO_shorterIsBefore_49 ?_
      refine g_iald XX 1 0 rfl rfl ⟨by omega, by omega, by decide⟩ d_SO_shorterIsBefore_50 ?_
      refine g_aload_n XX d_SO_shorterIsBefore_51 rfl 1 rfl ?_
      refine g_get (C := R_SO) (T := T_SO) (N := 4) XX (tmw win0_SO) 0 rfl rfl 1 (by decide) (tm kw_189) rfl rfl d_SO_shorterIsBefore_52 ?_
      refine g_iload_n XX d_SO_shorterIsBefore_55 rfl 4 rfl ?_
      refine g_iconst XX d_SO_shorterIsBefore_56 ?_
      refine g_iadd XX d_SO_shorterIsBefore_57 ?_
      refine g_iald XX 1 0 rfl rfl ⟨by omega, by omega, by decide⟩ d_SO_shorterIsBefore_58 ?_
      have r1 := hr (sh + 1) (by omega) (by omega)
      have r2 := hr (su + 1) (by omega) (by omega)
      have q1 := rks_rng (X := X) (n := n) (s := su + 1) (p := sh + 1) (by omega) (by omega) (by omega) (by omega)
      have q2 := rks_rng (X := X) (n := n) (s := su + 1) (p := su + 1) (by omega) (by omega) (by omega) (by omega)
      refine g_icmp_ge (tgt := 66) XX d_SO_shorterIsBefore_59 (by decide) ⟨by omega, by omega⟩ ⟨by omega, by omega⟩ (fun h59 => ?_) (fun h59 => ?_)
      · -- 59: yes
        have hz : lb X n sh su = false := shb_f (s := su + 1) (by omega) (by omega) (by omega) (by omega) (by omega) (by omega) (by omega)
        refine g_iconst XX d_SO_shorterIsBefore_66 ?_
        exact ret _ _ _ _ [cO h 3 [.ref a1, .ref a2, .ref a3, .ref a4], cR a2 cA 97 ro, cO k 0 [.ref a, .int (iI n)], cR a cA 96 f] [0, 1, 2, 3] (by first | exact Or.inl rfl | exact Or.inr rfl) d_SO_shorterIsBefore_67 (by decide) rfl (⟨by rw [hz]; rfl, rfl⟩)
      · -- 59: no
        have hz : lb X n sh su = true := shb_t (s := su + 1) (by omega) (by omega) (by omega) (by omega) (by omega) (by omega) (by omega)
        refine g_iconst XX d_SO_shorterIsBefore_62 ?_
        refine g_goto (tgt := 67) XX d_SO_shorterIsBefore_63 (by decide) ?_
        exact ret _ _ _ _ [cO h 3 [.ref a1, .ref a2, .ref a3, .ref a4], cR a2 cA 97 ro, cO k 0 [.ref a, .int (iI n)], cR a cA 96 f] [0, 1, 2, 3] (by first | exact Or.inl rfl | exact Or.inr rfl) d_SO_shorterIsBefore_67 (by decide) rfl (⟨by rw [hz]; rfl, rfl⟩)
    · -- 27: no
      refine g_iload XX d_SO_shorterIsBefore_30 0 rfl ?_
      refine g_if_ge (tgt := 39) XX d_SO_shorterIsBefore_32 (by decide) ⟨by omega, by omega⟩ (fun h32 => ?_) (fun h32 => ?_)
      · -- 32: yes
        have hz : lb X n sh su = false := shb_gt (by omega) (by omega) (by omega)
        refine g_iconst XX d_SO_shorterIsBefore_39 ?_
        refine g_goto (tgt := 67) XX d_SO_shorterIsBefore_40 (by decide) ?_
        exact ret _ _ _ _ [cO h 3 [.ref a1, .ref a2, .ref a3, .ref a4], cR a2 cA 97 ro, cO k 0 [.ref a, .int (iI n)], cR a cA 96 f] [0, 1, 2, 3] (by first | exact Or.inl rfl | exact Or.inr rfl) d_SO_shorterIsBefore_67 (by decide) rfl (⟨by rw [hz]; rfl, rfl⟩)
      · -- 32: no
        have hz : lb X n sh su = true := shb_lt (by omega) (by omega) (by omega)
        refine g_iconst XX d_SO_shorterIsBefore_35 ?_
        refine g_goto (tgt := 67) XX d_SO_shorterIsBefore_36 (by decide) ?_
        exact ret _ _ _ _ [cO h 3 [.ref a1, .ref a2, .ref a3, .ref a4], cR a2 cA 97 ro, cO k 0 [.ref a, .int (iI n)], cR a cA 96 f] [0, 1, 2, 3] (by first | exact Or.inl rfl | exact Or.inr rfl) d_SO_shorterIsBefore_67 (by decide) rfl (⟨by rw [hz]; rfl, rfl⟩)
  · -- 5: no
    have hz : lb X n sh su = true := by rw [h5]; exact shb_end (by omega)
    refine g_iconst XX d_SO_shorterIsBefore_8 ?_
    exact ret _ _ _ _ [cO h 3 [.ref a1, .ref a2, .ref a3, .ref a4], cR a2 cA 97 ro, cO k 0 [.ref a, .int (iI n)], cR a cA 96 f] [0, 1, 2, 3] (by first | exact Or.inl rfl | exact Or.inr rfl) d_SO_shorterIsBefore_9 (by decide) rfl (⟨by rw [hz]; rfl, rfl⟩)
abbrev rm_SO_rank : Room := { frames := 1, cells := 0, slots := 0, locals := 24 }
set_option maxHeartbeats 4000000 in
set_option maxRecDepth 100000 in
theorem c_SO_rank (l : Launch) (D : va_G) (cA : ClassId) (h a1 a2 a3 a4 k a : Nat) (ro f X : Int → Int) (n : Int) (su : Int) (hn : 0 ≤ su ∧ su ≤ n ∧ n ≤ 96) (hf : ag f X n) (hb : bt8 X n) (hr : ∀ p, su + 1 ≤ p → p ≤ n → ro p = rks X n (su + 1) p) : xV l y_SO_rankAmongShorter w_SO_rankAmongShorter rm_SO_rank D vwCl [(cA, .int)] [.ref h, .ref k, .int (iI su)] [cO h 3 [.ref a1, .ref a2, .ref a3, .ref a4], cR a2 cA 97 ro, cO k 0 [.ref a, .int (iI n)], cR a cA 96 f] (fun w => ∃ (ro' : Int → Int), w = [cO h 3 [.ref a1, .ref a2, .ref a3, .ref a4], cR a2 cA 97 ro', cO k 0 [.ref a, .int (iI n)], cR a cA 96 f] ∧ (∀ p, su ≤ p → p ≤ n → ro' p = rks X n su p)) 0 0 := by
  refine xV.of (by decide) rfl (Nat.le_of_ble_eq_true rfl) ?_
  intro P0 E0 S0 M0 A0 B0 T0 C0 AA QQ XX hnm ret
  refine g_iconst XX d_SO_rankAmongShorter_0 ?_
  refine g_istore_n (lv' := [(3, .int (iI 0)), (0, .ref h), (1, .ref k), (2, .int (iI su))]) XX d_SO_rankAmongShorter_1 rfl (by decide) rfl ?_
  refine g_iload_n XX d_SO_rankAmongShorter_2 rfl 3 rfl ?_
  refine g_iconst XX d_SO_rankAmongShorter_3 ?_
  refine g_iadd XX d_SO_rankAmongShorter_4 ?_
  refine g_istore (lv' := [(4, .int (iI (su + 1))), (3, .int (iI 0)), (0, .ref h), (1, .ref k), (2, .int (iI su))]) XX d_SO_rankAmongShorter_5 (by decide) rfl ?_
  have L7 : ∀ (k_7 : Nat) (rank0 : Int) (sh : Int), (su + 1 ≤ sh ∧ sh ≤ n + 1) → (rank0 = rkc X n su sh) → (n + 1 - sh).toNat = k_7 → xG P0 l E0 rm_SO_rank S0 M0 A0 B0 T0 C0 QQ 5 D vwCl AA 0 0 [cO h 3 [.ref a1, .ref a2, .ref a3, .ref a4], cR a2 cA 97 ro, cO k 0 [.ref a, .int (iI n)], cR a cA 96 f] 7 [(4, .int (iI sh)), (3, .int (iI rank0)), (0, .ref h), (1, .ref k), (2, .int (iI su))] [] := by
    refine x_ind (fun k_7 ih_7 rank0 sh hs hrk hk_7 => ?_)
    refine g_iload XX d_SO_rankAmongShorter_7 0 rfl ?_
    refine g_aload_n XX d_SO_rankAmongShorter_9 rfl 3 rfl ?_
    refine g_get (C := R_BR) (T := T_BR) (N := 2) XX (tmw win0_BR) 2 rfl rfl 1 (by decide) (tm kw_192) rfl rfl d_SO_rankAmongShorter_10 ?_
    refine g_icmp_gt (tgt := 36) XX d_SO_rankAmongShorter_13 (by decide) ⟨by omega, by omega⟩ ⟨by omega, by omega⟩ (fun h13 => ?_) (fun h13 => ?_)
    · -- 13: yes
      have hrk2 : rank0 = rks X n (su + 1) su := by rw [hrk, show sh = n + 1 by omega]; exact rkc_end
      refine g_iload_n XX d_SO_rankAmongShorter_36 rfl 4 rfl ?_
      refine g_iconst XX d_SO_rankAmongShorter_37 ?_
      refine g_iadd XX d_SO_rankAmongShorter_38 ?_
      refine g_istore (lv' := [(4, .int (iI (su + 1))), (3, .int (iI rank0)), (0, .ref h), (1, .ref k), (2, .int (iI su))]) XX d_SO_rankAmongShorter_39 (by decide) rfl ?_
      have L41 : ∀ (k_41 : Nat) (sh2 : Int) (ro2 : Int → Int), (su + 1 ≤ sh2 ∧ sh2 ≤ n + 1) → (∀ p, su + 1 ≤ p → p < sh2 → ro2 p = rks X n su p) → (∀ p, sh2 ≤ p → p ≤ n → ro2 p = rks X n (su + 1) p) → (n + 1 - sh2).toNat = k_41 → xG P0 l E0 rm_SO_rank S0 M0 A0 B0 T0 C0 QQ 5 D vwCl AA 0 0 [cO h 3 [.ref a1, .ref a2, .ref a3, .ref a4], cR a2 cA 97 ro2, cO k 0 [.ref a, .int (iI n)], cR a cA 96 f] 41 [(4, .int (iI sh2)), (3, .int (iI rank0)), (0, .ref h), (1, .ref k), (2, .int (iI su))] [] := by
        refine x_ind (fun k_41 ih_41 sh2 ro2 hs2 hd1 hd2 hk_41 => ?_)
        refine g_iload XX d_SO_rankAmongShorter_41 0 rfl ?_
        refine g_aload_n XX d_SO_rankAmongShorter_43 rfl 3 rfl ?_
        refine g_get (C := R_BR) (T := T_BR) (N := 2) XX (tmw win0_BR) 2 rfl rfl 1 (by decide) (tm kw_192) rfl rfl d_SO_rankAmongShorter_44 ?_
        refine g_icmp_gt (tgt := 78) XX d_SO_rankAmongShorter_47 (by decide) ⟨by omega, by omega⟩ ⟨by omega, by omega⟩ (fun h47 => ?_) (fun h47 => ?_)
        · -- 47: yes
          refine g_aload_n XX d_SO_rankAmongShorter_78 rfl 2 rfl ?_
          refine g_get (C := R_SO) (T := T_SO) (N := 4) XX (tmw win0_SO) 0 rfl rfl 1 (by decide) (tm kw_189) rfl rfl d_SO_rankAmongShorter_79 ?_
          refine g_iload_n XX d_SO_rankAmongShorter_82 rfl 4 rfl ?_
          refine g_iload_n XX d_SO_rankAmongShorter_83 rfl 1 rfl ?_
          refine g_iast (ws' := [cO h 3 [.ref a1, .ref a2, .ref a3, .ref a4], cR a2 cA 97 (iup ro2 su rank0), cO k 0 [.ref a, .int (iI n)], cR a cA 96 f]) XX 1 0 rfl rfl ⟨by omega, by omega, by decide⟩ rfl d_SO_rankAmongShorter_84 ?_
          exact ret _ _ _ [cO h 3 [.ref a1, .ref a2, .ref a3, .ref a4], cR a2 cA 97 (iup ro2 su rank0), cO k 0 [.ref a, .int (iI n)], cR a cA 96 f] [0, 1, 2, 3] d_SO_rankAmongShorter_85 (by decide) rfl (⟨iup ro2 su rank0, rfl, fun p a b => by
      by_cases z : p = su
      · rw [iup_eq z, z, ras_self (by omega) (by omega)]; exact hrk2
      · rw [iup_ne z]; exact hd1 p (by omega) (by omega)⟩)
        · -- 47: no
          refine g_aload_n XX d_SO_rankAmongShorter_50 rfl 2 rfl ?_
          refine g_get (C := R_SO) (T := T_SO) (N := 4) XX (tmw win0_SO) 0 rfl rfl 1 (by decide) (tm kw_189) rfl rfl d_SO_rankAmongShorter_51 ?_
          refine g_iload XX d_SO_rankAmongShorter_54 0 rfl ?_
          refine g_iald XX 1 0 rfl rfl ⟨by omega, by omega, by decide⟩ d_SO_rankAmongShorter_56 ?_
          refine g_iload_n XX d_SO_rankAmongShorter_57 rfl 1 rfl ?_
          have e1 := hd2 sh2 (by omega) (by omega)
          have q1 := rks_rng (X := X) (n := n) (s := su + 1) (p := sh2) (by omega) (by omega) (by omega) (by omega)
          have q2 : 0 ≤ rks X n (su + 1) su ∧ rks X n (su + 1) su ≤ n + 1 := rkc_rng (X := X) (n := n) (s := su) (i := n + 1) (by omega)
          have rs := ras_s (X := X) (n := n) (s := su) (p := sh2) (by omega) (by omega) (by omega)
          refine g_icmp_lt (tgt := 72) XX d_SO_rankAmongShorter_58 (by decide) ⟨by omega, by omega⟩ ⟨by omega, by omega⟩ (fun h58 => ?_) (fun h58 => ?_)
          · -- 58: yes
            refine g_iinc (lv' := [(4, .int (iI (sh2 + 1))), (3, .int (iI rank0)), (0, .ref h), (1, .ref k), (2, .int (iI su))]) XX d_SO_rankAmongShorter_72 0 rfl (by decide) rfl ?_
            refine g_goto (tgt := 41) XX d_SO_rankAmongShorter_75 (by decide) ?_
            exact ih_41 _ (by omega) (sh2 + 1) ro2 (by omega) (by first | exact ras_keep hd1 (by rw [rs, if_neg (by omega)]; omega) | exact ras_put hd1 (by rw [rs, if_pos (by omega)]; omega)) (by first | exact ras_rest hd2 | exact fun p a b => hd2 p (by omega) b) rfl
          · -- 58: no
            refine g_aload_n XX d_SO_rankAmongShorter_61 rfl 2 rfl ?_
            refine g_get (C := R_SO) (T := T_SO) (N := 4) XX (tmw win0_SO) 0 rfl rfl 1 (by decide) (tm kw_189) rfl rfl d_SO_rankAmongShorter_62 ?_
            refine g_iload XX d_SO_rankAmongShorter_65 0 rfl ?_
            refine g_dup2 XX d_SO_rankAmongShorter_67 rfl rfl ?_
            refine g_iald XX 1 0 rfl rfl ⟨by omega, by omega, by decide⟩ d_SO_rankAmongShorter_68 ?_
            refine g_iconst XX d_SO_rankAmongShorter_69 ?_
            refine g_iadd XX d_SO_rankAmongShorter_70 ?_
            refine g_iast (ws' := [cO h 3 [.ref a1, .ref a2, .ref a3, .ref a4], cR a2 cA 97 (iup ro2 sh2 ((ro2 sh2) + 1)), cO k 0 [.ref a, .int (iI n)], cR a cA 96 f]) XX 1 0 rfl rfl ⟨by omega, by omega, by decide⟩ rfl d_SO_rankAmongShorter_71 ?_
            refine g_iinc (lv' := [(4, .int (iI (sh2 + 1))), (3, .int (iI rank0)), (0, .ref h), (1, .ref k), (2, .int (iI su))]) XX d_SO_rankAmongShorter_72 0 rfl (by decide) rfl ?_
            refine g_goto (tgt := 41) XX d_SO_rankAmongShorter_75 (by decide) ?_
            exact ih_41 _ (by omega) (sh2 + 1) (iup ro2 sh2 ((ro2 sh2) + 1)) (by omega) (by first | exact ras_keep hd1 (by rw [rs, if_neg (by omega)]; omega) | exact ras_put hd1 (by rw [rs, if_pos (by omega)]; omega)) (by first | exact ras_rest hd2 | exact fun p a b => hd2 p (by omega) b) rfl
      exact L41 _ (su + 1) ro (by omega) (fun p a b => by omega) (hr) rfl
    · -- 13: no
      refine g_aload_n XX d_SO_rankAmongShorter_16 rfl 2 rfl ?_
      refine g_aload_n XX d_SO_rankAmongShorter_17 rfl 3 rfl ?_
      refine g_iload XX d_SO_rankAmongShorter_18 0 rfl ?_
      refine g_iload_n XX d_SO_rankAmongShorter_20 rfl 4 rfl ?_
      refine g_calli (As := [.ref k, .int (iI sh), .int (iI su)]) (st := []) (wr := []) XX (c_SO_before l D cA h a1 a2 a3 a4 k a ro f X n sh su (by first | assumption | omega) (by first | assumption | omega) (by first | assumption | omega) (by first | assumption | omega)) (x_cw 3 XX.2.2.2.2.1 (gi kw_199) rfl rfl (tm kw_14) (tm kw_200) (tm kw_201) (tm kw_202) ⟨by decide +kernel, by decide +kernel, by decide +kernel⟩ ⟨by decide, by decide⟩) [0, 1, 2, 3] [] rfl rfl (by decide) (by decide) (by decide) 0 3 rfl rfl rfl rfl (Nat.le_of_ble_eq_true rfl) d_SO_rankAmongShorter_21 ⟨by decide, by decide⟩ (fun r_ w_ hq => ?_)
      obtain ⟨rfl, rfl⟩ := hq
      show xG P0 l E0 rm_SO_rank S0 M0 A0 B0 T0 C0 QQ 5 D vwCl AA 0 0 [cO h 3 [.ref a1, .ref a2, .ref a3, .ref a4], cR a2 cA 97 ro, cO k 0 [.ref a, .int (iI n)], cR a cA 96 f] 24 [(4, .int (iI sh)), (3, .int (iI rank0)), (0, .ref h), (1, .ref k), (2, .int (iI su))] [.int (iI (if lb X n sh su then 1 else 0))]
      refine g_if_eq (tgt := 30) XX d_SO_rankAmongShorter_24 (by decide) z01 (fun h24 => ?_) (fun h24 => ?_)
      · -- 24: yes
        refine g_iinc (lv' := [(4, .int (iI (sh + 1))), (3, .int (iI rank0)), (0, .ref h), (1, .ref k), (2, .int (iI su))]) XX d_SO_rankAmongShorter_30 0 rfl (by decide) rfl ?_
        refine g_goto (tgt := 7) XX d_SO_rankAmongShorter_33 (by decide) ?_
        exact ih_7 _ (by omega) rank0 (sh + 1) (by omega) (by rw [rkc_s (by omega) (by omega) (by omega), hrk]; first | (rw [z01_0 h24]; simp) | (rw [z01_1 h24]; simp)) rfl
      · -- 24: no
        refine g_iinc (lv' := [(3, .int (iI (rank0 + 1))), (4, .int (iI sh)), (0, .ref h), (1, .ref k), (2, .int (iI su))]) XX d_SO_rankAmongShorter_27 1 rfl (by decide) rfl ?_
        refine g_iinc (lv' := [(4, .int (iI (sh + 1))), (3, .int (iI (rank0 + 1))), (0, .ref h), (1, .ref k), (2, .int (iI su))]) XX d_SO_rankAmongShorter_30 1 rfl (by decide) rfl ?_
        refine g_goto (tgt := 7) XX d_SO_rankAmongShorter_33 (by decide) ?_
        exact ih_7 _ (by omega) (rank0 + 1) (sh + 1) (by omega) (by rw [rkc_s (by omega) (by omega) (by omega), hrk]; first | (rw [z01_0 h24]; simp) | (rw [z01_1 h24]; simp)) rfl
  exact L7 _ 0 (su + 1) (by omega) (rkc_0.symm) rfl
abbrev rm_SO_arrange : Room := { frames := 2, cells := 0, slots := 0, locals := 48 }
set_option maxHeartbeats 4000000 in
set_option maxRecDepth 100000 in
theorem c_SO_arrange (l : Launch) (D : va_G) (cA : ClassId) (h a1 a2 a3 a4 k a : Nat) (sa ro co cl f X : Int → Int) (n : Int) (hn : 0 ≤ n ∧ n ≤ 96) (hf : ag f X n) (hb : bt8 X n) : xV l y_SO_arrange w_SO_arrange rm_SO_arrange D vwCl [(cA, .int)] [.ref h, .ref k] [cO h 3 [.ref a1, .ref a2, .ref a3, .ref a4], cR a1 cA 97 sa, cR a2 cA 97 ro, cR a3 cA 96 co, cR a4 cA 97 cl, cO k 0 [.ref a, .int (iI n)], cR a cA 96 f] (fun w => ∃ (sa' : Int → Int), ∃ (ro' : Int → Int), ∃ (co' : Int → Int), ∃ (cl' : Int → Int), w = [cO h 3 [.ref a1, .ref a2, .ref a3, .ref a4], cR a1 cA 97 sa', cR a2 cA 97 ro', cR a3 cA 96 co', cR a4 cA 97 cl', cO k 0 [.ref a, .int (iI n)], cR a cA 96 f] ∧ (ag sa' (og X n) (n + 1)) ∧ (ag ro' (rk X n) (n + 1)) ∧ (ag co' (cm X n) n) ∧ (ag cl' (cX X n) (n + 1))) 0 0 := by
  refine xV.of (by decide) rfl (Nat.le_of_ble_eq_true rfl) ?_
  intro P0 E0 S0 M0 A0 B0 T0 C0 AA QQ XX hnm ret
  refine g_aload_n XX d_SO_arrange_0 rfl 1 rfl ?_
  refine g_get (C := R_BR) (T := T_BR) (N := 2) XX (tmw win0_BR) 5 rfl rfl 1 (by decide) (tm kw_192) rfl rfl d_SO_arrange_1 ?_
  refine g_istore_n (lv' := [(2, .int (iI n)), (0, .ref h), (1, .ref k)]) XX d_SO_arrange_4 rfl (by decide) rfl ?_
  have L5 : ∀ (k_5 : Nat) (s0 : Int) (ro2 : Int → Int), (-1 ≤ s0 ∧ s0 ≤ n) → (∀ p, s0 + 1 ≤ p → p ≤ n → ro2 p = rks X n (s0 + 1) p) → (s0 + 1).toNat = k_5 → xG P0 l E0 rm_SO_arrange S0 M0 A0 B0 T0 C0 QQ 4 D vwCl AA 0 0 [cO h 3 [.ref a1, .ref a2, .ref a3, .ref a4], cR a1 cA 97 sa, cR a2 cA 97 ro2, cR a3 cA 96 co, cR a4 cA 97 cl, cO k 0 [.ref a, .int (iI n)], cR a cA 96 f] 5 [(2, .int (iI s0)), (0, .ref h), (1, .ref k)] [] := by
    refine x_ind (fun k_5 ih_5 s0 ro2 h1 h2 hk_5 => ?_)
    refine g_iload_n XX d_SO_arrange_5 rfl 0 rfl ?_
    refine g_if_lt (tgt := 21) XX d_SO_arrange_6 (by decide) ⟨by omega, by omega⟩ (fun h6 => ?_) (fun h6 => ?_)
    · -- 6: yes
      have hro : ag ro2 (rk X n) (n + 1) := fun p a b => by rw [h2 p (by omega) (by omega), show s0 + 1 = 0 by omega, rks_0]
      refine g_iconst XX d_SO_arrange_21 ?_
      refine g_istore_n (lv' := [(2, .int (iI 0)), (0, .ref h), (1, .ref k)]) XX d_SO_arrange_22 rfl (by decide) rfl ?_
      have L23 : ∀ (k_23 : Nat) (i2 : Int) (sa2 : Int → Int) (cl2 : Int → Int), (0 ≤ i2 ∧ i2 ≤ n + 1) → (∀ p, 0 ≤ p → p < i2 → sa2 (rk X n p) = p ∧ cl2 (rk X n p) = (if p = 0 then -2 else X (p - 1))) → (n + 1 - i2).toNat = k_23 → xG P0 l E0 rm_SO_arrange S0 M0 A0 B0 T0 C0 QQ 4 D vwCl AA 0 0 [cO h 3 [.ref a1, .ref a2, .ref a3, .ref a4], cR a1 cA 97 sa2, cR a2 cA 97 ro2, cR a3 cA 96 co, cR a4 cA 97 cl2, cO k 0 [.ref a, .int (iI n)], cR a cA 96 f] 23 [(2, .int (iI i2)), (0, .ref h), (1, .ref k)] [] := by
        refine x_ind (fun k_23 ih_23 i2 sa2 cl2 h3 h4 hk_23 => ?_)
        refine g_iload_n XX d_SO_arrange_23 rfl 0 rfl ?_
        refine g_aload_n XX d_SO_arrange_24 rfl 2 rfl ?_
        refine g_get (C := R_BR) (T := T_BR) (N := 2) XX (tmw win0_BR) 5 rfl rfl 1 (by decide) (tm kw_192) rfl rfl d_SO_arrange_25 ?_
        refine g_icmp_gt (tgt := 74) XX d_SO_arrange_28 (by decide) ⟨by omega, by omega⟩ ⟨by omega, by omega⟩ (fun h28 => ?_) (fun h28 => ?_)
        · -- 28: yes
          have hse := ord_end (X := X) (n := n) (by omega) (fun p a b => h4 p a (by omega))
          refine g_iconst XX d_SO_arrange_74 ?_
          refine g_istore_n (lv' := [(2, .int (iI 0)), (0, .ref h), (1, .ref k)]) XX d_SO_arrange_75 rfl (by decide) rfl ?_
          have L76 : ∀ (k_76 : Nat) (i3 : Int) (co2 : Int → Int), (0 ≤ i3 ∧ i3 ≤ n) → (ag co2 (cm X n) i3) → (n - i3).toNat = k_76 → xG P0 l E0 rm_SO_arrange S0 M0 A0 B0 T0 C0 QQ 4 D vwCl AA 0 0 [cO h 3 [.ref a1, .ref a2, .ref a3, .ref a4], cR a1 cA 97 sa2, cR a2 cA 97 ro2, cR a3 cA 96 co2, cR a4 cA 97 cl2, cO k 0 [.ref a, .int (iI n)], cR a cA 96 f] 76 [(2, .int (iI i3)), (0, .ref h), (1, .ref k)] [] := by
            refine x_ind (fun k_76 ih_76 i3 co2 h5 h6_ hk_76 => ?_)
            refine g_iload_n XX d_SO_arrange_76 rfl 0 rfl ?_
            refine g_aload_n XX d_SO_arrange_77 rfl 2 rfl ?_
            refine g_get (C := R_BR) (T := T_BR) (N := 2) XX (tmw win0_BR) 5 rfl rfl 1 (by decide) (tm kw_192) rfl rfl d_SO_arrange_78 ?_
            refine g_icmp_ge (tgt := 115) XX d_SO_arrange_81 (by decide) ⟨by omega, by omega⟩ ⟨by omega, by omega⟩ (fun h81 => ?_) (fun h81 => ?_)
            · -- 81: yes
              exact ret _ _ _ [cO h 3 [.ref a1, .ref a2, .ref a3, .ref a4], cR a1 cA 97 sa2, cR a2 cA 97 ro2, cR a3 cA 96 co2, cR a4 cA 97 cl2, cO k 0 [.ref a, .int (iI n)], cR a cA 96 f] [0, 1, 2, 3, 4, 5, 6] d_SO_arrange_115 (by decide) rfl (⟨sa2, ro2, co2, cl2, rfl, hse.1, hro, ag_le h6_ (by omega), hse.2⟩)
            · -- 81: no
              refine g_aload_n XX d_SO_arrange_84 rfl 1 rfl ?_
              refine g_get (C := R_SO) (T := T_SO) (N := 4) XX (tmw win0_SO) 0 rfl rfl 2 (by decide) (tm kw_190) rfl rfl d_SO_arrange_85 ?_
              refine g_iload_n XX d_SO_arrange_88 rfl 0 rfl ?_
              refine g_aload_n XX d_SO_arrange_89 rfl 2 rfl ?_
              refine g_aload_n XX d_SO_arrange_90 rfl 1 rfl ?_
              refine g_get (C := R_SO) (T := T_SO) (N := 4) XX (tmw win0_SO) 0 rfl rfl 0 (by decide) (tm kw_188) rfl rfl d_SO_arrange_91 ?_
              refine g_iload_n XX d_SO_arrange_94 rfl 0 rfl ?_
              refine g_iald XX 1 0 rfl rfl ⟨by omega, by omega, by decide⟩ d_SO_arrange_95 ?_
              refine g_aload_n XX d_SO_arrange_96 rfl 2 rfl ?_
              refine g_aload_n XX d_SO_arrange_97 rfl 1 rfl ?_
              refine g_get (C := R_SO) (T := T_SO) (N := 4) XX (tmw win0_SO) 0 rfl rfl 0 (by decide) (tm kw_188) rfl rfl d_SO_arrange_98 ?_
              refine g_iload_n XX d_SO_arrange_101 rfl 0 rfl ?_
              refine g_iconst XX d_SO_arrange_102 ?_
              refine g_iadd XX d_SO_arrange_103 ?_
              refine g_iald XX 1 0 rfl rfl ⟨by omega, by omega, by decide⟩ d_SO_arrange_104 ?_
              have e3 := hse.1 i3 (by omega) (by omega)
              have e4 := hse.1 (i3 + 1) (by omega) (by omega)
              have g3 := og_rng (X := X) (n := n) (r := i3) (by omega) (by omega)
              have g4 := og_rng (X := X) (n := n) (r := i3 + 1) (by omega) (by omega)
              refine g_calli (As := [.int (iI (sa2 i3)), .ref k, .int (iI (sa2 (i3 + 1)))]) (st := [.int (iI i3), .ref a3]) (wr := [cO h 3 [.ref a1, .ref a2, .ref a3, .ref a4], cR a1 cA 97 sa2, cR a2 cA 97 ro2, cR a3 cA 96 co2, cR a4 cA 97 cl2]) XX (c_BR_alikeS l D cA k a f X n (sa2 i3) (sa2 (i3 + 1)) (by first | assumption | omega) (by first | assumption | omega) (by first | assumption | omega) (by first | assumption | omega) (by first | assumption | omega)) (x_cw 3 XX.2.2.2.2.1 (gi kw_81) rfl rfl (tm kw_5) (tm kw_198) (tm kw_83) (tm kw_84) ⟨by decide +kernel, by decide +kernel, by decide +kernel⟩ ⟨by decide, by decide⟩) [5, 6] [0, 1, 2, 3, 4] rfl rfl (by decide) (by decide) (by decide) 5 0 rfl rfl rfl rfl (Nat.le_of_ble_eq_true rfl) d_SO_arrange_105 ⟨by decide, by decide⟩ (fun r_ w_ hq => ?_)
              obtain ⟨rfl, rfl⟩ := hq
              show xG P0 l E0 rm_SO_arrange S0 M0 A0 B0 T0 C0 QQ 4 D vwCl AA 0 0 [cO h 3 [.ref a1, .ref a2, .ref a3, .ref a4], cR a1 cA 97 sa2, cR a2 cA 97 ro2, cR a3 cA 96 co2, cR a4 cA 97 cl2, cO k 0 [.ref a, .int (iI n)], cR a cA 96 f] 108 [(2, .int (iI i3)), (0, .ref h), (1, .ref k)] [.int (iI (al X n X n (sa2 i3) (sa2 (i3 + 1)))), .int (iI i3), .ref a3]
              refine g_iast (ws' := [cO h 3 [.ref a1, .ref a2, .ref a3, .ref a4], cR a1 cA 97 sa2, cR a2 cA 97 ro2, cR a3 cA 96 (iup co2 i3 (al X n X n (sa2 i3) (sa2 (i3 + 1)))), cR a4 cA 97 cl2, cO k 0 [.ref a, .int (iI n)], cR a cA 96 f]) XX 3 0 rfl rfl ⟨by omega, by omega, by decide⟩ rfl d_SO_arrange_108 ?_
              refine g_iinc (lv' := [(2, .int (iI (i3 + 1))), (0, .ref h), (1, .ref k)]) XX d_SO_arrange_109 0 rfl (by decide) rfl ?_
              refine g_goto (tgt := 76) XX d_SO_arrange_112 (by decide) ?_
              exact ih_76 _ (by omega) (i3 + 1) (iup co2 i3 (al X n X n (sa2 i3) (sa2 (i3 + 1)))) (by omega) (ag_s h6_ (by rw [e3, e4]; rfl)) rfl
          exact L76 _ 0 co (by omega) (ag_0 (by omega)) rfl
        · -- 28: no
          refine g_aload_n XX d_SO_arrange_31 rfl 1 rfl ?_
          refine g_get (C := R_SO) (T := T_SO) (N := 4) XX (tmw win0_SO) 0 rfl rfl 1 (by decide) (tm kw_189) rfl rfl d_SO_arrange_32 ?_
          refine g_iload_n XX d_SO_arrange_35 rfl 0 rfl ?_
          refine g_iald XX 2 0 rfl rfl ⟨by omega, by omega, by decide⟩ d_SO_arrange_36 ?_
          have e1 := hro i2 (by omega) (by omega)
          have q1 := rk_rng (X := X) (n := n) (p := i2) (by omega) (by omega)
          refine g_istore_n (lv' := [(3, .int (iI (ro2 i2))), (2, .int (iI i2)), (0, .ref h), (1, .ref k)]) XX d_SO_arrange_37 rfl (by decide) rfl ?_
          refine g_aload_n XX d_SO_arrange_38 rfl 2 rfl ?_
          refine g_get (C := R_SO) (T := T_SO) (N := 4) XX (tmw win0_SO) 0 rfl rfl 0 (by decide) (tm kw_188) rfl rfl d_SO_arrange_39 ?_
          refine g_iload_n XX d_SO_arrange_42 rfl 0 rfl ?_
          refine g_iload_n XX d_SO_arrange_43 rfl 1 rfl ?_
          refine g_iast (ws' := [cO h 3 [.ref a1, .ref a2, .ref a3, .ref a4], cR a1 cA 97 (iup sa2 (ro2 i2) i2), cR a2 cA 97 ro2, cR a3 cA 96 co, cR a4 cA 97 cl2, cO k 0 [.ref a, .int (iI n)], cR a cA 96 f]) XX 1 0 rfl rfl ⟨by omega, by omega, by decide⟩ rfl d_SO_arrange_44 ?_
          refine g_aload_n XX d_SO_arrange_45 rfl 2 rfl ?_
          refine g_get (C := R_SO) (T := T_SO) (N := 4) XX (tmw win0_SO) 0 rfl rfl 3 (by decide) (tm kw_191) rfl rfl d_SO_arrange_46 ?_
          refine g_iload_n XX d_SO_arrange_49 rfl 0 rfl ?_
          refine g_iload_n XX d_SO_arrange_50 rfl 1 rfl ?_
          refine g_if_ne (tgt := 59) XX d_SO_arrange_51 (by decide) ⟨by omega, by omega⟩ (fun h51 => ?_) (fun h51 => ?_)
          · -- 51: yes
            refine g_aload_n XX d_SO_arrange_59 rfl 3 rfl ?_
            refine g_get (C := R_BR) (T := T_BR) (N := 2) XX (tmw win0_BR) 5 rfl rfl 0 (by decide) (tm kw_197) rfl rfl d_SO_arrange_60 ?_
            refine g_iload_n XX d_SO_arrange_63 rfl 1 rfl ?_
            refine g_iconst XX d_SO_arrange_64 ?_
            refine g_isub XX d_SO_arrange_65 ?_
            refine g_iald XX 6 0 rfl rfl ⟨by omega, by omega, by decide⟩ d_SO_arrange_66 ?_
            refine g_iast (ws' := [cO h 3 [.ref a1, .ref a2, .ref a3, .ref a4], cR a1 cA 97 (iup sa2 (ro2 i2) i2), cR a2 cA 97 ro2, cR a3 cA 96 co, cR a4 cA 97 (iup cl2 (ro2 i2) (f (i2 - 1))), cO k 0 [.ref a, .int (iI n)], cR a cA 96 f]) XX 4 0 rfl rfl ⟨by omega, by omega, by decide⟩ rfl d_SO_arrange_67 ?_
            refine g_iinc (lv' := [(2, .int (iI (i2 + 1))), (3, .int (iI (ro2 i2))), (0, .ref h), (1, .ref k)]) XX d_SO_arrange_68 1 rfl (by decide) rfl ?_
            refine g_goto (tgt := 23) XX d_SO_arrange_71 (by decide) ?_
            refine g_lv (lv' := [(2, .int (iI (i2 + 1))), (0, .ref h), (1, .ref k)]) [0, 2, 3] rfl ?_
            exact ih_23 _ (by omega) (i2 + 1) (iup sa2 (ro2 i2) i2) (iup cl2 (ro2 i2) (f (i2 - 1))) (by omega) (by first | exact ord_put (by omega) e1 (by rw [if_pos h51]) h4 | exact ord_put (by omega) e1 (by rw [if_neg h51]; exact hf _ (by omega) (by omega)) h4) rfl
          · -- 51: no
            refine g_bipush (v := -2) XX d_SO_arrange_54 (by decide) ?_
            refine g_goto (tgt := 67) XX d_SO_arrange_56 (by decide) ?_
            refine g_iast (ws' := [cO h 3 [.ref a1, .ref a2, .ref a3, .ref a4], cR a1 cA 97 (iup sa2 (ro2 i2) i2), cR a2 cA 97 ro2, cR a3 cA 96 co, cR a4 cA 97 (iup cl2 (ro2 i2) (-2)), cO k 0 [.ref a, .int (iI n)], cR a cA 96 f]) XX 4 0 rfl rfl ⟨by omega, by omega, by decide⟩ rfl d_SO_arrange_67 ?_
            refine g_iinc (lv' := [(2, .int (iI (i2 + 1))), (3, .int (iI (ro2 i2))), (0, .ref h), (1, .ref k)]) XX d_SO_arrange_68 1 rfl (by decide) rfl ?_
            refine g_goto (tgt := 23) XX d_SO_arrange_71 (by decide) ?_
            refine g_lv (lv' := [(2, .int (iI (i2 + 1))), (0, .ref h), (1, .ref k)]) [0, 2, 3] rfl ?_
            exact ih_23 _ (by omega) (i2 + 1) (iup sa2 (ro2 i2) i2) (iup cl2 (ro2 i2) (-2)) (by omega) (by first | exact ord_put (by omega) e1 (by rw [if_pos h51]) h4 | exact ord_put (by omega) e1 (by rw [if_neg h51]; exact hf _ (by omega) (by omega)) h4) rfl
      exact L23 _ 0 sa cl (by omega) (fun p a b => by omega) rfl
    · -- 6: no
      refine g_aload_n XX d_SO_arrange_9 rfl 1 rfl ?_
      refine g_aload_n XX d_SO_arrange_10 rfl 2 rfl ?_
      refine g_iload_n XX d_SO_arrange_11 rfl 0 rfl ?_
      refine g_callv (As := [.ref k, .int (iI s0)]) (st := []) (wr := [cR a1 cA 97 sa, cR a3 cA 96 co, cR a4 cA 97 cl]) XX (c_SO_rank l D cA h a1 a2 a3 a4 k a ro2 f X n s0 (by first | assumption | omega) (by first | assumption | omega) (by first | assumption | omega) (by first | assumption | omega)) (x_cw 2 XX.2.2.2.2.1 (gi kw_193) rfl rfl (tm kw_14) (tm kw_194) (tm kw_195) (tm kw_196) ⟨by decide +kernel, by decide +kernel, by decide +kernel⟩ ⟨by decide, by decide⟩) [0, 2, 5, 6] [1, 3, 4] rfl rfl (by decide) (by decide) (by decide) 0 3 rfl rfl rfl rfl (Nat.le_of_ble_eq_true rfl) d_SO_arrange_12 ⟨by decide, by decide⟩ (fun w_ hq => ?_)
      obtain ⟨ro3, rfl, u12_0⟩ := hq
      show xG P0 l E0 rm_SO_arrange S0 M0 A0 B0 T0 C0 QQ 4 D vwCl AA 0 0 [cR a1 cA 97 sa, cR a3 cA 96 co, cR a4 cA 97 cl, cO h 3 [.ref a1, .ref a2, .ref a3, .ref a4], cR a2 cA 97 ro3, cO k 0 [.ref a, .int (iI n)], cR a cA 96 f] 15 [(2, .int (iI s0)), (0, .ref h), (1, .ref k)] []
      refine g_iinc (lv' := [(2, .int (iI (s0 + (-1)))), (0, .ref h), (1, .ref k)]) XX d_SO_arrange_15 0 rfl (by decide) rfl ?_
      refine g_goto (tgt := 5) XX d_SO_arrange_18 (by decide) ?_
      refine g_ws (ws' := [cO h 3 [.ref a1, .ref a2, .ref a3, .ref a4], cR a1 cA 97 sa, cR a2 cA 97 ro3, cR a3 cA 96 co, cR a4 cA 97 cl, cO k 0 [.ref a, .int (iI n)], cR a cA 96 f]) [3, 0, 4, 1, 2, 5, 6] (by decide) rfl ?_
      exact ih_5 _ (by omega) (s0 + (-1)) ro3 (by omega) (by rw [show s0 + (-1) + 1 = s0 by omega]; exact u12_0) rfl
  exact L5 _ n ro (by omega) (fun p a b => by omega) rfl
end
section
abbrev rm_FL_start : Room := { frames := 0, cells := 0, slots := 0, locals := 0 }
set_option maxHeartbeats 4000000 in
set_option maxRecDepth 100000 in
theorem c_FL_start (l : Launch) (D : va_G) (cA : ClassId) (h n1 l1 : Nat) (f : Int → Int)  : xV l y_FL_startAgain w_FL_startAgain rm_FL_start D vwCl [(cA, .int)] [.ref h] [cO h 2 [.ref n1, .ref l1], cR l1 cA 257 f] (fun w => ∃ (f' : Int → Int), w = [cO h 2 [.ref n1, .ref l1], cR l1 cA 257 f'] ∧ (ag f' mL0 257)) 0 0 := by
  refine xV.of (by decide) rfl (Nat.le_of_ble_eq_true rfl) ?_
  intro P0 E0 S0 M0 A0 B0 T0 C0 AA QQ XX hnm ret
  refine g_aload_n XX d_FL_startAgain_0 rfl 0 rfl ?_
  refine g_get (C := R_FL) (T := T_FL) (N := 2) XX (tmw win0_FL) 0 rfl rfl 1 (by decide) (tm kw_177) rfl rfl d_FL_startAgain_1 ?_
  refine g_iconst XX d_FL_startAgain_4 ?_
  refine g_bipush (v := -2) XX d_FL_startAgain_5 (by decide) ?_
  refine g_iast (ws' := [cO h 2 [.ref n1, .ref l1], cR l1 cA 257 (iup f 0 (-2))]) XX 1 0 rfl rfl ⟨by omega, by omega, by decide⟩ rfl d_FL_startAgain_7 ?_
  refine g_iconst XX d_FL_startAgain_8 ?_
  refine g_istore_n (lv' := [(1, .int (iI 0)), (0, .ref h)]) XX d_FL_startAgain_9 rfl (by decide) rfl ?_
  have L10 : ∀ (k_10 : Nat) (b0 : Int) (f2 : Int → Int), (0 ≤ b0 ∧ b0 ≤ 256) → (ag f2 mL0 (b0 + 1)) → (256 - b0).toNat = k_10 → xG P0 l E0 rm_FL_start S0 M0 A0 B0 T0 C0 QQ 2 D vwCl AA 0 0 [cO h 2 [.ref n1, .ref l1], cR l1 cA 257 f2] 10 [(1, .int (iI b0)), (0, .ref h)] [] := by
    refine x_ind (fun k_10 ih_10 b0 f2 h1 h2 hk_10 => ?_)
    refine g_iload_n XX d_FL_startAgain_10 rfl 0 rfl ?_
    refine g_sipush (v := 256) XX d_FL_startAgain_11 (by decide) ?_
    refine g_icmp_ge (tgt := 32) XX d_FL_startAgain_14 (by decide) ⟨by omega, by omega⟩ ⟨by omega, by omega⟩ (fun h14 => ?_) (fun h14 => ?_)
    · -- 14: yes
      exact ret _ _ _ [cO h 2 [.ref n1, .ref l1], cR l1 cA 257 f2] [0, 1] d_FL_startAgain_32 (by decide) rfl (⟨f2, rfl, ag_le h2 (by omega)⟩)
    · -- 14: no
      refine g_aload_n XX d_FL_startAgain_17 rfl 1 rfl ?_
      refine g_get (C := R_FL) (T := T_FL) (N := 2) XX (tmw win0_FL) 0 rfl rfl 1 (by decide) (tm kw_177) rfl rfl d_FL_startAgain_18 ?_
      refine g_iload_n XX d_FL_startAgain_21 rfl 0 rfl ?_
      refine g_iconst XX d_FL_startAgain_22 ?_
      refine g_iadd XX d_FL_startAgain_23 ?_
      refine g_iload_n XX d_FL_startAgain_24 rfl 0 rfl ?_
      refine g_iast (ws' := [cO h 2 [.ref n1, .ref l1], cR l1 cA 257 (iup f2 (b0 + 1) b0)]) XX 1 0 rfl rfl ⟨by omega, by omega, by decide⟩ rfl d_FL_startAgain_25 ?_
      refine g_iinc (lv' := [(1, .int (iI (b0 + 1))), (0, .ref h)]) XX d_FL_startAgain_26 0 rfl (by decide) rfl ?_
      refine g_goto (tgt := 10) XX d_FL_startAgain_29 (by decide) ?_
      exact ih_10 _ (by omega) (b0 + 1) (iup f2 (b0 + 1) b0) (by omega) (ag_s h2 (by simp only [mL0, if_neg (show ¬ b0 + 1 = 0 by omega)]; omega)) rfl
  exact L10 _ 0 (iup f 0 (-2)) (by omega) (ag_s (ag_0 (by omega)) (by decide)) rfl
abbrev rm_FL_move : Room := { frames := 1, cells := 0, slots := 0, locals := 26 }
set_option maxHeartbeats 4000000 in
set_option maxRecDepth 100000 in
theorem c_FL_move (l : Launch) (D : va_G) (cA : ClassId) (h n1 l1 : Nat) (f L : Int → Int) (w0 : Int) (hL : mok L) (hf : ag f L 257) (hw : sy w0) : xM l y_FL_moveToFront w_FL_moveToFront rm_FL_move D vwCl [(cA, .int)] [.ref h, .int (iI w0)] [cO h 2 [.ref n1, .ref l1], cR l1 cA 257 f] (fun r w => ∃ (f' : Int → Int), r = iI (mpos L w0) ∧ w = [cO h 2 [.ref n1, .ref l1], cR l1 cA 257 f'] ∧ (ag f' (mnew L w0) 257)) 0 0 := by
  refine xM.ofI (by decide) rfl (Nat.le_of_ble_eq_true rfl) ?_
  intro P0 E0 S0 M0 A0 B0 T0 C0 AA QQ XX hnm ret
  have sw := sy_rng hw
  refine g_iconst XX d_FL_moveToFront_0 ?_
  refine g_istore_n (lv' := [(2, .int (iI 0)), (0, .ref h), (1, .int (iI w0))]) XX d_FL_moveToFront_1 rfl (by decide) rfl ?_
  have L2 : ∀ (k_2 : Nat) (nu0 : Int), (0 ≤ nu0 ∧ nu0 ≤ 256) → (∀ j0, 0 ≤ j0 → j0 < nu0 → L j0 ≠ w0) → (256 - nu0).toNat = k_2 → xG P0 l E0 rm_FL_move S0 M0 A0 B0 T0 C0 QQ 3 D vwCl AA 0 0 [cO h 2 [.ref n1, .ref l1], cR l1 cA 257 f] 2 [(2, .int (iI nu0)), (0, .ref h), (1, .int (iI w0))] [] := by
    refine x_ind (fun k_2 ih_2 nu0 h1 h2 hk_2 => ?_)
    refine g_iload_n XX d_FL_moveToFront_2 rfl 0 rfl ?_
    refine g_sipush (v := 256) XX d_FL_moveToFront_3 (by decide) ?_
    refine g_icmp_ge (tgt := 25) XX d_FL_moveToFront_6 (by decide) ⟨by omega, by omega⟩ ⟨by omega, by omega⟩ (fun h6 => ?_) (fun h6 => ?_)
    · -- 6: yes
      have hp : mpos L w0 = nu0 := mpos_eq (by omega) (by omega) h2 (by omega)
      refine g_aload_n XX d_FL_moveToFront_25 rfl 1 rfl ?_
      refine g_get (C := R_FL) (T := T_FL) (N := 2) XX (tmw win0_FL) 0 rfl rfl 1 (by decide) (tm kw_177) rfl rfl d_FL_moveToFront_26 ?_
      refine g_iconst XX d_FL_moveToFront_29 ?_
      refine g_aload_n XX d_FL_moveToFront_30 rfl 1 rfl ?_
      refine g_get (C := R_FL) (T := T_FL) (N := 2) XX (tmw win0_FL) 0 rfl rfl 1 (by decide) (tm kw_177) rfl rfl d_FL_moveToFront_31 ?_
      refine g_iconst XX d_FL_moveToFront_34 ?_
      refine g_iload_n XX d_FL_moveToFront_35 rfl 0 rfl ?_
      refine g_copy (ws' := [cO h 2 [.ref n1, .ref l1], cR l1 cA 257 (icpy f f 0 1 nu0)]) XX (tm kw_186) (tm kw_162) (tm kw_163) (tm kw_164) 1 1 0 0 rfl rfl rfl rfl ⟨by omega, by omega, by omega, by omega, by omega, by decide, by decide⟩ (by decide) (Nat.le_of_ble_eq_true rfl) rfl d_FL_moveToFront_36 ?_
      refine g_aload_n XX d_FL_moveToFront_39 rfl 1 rfl ?_
      refine g_get (C := R_FL) (T := T_FL) (N := 2) XX (tmw win0_FL) 0 rfl rfl 1 (by decide) (tm kw_177) rfl rfl d_FL_moveToFront_40 ?_
      refine g_iconst XX d_FL_moveToFront_43 ?_
      refine g_iload_n XX d_FL_moveToFront_44 rfl 2 rfl ?_
      refine g_iast (ws' := [cO h 2 [.ref n1, .ref l1], cR l1 cA 257 (iup (icpy f f 0 1 nu0) 0 w0)]) XX 1 0 rfl rfl ⟨by omega, by omega, by decide⟩ rfl d_FL_moveToFront_45 ?_
      refine g_iload_n XX d_FL_moveToFront_46 rfl 0 rfl ?_
      exact ret _ _ _ _ [cO h 2 [.ref n1, .ref l1], cR l1 cA 257 (iup (icpy f f 0 1 nu0) 0 w0)] [0, 1] d_FL_moveToFront_47 (by decide) rfl (⟨iup (icpy f f 0 1 nu0) 0 w0, by rw [hp], rfl, mnew_ag hf hp (by omega)⟩)
    · -- 6: no
      refine g_aload_n XX d_FL_moveToFront_9 rfl 1 rfl ?_
      refine g_get (C := R_FL) (T := T_FL) (N := 2) XX (tmw win0_FL) 0 rfl rfl 1 (by decide) (tm kw_177) rfl rfl d_FL_moveToFront_10 ?_
      refine g_iload_n XX d_FL_moveToFront_13 rfl 0 rfl ?_
      refine g_iald XX 1 0 rfl rfl ⟨by omega, by omega, by decide⟩ d_FL_moveToFront_14 ?_
      refine g_iload_n XX d_FL_moveToFront_15 rfl 2 rfl ?_
      have e1 := hf nu0 (by omega) (by omega)
      have s1 := sy_rng (hL.1 nu0 (by omega) (by omega))
      refine g_icmp_eq (tgt := 25) XX d_FL_moveToFront_16 (by decide) ⟨by omega, by omega⟩ ⟨by omega, by omega⟩ (fun h16 => ?_) (fun h16 => ?_)
      · -- 16: yes
        have hp : mpos L w0 = nu0 := mpos_eq (by omega) (by omega) h2 (by omega)
        refine g_aload_n XX d_FL_moveToFront_25 rfl 1 rfl ?_
        refine g_get (C := R_FL) (T := T_FL) (N := 2) XX (tmw win0_FL) 0 rfl rfl 1 (by decide) (tm kw_177) rfl rfl d_FL_moveToFront_26 ?_
        refine g_iconst XX d_FL_moveToFront_29 ?_
        refine g_aload_n XX d_FL_moveToFront_30 rfl 1 rfl ?_
        refine g_get (C := R_FL) (T := T_FL) (N := 2) XX (tmw win0_FL) 0 rfl rfl 1 (by decide) (tm kw_177) rfl rfl d_FL_moveToFront_31 ?_
        refine g_iconst XX d_FL_moveToFront_34 ?_
        refine g_iload_n XX d_FL_moveToFront_35 rfl 0 rfl ?_
        refine g_copy (ws' := [cO h 2 [.ref n1, .ref l1], cR l1 cA 257 (icpy f f 0 1 nu0)]) XX (tm kw_186) (tm kw_162) (tm kw_163) (tm kw_164) 1 1 0 0 rfl rfl rfl rfl ⟨by omega, by omega, by omega, by omega, by omega, by decide, by decide⟩ (by decide) (Nat.le_of_ble_eq_true rfl) rfl d_FL_moveToFront_36 ?_
        refine g_aload_n XX d_FL_moveToFront_39 rfl 1 rfl ?_
        refine g_get (C := R_FL) (T := T_FL) (N := 2) XX (tmw win0_FL) 0 rfl rfl 1 (by decide) (tm kw_177) rfl rfl d_FL_moveToFront_40 ?_
        refine g_iconst XX d_FL_moveToFront_43 ?_
        refine g_iload_n XX d_FL_moveToFront_44 rfl 2 rfl ?_
        refine g_iast (ws' := [cO h 2 [.ref n1, .ref l1], cR l1 cA 257 (iup (icpy f f 0 1 nu0) 0 w0)]) XX 1 0 rfl rfl ⟨by omega, by omega, by decide⟩ rfl d_FL_moveToFront_45 ?_
        refine g_iload_n XX d_FL_moveToFront_46 rfl 0 rfl ?_
        exact ret _ _ _ _ [cO h 2 [.ref n1, .ref l1], cR l1 cA 257 (iup (icpy f f 0 1 nu0) 0 w0)] [0, 1] d_FL_moveToFront_47 (by decide) rfl (⟨iup (icpy f f 0 1 nu0) 0 w0, by rw [hp], rfl, mnew_ag hf hp (by omega)⟩)
      · -- 16: no
        refine g_iinc (lv' := [(2, .int (iI (nu0 + 1))), (0, .ref h), (1, .int (iI w0))]) XX d_FL_moveToFront_19 0 rfl (by decide) rfl ?_
        refine g_goto (tgt := 2) XX d_FL_moveToFront_22 (by decide) ?_
        exact ih_2 _ (by omega) (nu0 + 1) (by omega) (all_s h2 (by show L nu0 ≠ w0; omega)) rfl
  exact L2 _ 0 (by omega) (fun j0 a b => by omega) rfl
abbrev rm_FL_number : Room := { frames := 2, cells := 0, slots := 0, locals := 48 }
set_option maxHeartbeats 4000000 in
set_option maxRecDepth 100000 in
theorem c_FL_number (l : Launch) (D : va_G) (cA : ClassId) (h n1 l1 k : Nat) (nu f col C : Int → Int) (N : Int) (hN : 0 ≤ N ∧ N ≤ 96) (hc : ag col C (N + 1)) (hs : ∀ j, 0 ≤ j → j < N + 1 → sy (C j)) : xV l y_FL_numberColumn w_FL_numberColumn rm_FL_number D vwCl [(cA, .int)] [.ref h, .ref k, .int (iI N)] [cO h 2 [.ref n1, .ref l1], cR n1 cA 97 nu, cR l1 cA 257 f, cR k cA 97 col] (fun w => ∃ (nu' : Int → Int), ∃ (f' : Int → Int), w = [cO h 2 [.ref n1, .ref l1], cR n1 cA 97 nu', cR l1 cA 257 f', cR k cA 97 col] ∧ (ag nu' (mN C) (N + 1))) 0 0 := by
  refine xV.of (by decide) rfl (Nat.le_of_ble_eq_true rfl) ?_
  intro P0 E0 S0 M0 A0 B0 T0 C0 AA QQ XX hnm ret
  refine g_aload_n XX d_FL_numberColumn_0 rfl 0 rfl ?_
  refine g_callv (As := []) (st := []) (wr := [cR n1 cA 97 nu, cR k cA 97 col]) XX (c_FL_start l D cA h n1 l1 f ) (x_cw 0 XX.2.2.2.2.1 (gi kw_178) rfl rfl (tm kw_21) (tm kw_179) (tm kw_180) (tm kw_181) ⟨by decide +kernel, by decide +kernel, by decide +kernel⟩ ⟨by decide, by decide⟩) [0, 2] [1, 3] rfl rfl (by decide) (by decide) (by decide) 0 2 rfl rfl rfl rfl (Nat.le_of_ble_eq_true rfl) d_FL_numberColumn_1 ⟨by decide, by decide⟩ (fun w_ hq => ?_)
  obtain ⟨f1, rfl, u1_0⟩ := hq
  show xG P0 l E0 rm_FL_number S0 M0 A0 B0 T0 C0 QQ 4 D vwCl AA 0 0 [cR n1 cA 97 nu, cR k cA 97 col, cO h 2 [.ref n1, .ref l1], cR l1 cA 257 f1] 4 [(0, .ref h), (1, .ref k), (2, .int (iI N))] []
  refine g_iconst XX d_FL_numberColumn_4 ?_
  refine g_istore_n (lv' := [(3, .int (iI 0)), (0, .ref h), (1, .ref k), (2, .int (iI N))]) XX d_FL_numberColumn_5 rfl (by decide) rfl ?_
  have L6 : ∀ (k_6 : Nat) (r0 : Int) (nu2 : Int → Int) (f2 : Int → Int), (0 ≤ r0 ∧ r0 ≤ N + 1) → (ag nu2 (mN C) r0) → (ag f2 (mS C r0) 257) → (N + 1 - r0).toNat = k_6 → xG P0 l E0 rm_FL_number S0 M0 A0 B0 T0 C0 QQ 4 D vwCl AA 0 0 [cR n1 cA 97 nu2, cR k cA 97 col, cO h 2 [.ref n1, .ref l1], cR l1 cA 257 f2] 6 [(3, .int (iI r0)), (0, .ref h), (1, .ref k), (2, .int (iI N))] [] := by
    refine x_ind (fun k_6 ih_6 r0 nu2 f2 h1 h2 h3 hk_6 => ?_)
    refine g_iload_n XX d_FL_numberColumn_6 rfl 0 rfl ?_
    refine g_iload_n XX d_FL_numberColumn_7 rfl 3 rfl ?_
    refine g_icmp_gt (tgt := 30) XX d_FL_numberColumn_8 (by decide) ⟨by omega, by omega⟩ ⟨by omega, by omega⟩ (fun h8 => ?_) (fun h8 => ?_)
    · -- 8: yes
      exact ret _ _ _ [cO h 2 [.ref n1, .ref l1], cR n1 cA 97 nu2, cR l1 cA 257 f2, cR k cA 97 col] [2, 0, 3, 1] d_FL_numberColumn_30 (by decide) rfl (⟨nu2, f2, rfl, ag_le h2 (by omega)⟩)
    · -- 8: no
      refine g_aload_n XX d_FL_numberColumn_11 rfl 1 rfl ?_
      refine g_get (C := R_FL) (T := T_FL) (N := 2) XX (tmw win0_FL) 2 rfl rfl 0 (by decide) (tm kw_176) rfl rfl d_FL_numberColumn_12 ?_
      refine g_iload_n XX d_FL_numberColumn_15 rfl 0 rfl ?_
      refine g_aload_n XX d_FL_numberColumn_16 rfl 1 rfl ?_
      refine g_aload_n XX d_FL_numberColumn_17 rfl 2 rfl ?_
      refine g_iload_n XX d_FL_numberColumn_18 rfl 0 rfl ?_
      refine g_iald XX 1 0 rfl rfl ⟨by omega, by omega, by decide⟩ d_FL_numberColumn_19 ?_
      refine g_calli (As := [.int (iI (col r0))]) (st := [.int (iI r0), .ref n1]) (wr := [cR n1 cA 97 nu2, cR k cA 97 col]) XX (c_FL_move l D cA h n1 l1 f2 (mS C r0) (col r0) (mok_S hs r0 (by omega) (by omega)) (h3) (by rw [hc r0 (by omega) (by omega)]; exact hs r0 (by omega) (by omega))) (x_cw 1 XX.2.2.2.2.1 (gi kw_182) rfl rfl (tm kw_21) (tm kw_183) (tm kw_184) (tm kw_185) ⟨by decide +kernel, by decide +kernel, by decide +kernel⟩ ⟨by decide, by decide⟩) [2, 3] [0, 1] rfl rfl (by decide) (by decide) (by decide) 2 2 rfl rfl rfl rfl (Nat.le_of_ble_eq_true rfl) d_FL_numberColumn_20 ⟨by decide, by decide⟩ (fun r_ w_ hq => ?_)
      obtain ⟨f3, rfl, rfl, u20_0⟩ := hq
      show xG P0 l E0 rm_FL_number S0 M0 A0 B0 T0 C0 QQ 4 D vwCl AA 0 0 [cR n1 cA 97 nu2, cR k cA 97 col, cO h 2 [.ref n1, .ref l1], cR l1 cA 257 f3] 23 [(3, .int (iI r0)), (0, .ref h), (1, .ref k), (2, .int (iI N))] [.int (iI (mpos (mS C r0) (col r0))), .int (iI r0), .ref n1]
      refine g_iast (ws' := [cR n1 cA 97 (iup nu2 r0 (mpos (mS C r0) (col r0))), cR k cA 97 col, cO h 2 [.ref n1, .ref l1], cR l1 cA 257 f3]) XX 0 0 rfl rfl ⟨by omega, by omega, by decide⟩ rfl d_FL_numberColumn_23 ?_
      refine g_iinc (lv' := [(3, .int (iI (r0 + 1))), (0, .ref h), (1, .ref k), (2, .int (iI N))]) XX d_FL_numberColumn_24 0 rfl (by decide) rfl ?_
      refine g_goto (tgt := 6) XX d_FL_numberColumn_27 (by decide) ?_
      exact ih_6 _ (by omega) (r0 + 1) (iup nu2 r0 (mpos (mS C r0) (col r0))) f3 (by omega) (ag_s h2 (by rw [hc r0 (by omega) (by omega)]; rfl)) (by rw [mS_s (by omega), ← hc r0 (by omega) (by omega)]; exact u20_0) rfl
  exact L6 _ 0 nu f1 (by omega) (ag_0 (by omega)) (u1_0) rfl
end
section
abbrev rm_CR_take : Room := { frames := 0, cells := 0, slots := 0, locals := 0 }
set_option maxHeartbeats 4000000 in
set_option maxRecDepth 100000 in
theorem c_CR_take (l : Launch) (D : va_G) (cA : ClassId) (h a k b : Nat) (co f T : Int → Int) (lr t i : Int) (ht : 0 ≤ i ∧ i ≤ t ∧ t ≤ 96) (hf : ag f T t) : xV l y_CR_take w_CR_take rm_CR_take D vwCl [(cA, .int)] [.ref h, .ref k, .int (iI i)] [cO h 1 [.ref a, .int (iI lr)], cR a cA 97 co, cO k 0 [.ref b, .int (iI t)], cR b cA 96 f] (fun w => ∃ (co' : Int → Int), w = [cO h 1 [.ref a, .int (iI t)], cR a cA 97 co', cO k 0 [.ref b, .int (iI t)], cR b cA 96 f] ∧ (ag co' (gv T i) (t + 1))) 0 0 := by
  refine xV.of (by decide) rfl (Nat.le_of_ble_eq_true rfl) ?_
  intro P0 E0 S0 M0 A0 B0 T0 C0 AA QQ XX hnm ret
  refine g_iconst XX d_CR_take_0 ?_
  refine g_istore_n (lv' := [(3, .int (iI 0)), (0, .ref h), (1, .ref k), (2, .int (iI i))]) XX d_CR_take_1 rfl (by decide) rfl ?_
  have L2 : ∀ (k_2 : Nat) (p0 : Int) (co2 : Int → Int), (0 ≤ p0 ∧ p0 ≤ t) → (∀ j, 0 ≤ j → j < p0 → co2 (if j < i then j else j + 1) = T j) → (t - p0).toNat = k_2 → xG P0 l E0 rm_CR_take S0 M0 A0 B0 T0 C0 QQ 4 D vwCl AA 0 0 [cO h 1 [.ref a, .int (iI lr)], cR a cA 97 co2, cO k 0 [.ref b, .int (iI t)], cR b cA 96 f] 2 [(3, .int (iI p0)), (0, .ref h), (1, .ref k), (2, .int (iI i))] [] := by
    refine x_ind (fun k_2 ih_2 p0 co2 h1 h2 hk_2 => ?_)
    refine g_iload_n XX d_CR_take_2 rfl 0 rfl ?_
    refine g_aload_n XX d_CR_take_3 rfl 2 rfl ?_
    refine g_get (C := R_BR) (T := T_BR) (N := 2) XX (tmw win0_BR) 2 rfl rfl 1 (by decide) (tm kw_169) rfl rfl d_CR_take_4 ?_
    refine g_icmp_ge (tgt := 39) XX d_CR_take_7 (by decide) ⟨by omega, by omega⟩ ⟨by omega, by omega⟩ (fun h7 => ?_) (fun h7 => ?_)
    · -- 7: yes
      refine g_aload_n XX d_CR_take_39 rfl 1 rfl ?_
      refine g_get (C := R_CR) (T := T_CR) (N := 2) XX (tmw win0_CR) 0 rfl rfl 0 (by decide) (tm kw_167) rfl rfl d_CR_take_40 ?_
      refine g_iload_n XX d_CR_take_43 rfl 3 rfl ?_
      refine g_bipush (v := -2) XX d_CR_take_44 (by decide) ?_
      refine g_iast (ws' := [cO h 1 [.ref a, .int (iI lr)], cR a cA 97 (iup co2 i (-2)), cO k 0 [.ref b, .int (iI t)], cR b cA 96 f]) XX 1 0 rfl rfl ⟨by omega, by omega, by decide⟩ rfl d_CR_take_46 ?_
      refine g_aload_n XX d_CR_take_47 rfl 1 rfl ?_
      refine g_aload_n XX d_CR_take_48 rfl 2 rfl ?_
      refine g_get (C := R_BR) (T := T_BR) (N := 2) XX (tmw win0_BR) 2 rfl rfl 1 (by decide) (tm kw_169) rfl rfl d_CR_take_49 ?_
      refine g_put (C := R_CR) (T := T_CR) (N := 2) (ty := (.int)) (ws' := [cO h 1 [.ref a, .int (iI t)], cR a cA 97 (iup co2 i (-2)), cO k 0 [.ref b, .int (iI t)], cR b cA 96 f]) XX (tmw win0_CR) ty_CR ok_CR nm_CR 0 rfl rfl 1 (by decide) (tm kw_168) rfl rfl (by decide +kernel) rfl rfl (Nat.le_of_ble_eq_true rfl) rfl d_CR_take_52 ?_
      exact ret _ _ _ [cO h 1 [.ref a, .int (iI t)], cR a cA 97 (iup co2 i (-2)), cO k 0 [.ref b, .int (iI t)], cR b cA 96 f] [0, 1, 2, 3] d_CR_take_55 (by decide) rfl (⟨iup co2 i (-2), rfl, gv_end (by omega) (by omega) h2⟩)
    · -- 7: no
      refine g_aload_n XX d_CR_take_10 rfl 1 rfl ?_
      refine g_get (C := R_CR) (T := T_CR) (N := 2) XX (tmw win0_CR) 0 rfl rfl 0 (by decide) (tm kw_167) rfl rfl d_CR_take_11 ?_
      refine g_iload_n XX d_CR_take_14 rfl 0 rfl ?_
      refine g_iload_n XX d_CR_take_15 rfl 3 rfl ?_
      refine g_icmp_ge (tgt := 23) XX d_CR_take_16 (by decide) ⟨by omega, by omega⟩ ⟨by omega, by omega⟩ (fun h16 => ?_) (fun h16 => ?_)
      · -- 16: yes
        refine g_iload_n XX d_CR_take_23 rfl 0 rfl ?_
        refine g_iconst XX d_CR_take_24 ?_
        refine g_iadd XX d_CR_take_25 ?_
        refine g_aload_n XX d_CR_take_26 rfl 2 rfl ?_
        refine g_get (C := R_BR) (T := T_BR) (N := 2) XX (tmw win0_BR) 2 rfl rfl 0 (by decide) (tm kw_170) rfl rfl d_CR_take_27 ?_
        refine g_iload_n XX d_CR_take_30 rfl 0 rfl ?_
        refine g_iald XX 3 0 rfl rfl ⟨by omega, by omega, by decide⟩ d_CR_take_31 ?_
        refine g_iast (ws' := [cO h 1 [.ref a, .int (iI lr)], cR a cA 97 (iup co2 (p0 + 1) (f p0)), cO k 0 [.ref b, .int (iI t)], cR b cA 96 f]) XX 1 0 rfl rfl ⟨by omega, by omega, by decide⟩ rfl d_CR_take_32 ?_
        refine g_iinc (lv' := [(3, .int (iI (p0 + 1))), (0, .ref h), (1, .ref k), (2, .int (iI i))]) XX d_CR_take_33 0 rfl (by decide) rfl ?_
        refine g_goto (tgt := 2) XX d_CR_take_36 (by decide) ?_
        exact ih_2 _ (by omega) (p0 + 1) (iup co2 (p0 + 1) (f p0)) (by omega) (by first | exact gv_put h2 (by rw [if_neg (by omega)]) (hf p0 (by omega) (by omega)) | exact gv_put h2 (by rw [if_pos (by omega)]) (hf p0 (by omega) (by omega))) rfl
      · -- 16: no
        refine g_iload_n XX d_CR_take_19 rfl 0 rfl ?_
        refine g_goto (tgt := 26) XX d_CR_take_20 (by decide) ?_
        refine g_aload_n XX d_CR_take_26 rfl 2 rfl ?_
        refine g_get (C := R_BR) (T := T_BR) (N := 2) XX (tmw win0_BR) 2 rfl rfl 0 (by decide) (tm kw_170) rfl rfl d_CR_take_27 ?_
        refine g_iload_n XX d_CR_take_30 rfl 0 rfl ?_
        refine g_iald XX 3 0 rfl rfl ⟨by omega, by omega, by decide⟩ d_CR_take_31 ?_
        refine g_iast (ws' := [cO h 1 [.ref a, .int (iI lr)], cR a cA 97 (iup co2 p0 (f p0)), cO k 0 [.ref b, .int (iI t)], cR b cA 96 f]) XX 1 0 rfl rfl ⟨by omega, by omega, by decide⟩ rfl d_CR_take_32 ?_
        refine g_iinc (lv' := [(3, .int (iI (p0 + 1))), (0, .ref h), (1, .ref k), (2, .int (iI i))]) XX d_CR_take_33 0 rfl (by decide) rfl ?_
        refine g_goto (tgt := 2) XX d_CR_take_36 (by decide) ?_
        exact ih_2 _ (by omega) (p0 + 1) (iup co2 p0 (f p0)) (by omega) (by first | exact gv_put h2 (by rw [if_neg (by omega)]) (hf p0 (by omega) (by omega)) | exact gv_put h2 (by rw [if_pos (by omega)]) (hf p0 (by omega) (by omega))) rfl
  exact L2 _ 0 co (by omega) (fun j a b => by omega) rfl
abbrev rm_CR_longer : Room := { frames := 0, cells := 0, slots := 0, locals := 0 }
set_option maxHeartbeats 4000000 in
set_option maxRecDepth 100000 in
theorem c_CR_longer (l : Launch) (D : va_G) (cA : ClassId) (h a : Nat) (co C : Int → Int) (N r0 : Int) (hr : 0 ≤ r0 ∧ r0 ≤ N ∧ N ≤ 96) (hc : ag co C (N + 1)) (hv : ∀ j, 0 ≤ j → j ≤ N → -2 ≤ C j ∧ C j ≤ 255) : xM l y_CR_rankOfLonger w_CR_rankOfLonger rm_CR_longer D vwCl [(cA, .int)] [.ref h, .int (iI r0)] [cO h 1 [.ref a, .int (iI N)], cR a cA 97 co] (fun r w => r = iI (lf C N r0) ∧ w = [cO h 1 [.ref a, .int (iI N)], cR a cA 97 co]) 0 0 := by
  refine xM.ofI (by decide) rfl (Nat.le_of_ble_eq_true rfl) ?_
  intro P0 E0 S0 M0 A0 B0 T0 C0 AA QQ XX hnm ret
  refine g_iconst XX d_CR_rankOfLonger_0 ?_
  refine g_istore_n (lv' := [(2, .int (iI 0)), (0, .ref h), (1, .int (iI r0))]) XX d_CR_rankOfLonger_1 rfl (by decide) rfl ?_
  refine g_iconst XX d_CR_rankOfLonger_2 ?_
  refine g_istore_n (lv' := [(3, .int (iI 0)), (2, .int (iI 0)), (0, .ref h), (1, .int (iI r0))]) XX d_CR_rankOfLonger_3 rfl (by decide) rfl ?_
  have L4 : ∀ (k_4 : Nat) (c0 : Int) (o0 : Int), (0 ≤ o0 ∧ o0 ≤ N + 1) → (c0 = cnt (lfb C r0) o0) → (N + 1 - o0).toNat = k_4 → xG P0 l E0 rm_CR_longer S0 M0 A0 B0 T0 C0 QQ 4 D vwCl AA 0 0 [cO h 1 [.ref a, .int (iI N)], cR a cA 97 co] 4 [(3, .int (iI o0)), (2, .int (iI c0)), (0, .ref h), (1, .int (iI r0))] [] := by
    refine x_ind (fun k_4 ih_4 c0 o0 h1 h2 hk_4 => ?_)
    refine g_iload_n XX d_CR_rankOfLonger_4 rfl 0 rfl ?_
    refine g_aload_n XX d_CR_rankOfLonger_5 rfl 2 rfl ?_
    refine g_get (C := R_CR) (T := T_CR) (N := 2) XX (tmw win0_CR) 0 rfl rfl 1 (by decide) (tm kw_168) rfl rfl d_CR_rankOfLonger_6 ?_
    refine g_icmp_gt (tgt := 56) XX d_CR_rankOfLonger_9 (by decide) ⟨by omega, by omega⟩ ⟨by omega, by omega⟩ (fun h9 => ?_) (fun h9 => ?_)
    · -- 9: yes
      refine g_iload_n XX d_CR_rankOfLonger_56 rfl 1 rfl ?_
      exact ret _ _ _ _ [cO h 1 [.ref a, .int (iI N)], cR a cA 97 co] [0, 1] d_CR_rankOfLonger_57 (by decide) rfl (⟨by rw [h2, show o0 = N + 1 by omega]; rfl, rfl⟩)
    · -- 9: no
      refine g_aload_n XX d_CR_rankOfLonger_12 rfl 2 rfl ?_
      refine g_get (C := R_CR) (T := T_CR) (N := 2) XX (tmw win0_CR) 0 rfl rfl 0 (by decide) (tm kw_167) rfl rfl d_CR_rankOfLonger_13 ?_
      refine g_iload_n XX d_CR_rankOfLonger_16 rfl 0 rfl ?_
      refine g_iald XX 1 0 rfl rfl ⟨by omega, by omega, by decide⟩ d_CR_rankOfLonger_17 ?_
      refine g_aload_n XX d_CR_rankOfLonger_18 rfl 2 rfl ?_
      refine g_get (C := R_CR) (T := T_CR) (N := 2) XX (tmw win0_CR) 0 rfl rfl 0 (by decide) (tm kw_167) rfl rfl d_CR_rankOfLonger_19 ?_
      refine g_iload_n XX d_CR_rankOfLonger_22 rfl 3 rfl ?_
      refine g_iald XX 1 0 rfl rfl ⟨by omega, by omega, by decide⟩ d_CR_rankOfLonger_23 ?_
      have e1 := hc o0 (by omega) (by omega)
      have e2 := hc r0 (by omega) (by omega)
      have v1 := hv o0 (by omega) (by omega)
      have v2 := hv r0 (by omega) (by omega)
      refine g_icmp_lt (tgt := 47) XX d_CR_rankOfLonger_24 (by decide) ⟨by omega, by omega⟩ ⟨by omega, by omega⟩ (fun h24 => ?_) (fun h24 => ?_)
      · -- 24: yes
        refine g_iinc (lv' := [(2, .int (iI (c0 + 1))), (3, .int (iI o0)), (0, .ref h), (1, .int (iI r0))]) XX d_CR_rankOfLonger_47 1 rfl (by decide) rfl ?_
        refine g_iinc (lv' := [(3, .int (iI (o0 + 1))), (2, .int (iI (c0 + 1))), (0, .ref h), (1, .int (iI r0))]) XX d_CR_rankOfLonger_50 1 rfl (by decide) rfl ?_
        refine g_goto (tgt := 4) XX d_CR_rankOfLonger_53 (by decide) ?_
        exact ih_4 _ (by omega) (c0 + 1) (o0 + 1) (by omega) (by first | (rw [h2, cnt_y (by omega) (by simp only [lfb, decide_eq_true_eq]; omega)]; done) | (rw [cnt_n (by omega) (by simp only [lfb, decide_eq_false_iff_not]; omega)]; exact h2)) rfl
      · -- 24: no
        refine g_aload_n XX d_CR_rankOfLonger_27 rfl 2 rfl ?_
        refine g_get (C := R_CR) (T := T_CR) (N := 2) XX (tmw win0_CR) 0 rfl rfl 0 (by decide) (tm kw_167) rfl rfl d_CR_rankOfLonger_28 ?_
        refine g_iload_n XX d_CR_rankOfLonger_31 rfl 0 rfl ?_
        refine g_iald XX 1 0 rfl rfl ⟨by omega, by omega, by decide⟩ d_CR_rankOfLonger_32 ?_
        refine g_aload_n XX d_CR_rankOfLonger_33 rfl 2 rfl ?_
        refine g_get (C := R_CR) (T := T_CR) (N := 2) XX (tmw win0_CR) 0 rfl rfl 0 (by decide) (tm kw_167) rfl rfl d_CR_rankOfLonger_34 ?_
        refine g_iload_n XX d_CR_rankOfLonger_37 rfl 3 rfl ?_
        refine g_iald XX 1 0 rfl rfl ⟨by omega, by omega, by decide⟩ d_CR_rankOfLonger_38 ?_
        refine g_icmp_ne (tgt := 50) XX d_CR_rankOfLonger_39 (by decide) ⟨by omega, by omega⟩ ⟨by omega, by omega⟩ (fun h39 => ?_) (fun h39 => ?_)
        · -- 39: yes
          refine g_iinc (lv' := [(3, .int (iI (o0 + 1))), (2, .int (iI c0)), (0, .ref h), (1, .int (iI r0))]) XX d_CR_rankOfLonger_50 0 rfl (by decide) rfl ?_
          refine g_goto (tgt := 4) XX d_CR_rankOfLonger_53 (by decide) ?_
          exact ih_4 _ (by omega) c0 (o0 + 1) (by omega) (by first | (rw [h2, cnt_y (by omega) (by simp only [lfb, decide_eq_true_eq]; omega)]; done) | (rw [cnt_n (by omega) (by simp only [lfb, decide_eq_false_iff_not]; omega)]; exact h2)) rfl
        · -- 39: no
          refine g_iload_n XX d_CR_rankOfLonger_42 rfl 0 rfl ?_
          refine g_iload_n XX d_CR_rankOfLonger_43 rfl 3 rfl ?_
          refine g_icmp_ge (tgt := 50) XX d_CR_rankOfLonger_44 (by decide) ⟨by omega, by omega⟩ ⟨by omega, by omega⟩ (fun h44 => ?_) (fun h44 => ?_)
          · -- 44: yes
            refine g_iinc (lv' := [(3, .int (iI (o0 + 1))), (2, .int (iI c0)), (0, .ref h), (1, .int (iI r0))]) XX d_CR_rankOfLonger_50 0 rfl (by decide) rfl ?_
            refine g_goto (tgt := 4) XX d_CR_rankOfLonger_53 (by decide) ?_
            exact ih_4 _ (by omega) c0 (o0 + 1) (by omega) (by first | (rw [h2, cnt_y (by omega) (by simp only [lfb, decide_eq_true_eq]; omega)]; done) | (rw [cnt_n (by omega) (by simp only [lfb, decide_eq_false_iff_not]; omega)]; exact h2)) rfl
          · -- 44: no
            refine g_iinc (lv' := [(2, .int (iI (c0 + 1))), (3, .int (iI o0)), (0, .ref h), (1, .int (iI r0))]) XX d_CR_rankOfLonger_47 1 rfl (by decide) rfl ?_
            refine g_iinc (lv' := [(3, .int (iI (o0 + 1))), (2, .int (iI (c0 + 1))), (0, .ref h), (1, .int (iI r0))]) XX d_CR_rankOfLonger_50 1 rfl (by decide) rfl ?_
            refine g_goto (tgt := 4) XX d_CR_rankOfLonger_53 (by decide) ?_
            exact ih_4 _ (by omega) (c0 + 1) (o0 + 1) (by omega) (by first | (rw [h2, cnt_y (by omega) (by simp only [lfb, decide_eq_true_eq]; omega)]; done) | (rw [cnt_n (by omega) (by simp only [lfb, decide_eq_false_iff_not]; omega)]; exact h2)) rfl
  exact L4 _ 0 0 (by omega) ((cnt_0 (by omega)).symm) rfl
abbrev rm_CR_write : Room := { frames := 1, cells := 0, slots := 0, locals := 23 }
set_option maxHeartbeats 4000000 in
set_option maxRecDepth 100000 in
theorem c_CR_write (l : Launch) (D : va_G) (cA : ClassId) (h a k b : Nat) (co f C : Int → Int) (N t : Int) (hN : 0 ≤ N ∧ N ≤ 96) (hc : ag co C (N + 1)) (hv : ∀ j, 0 ≤ j → j ≤ N → -2 ≤ C j ∧ C j ≤ 255) : xM l y_CR_writeText w_CR_writeText rm_CR_write D vwCl [(cA, .int)] [.ref h, .ref k] [cO h 1 [.ref a, .int (iI N)], cR a cA 97 co, cO k 0 [.ref b, .int (iI t)], cR b cA 96 f] (fun r w => ∃ (z : Int), ∃ (t' : Int), ∃ (f' : Int → Int), r = iI z ∧ w = [cO h 1 [.ref a, .int (iI N)], cR a cA 97 co, cO k 0 [.ref b, .int (iI t')], cR b cA 96 f'] ∧ ((z = 1 ∧ wgood C N ∧ ag f' (xt C N) N ∧ t' = N) ∨ (z = 0 ∧ ¬ wgood C N))) 0 0 := by
  refine xM.ofZ (by decide) rfl (Nat.le_of_ble_eq_true rfl) ?_
  intro P0 E0 S0 M0 A0 B0 T0 C0 AA QQ XX hnm ret
  refine g_iconst XX d_CR_writeText_0 ?_
  refine g_istore_n (lv' := [(2, .int (iI 0)), (0, .ref h), (1, .ref k)]) XX d_CR_writeText_1 rfl (by decide) rfl ?_
  refine g_aload_n XX d_CR_writeText_2 rfl 1 rfl ?_
  refine g_get (C := R_CR) (T := T_CR) (N := 2) XX (tmw win0_CR) 0 rfl rfl 1 (by decide) (tm kw_168) rfl rfl d_CR_writeText_3 ?_
  refine g_iconst XX d_CR_writeText_6 ?_
  refine g_isub XX d_CR_writeText_7 ?_
  refine g_istore_n (lv' := [(3, .int (iI (N - 1))), (2, .int (iI 0)), (0, .ref h), (1, .ref k)]) XX d_CR_writeText_8 rfl (by decide) rfl ?_
  have L9 : ∀ (k_9 : Nat) (r1 : Int) (p0 : Int) (f2 : Int → Int), (-1 ≤ p0 ∧ p0 ≤ N - 1) → (r1 = wk C N (N - 1 - p0)) → (∀ j, p0 < j → j < N → f2 j = xt C N j) → (∀ i, 0 ≤ i → i < N - 1 - p0 → C (wk C N i) ≠ -2) → (p0 + 1).toNat = k_9 → xG P0 l E0 rm_CR_write S0 M0 A0 B0 T0 C0 QQ 4 D vwCl AA 0 0 [cO h 1 [.ref a, .int (iI N)], cR a cA 97 co, cO k 0 [.ref b, .int (iI t)], cR b cA 96 f2] 9 [(3, .int (iI p0)), (2, .int (iI r1)), (0, .ref h), (1, .ref k)] [] := by
    refine x_ind (fun k_9 ih_9 r1 p0 f2 h1 h2 h3 h4 hk_9 => ?_)
    refine g_iload_n XX d_CR_writeText_9 rfl 0 rfl ?_
    refine g_if_lt (tgt := 50) XX d_CR_writeText_10 (by decide) ⟨by omega, by omega⟩ (fun h10 => ?_) (fun h10 => ?_)
    · -- 10: yes
      refine g_aload_n XX d_CR_writeText_50 rfl 3 rfl ?_
      refine g_aload_n XX d_CR_writeText_51 rfl 2 rfl ?_
      refine g_get (C := R_CR) (T := T_CR) (N := 2) XX (tmw win0_CR) 0 rfl rfl 1 (by decide) (tm kw_168) rfl rfl d_CR_writeText_52 ?_
      refine g_put (C := R_BR) (T := T_BR) (N := 2) (ty := (.int)) (ws' := [cO h 1 [.ref a, .int (iI N)], cR a cA 97 co, cO k 0 [.ref b, .int (iI N)], cR b cA 96 f2]) XX (tmw win0_BR) ty_BR ok_BR nm_BR 2 rfl rfl 1 (by decide) (tm kw_169) rfl rfl (by decide +kernel) rfl rfl (Nat.le_of_ble_eq_true rfl) rfl d_CR_writeText_55 ?_
      refine g_iconst XX d_CR_writeText_58 ?_
      exact ret _ _ _ _ [cO h 1 [.ref a, .int (iI N)], cR a cA 97 co, cO k 0 [.ref b, .int (iI N)], cR b cA 96 f2] [0, 1, 2, 3] (by first | exact Or.inl rfl | exact Or.inr rfl) d_CR_writeText_59 (by decide) rfl (⟨1, N, f2, rfl, rfl, Or.inl ⟨rfl, fun i a b => h4 i a (by omega), fun j a b => h3 j (by omega) b, rfl⟩⟩)
    · -- 10: no
      have rr := wk_rng (col := C) (N := N) (by omega) (N - 1 - p0) (by omega)
      have e1 := hc r1 (by omega) (by omega)
      have v1 := hv r1 (by omega) (by omega)
      refine g_aload_n XX d_CR_writeText_13 rfl 2 rfl ?_
      refine g_get (C := R_CR) (T := T_CR) (N := 2) XX (tmw win0_CR) 0 rfl rfl 0 (by decide) (tm kw_167) rfl rfl d_CR_writeText_14 ?_
      refine g_iload_n XX d_CR_writeText_17 rfl 1 rfl ?_
      refine g_iald XX 1 0 rfl rfl ⟨by omega, by omega, by decide⟩ d_CR_writeText_18 ?_
      refine g_bipush (v := -2) XX d_CR_writeText_19 (by decide) ?_
      refine g_icmp_ne (tgt := 26) XX d_CR_writeText_21 (by decide) ⟨by omega, by omega⟩ ⟨by omega, by omega⟩ (fun h21 => ?_) (fun h21 => ?_)
      · -- 21: yes
        refine g_aload_n XX d_CR_writeText_26 rfl 3 rfl ?_
        refine g_get (C := R_BR) (T := T_BR) (N := 2) XX (tmw win0_BR) 2 rfl rfl 0 (by decide) (tm kw_170) rfl rfl d_CR_writeText_27 ?_
        refine g_iload_n XX d_CR_writeText_30 rfl 0 rfl ?_
        refine g_aload_n XX d_CR_writeText_31 rfl 2 rfl ?_
        refine g_get (C := R_CR) (T := T_CR) (N := 2) XX (tmw win0_CR) 0 rfl rfl 0 (by decide) (tm kw_167) rfl rfl d_CR_writeText_32 ?_
        refine g_iload_n XX d_CR_writeText_35 rfl 1 rfl ?_
        refine g_iald XX 1 0 rfl rfl ⟨by omega, by omega, by decide⟩ d_CR_writeText_36 ?_
        refine g_iast (ws' := [cO h 1 [.ref a, .int (iI N)], cR a cA 97 co, cO k 0 [.ref b, .int (iI t)], cR b cA 96 (iup f2 p0 (co r1))]) XX 3 0 rfl rfl ⟨by omega, by omega, by decide⟩ rfl d_CR_writeText_37 ?_
        refine g_aload_n XX d_CR_writeText_38 rfl 2 rfl ?_
        refine g_iload_n XX d_CR_writeText_39 rfl 1 rfl ?_
        refine g_calli (As := [.int (iI r1)]) (st := []) (wr := [cO k 0 [.ref b, .int (iI t)], cR b cA 96 (iup f2 p0 (co r1))]) XX (c_CR_longer l D cA h a co C N r1 (by first | assumption | omega) (by first | assumption | omega) (by first | assumption | omega)) (x_cw 1 XX.2.2.2.2.1 (gi kw_171) rfl rfl (tm kw_28) (tm kw_172) (tm kw_173) (tm kw_174) ⟨by decide +kernel, by decide +kernel, by decide +kernel⟩ ⟨by decide, by decide⟩) [0, 1] [2, 3] rfl rfl (by decide) (by decide) (by decide) 0 1 rfl rfl rfl rfl (Nat.le_of_ble_eq_true rfl) d_CR_writeText_40 ⟨by decide, by decide⟩ (fun r_ w_ hq => ?_)
        obtain ⟨rfl, rfl⟩ := hq
        show xG P0 l E0 rm_CR_write S0 M0 A0 B0 T0 C0 QQ 4 D vwCl AA 0 0 [cO k 0 [.ref b, .int (iI t)], cR b cA 96 (iup f2 p0 (co r1)), cO h 1 [.ref a, .int (iI N)], cR a cA 97 co] 43 [(3, .int (iI p0)), (2, .int (iI r1)), (0, .ref h), (1, .ref k)] [.int (iI (lf C N r1))]
        refine g_istore_n (lv' := [(2, .int (iI (lf C N r1))), (3, .int (iI p0)), (0, .ref h), (1, .ref k)]) XX d_CR_writeText_43 rfl (by decide) rfl ?_
        refine g_iinc (lv' := [(3, .int (iI (p0 + (-1)))), (2, .int (iI (lf C N r1))), (0, .ref h), (1, .ref k)]) XX d_CR_writeText_44 1 rfl (by decide) rfl ?_
        refine g_goto (tgt := 9) XX d_CR_writeText_47 (by decide) ?_
        refine g_ws (ws' := [cO h 1 [.ref a, .int (iI N)], cR a cA 97 co, cO k 0 [.ref b, .int (iI t)], cR b cA 96 (iup f2 p0 (co r1))]) [2, 3, 0, 1] (by decide) rfl ?_
        exact ih_9 _ (by omega) (lf C N r1) (p0 + (-1)) (iup f2 p0 (co r1)) (by omega) (by rw [show N - 1 - (p0 + (-1)) = (N - 1 - p0) + 1 by omega, wk_s (by omega), h2]) (fun j a b => if z : j = p0 then by rw [iup_eq z, z, e1, h2]; rfl else by rw [iup_ne z]; exact h3 j (by omega) b) (fun i a b => if z : i = N - 1 - p0 then by rw [z, ← h2]; omega else h4 i a (by omega)) rfl
      · -- 21: no
        refine g_iconst XX d_CR_writeText_24 ?_
        exact ret _ _ _ _ [cO h 1 [.ref a, .int (iI N)], cR a cA 97 co, cO k 0 [.ref b, .int (iI t)], cR b cA 96 f2] [0, 1, 2, 3] (by first | exact Or.inl rfl | exact Or.inr rfl) d_CR_writeText_25 (by decide) rfl (⟨0, t, f2, rfl, rfl, Or.inr ⟨rfl, fun g => g (N - 1 - p0) (by omega) (by omega) (by rw [← h2]; omega)⟩⟩)
  exact L9 _ 0 (N - 1) f (by omega) (by rw [show N - 1 - (N - 1) = 0 by omega]; rfl) (fun j a b => by omega) (fun i a b => by omega) rfl
end
section
abbrev rm_CX_isSuffix : Room := { frames := 0, cells := 0, slots := 0, locals := 0 }
set_option maxHeartbeats 4000000 in
set_option maxRecDepth 100000 in
theorem c_CX_isSuffix (l : Launch) (D : va_G) (cA : ClassId) (x hT hX hP hO hF hR : Nat) (aX : Nat) (n i : Int) (hn : 0 ≤ n ∧ n ≤ 96) (hi : -2147483648 ≤ i ∧ i < 2147483648) : xM l y_CX_isSuffix w_CX_isSuffix rm_CX_isSuffix D vwCl [(cA, .int)] [.ref x, .int (iI i)] [cO x 4 [.ref hT, .ref hX, .ref hP, .ref hO, .ref hF, .ref hR], cO hX 0 [.ref aX, .int (iI n)]] (fun r w => r = iI (if 0 ≤ i ∧ i ≤ n then 1 else 0) ∧ w = [cO x 4 [.ref hT, .ref hX, .ref hP, .ref hO, .ref hF, .ref hR], cO hX 0 [.ref aX, .int (iI n)]]) 0 0 := by
  refine xM.ofZ (by decide) rfl (Nat.le_of_ble_eq_true rfl) ?_
  intro P0 E0 S0 M0 A0 B0 T0 C0 AA QQ XX hnm ret
  refine g_iload_n XX d_CX_isSuffix_0 rfl 1 rfl ?_
  refine g_if_lt (tgt := 19) XX d_CX_isSuffix_1 (by decide) ⟨by omega, by omega⟩ (fun h1 => ?_) (fun h1 => ?_)
  · -- 1: yes
    have hz : ¬ (0 ≤ i ∧ i ≤ n) := by omega
    refine g_iconst XX d_CX_isSuffix_19 ?_
    exact ret _ _ _ _ [cO x 4 [.ref hT, .ref hX, .ref hP, .ref hO, .ref hF, .ref hR], cO hX 0 [.ref aX, .int (iI n)]] [0, 1] (by first | exact Or.inl rfl | exact Or.inr rfl) d_CX_isSuffix_20 (by decide) rfl (⟨by first | rw [if_pos hz] | rw [if_neg hz], rfl⟩)
  · -- 1: no
    refine g_iload_n XX d_CX_isSuffix_4 rfl 1 rfl ?_
    refine g_aload_n XX d_CX_isSuffix_5 rfl 0 rfl ?_
    refine g_get (C := R_CX) (T := T_CX) (N := 6) XX (tmw win0_CX) 0 rfl rfl 1 (by decide) (tm kw_10) rfl rfl d_CX_isSuffix_6 ?_
    refine g_get (C := R_BR) (T := T_BR) (N := 2) XX (tmw win0_BR) 1 rfl rfl 1 (by decide) (tm kw_33) rfl rfl d_CX_isSuffix_9 ?_
    refine g_icmp_gt (tgt := 19) XX d_CX_isSuffix_12 (by decide) ⟨by omega, by omega⟩ ⟨by omega, by omega⟩ (fun h12 => ?_) (fun h12 => ?_)
    · -- 12: yes
      have hz : ¬ (0 ≤ i ∧ i ≤ n) := by omega
      refine g_iconst XX d_CX_isSuffix_19 ?_
      exact ret _ _ _ _ [cO x 4 [.ref hT, .ref hX, .ref hP, .ref hO, .ref hF, .ref hR], cO hX 0 [.ref aX, .int (iI n)]] [0, 1] (by first | exact Or.inl rfl | exact Or.inr rfl) d_CX_isSuffix_20 (by decide) rfl (⟨by first | rw [if_pos hz] | rw [if_neg hz], rfl⟩)
    · -- 12: no
      have hz : 0 ≤ i ∧ i ≤ n := by omega
      refine g_iconst XX d_CX_isSuffix_15 ?_
      refine g_goto (tgt := 20) XX d_CX_isSuffix_16 (by decide) ?_
      exact ret _ _ _ _ [cO x 4 [.ref hT, .ref hX, .ref hP, .ref hO, .ref hF, .ref hR], cO hX 0 [.ref aX, .int (iI n)]] [0, 1] (by first | exact Or.inl rfl | exact Or.inr rfl) d_CX_isSuffix_20 (by decide) rfl (⟨by first | rw [if_pos hz] | rw [if_neg hz], rfl⟩)
abbrev rm_CX_size : Room := { frames := 0, cells := 0, slots := 0, locals := 0 }
set_option maxHeartbeats 4000000 in
set_option maxRecDepth 100000 in
theorem c_CX_size (l : Launch) (D : va_G) (cA : ClassId) (x hT hX hP hO hF hR : Nat) (aX : Nat) (n : Int)  : xM l y_CX_size w_CX_size rm_CX_size D vwCl [(cA, .int)] [.ref x] [cO x 4 [.ref hT, .ref hX, .ref hP, .ref hO, .ref hF, .ref hR], cO hX 0 [.ref aX, .int (iI n)]] (fun r w => r = iI n ∧ w = [cO x 4 [.ref hT, .ref hX, .ref hP, .ref hO, .ref hF, .ref hR], cO hX 0 [.ref aX, .int (iI n)]]) 0 0 := by
  refine xM.ofI (by decide) rfl (Nat.le_of_ble_eq_true rfl) ?_
  intro P0 E0 S0 M0 A0 B0 T0 C0 AA QQ XX hnm ret
  refine g_aload_n XX d_CX_size_0 rfl 0 rfl ?_
  refine g_get (C := R_CX) (T := T_CX) (N := 6) XX (tmw win0_CX) 0 rfl rfl 1 (by decide) (tm kw_10) rfl rfl d_CX_size_1 ?_
  refine g_get (C := R_BR) (T := T_BR) (N := 2) XX (tmw win0_BR) 1 rfl rfl 1 (by decide) (tm kw_33) rfl rfl d_CX_size_4 ?_
  exact ret _ _ _ _ [cO x 4 [.ref hT, .ref hX, .ref hP, .ref hO, .ref hF, .ref hR], cO hX 0 [.ref aX, .int (iI n)]] [0, 1] d_CX_size_7 (by decide) rfl (⟨rfl, rfl⟩)
abbrev rm_CX_at : Room := { frames := 0, cells := 0, slots := 0, locals := 0 }
set_option maxHeartbeats 4000000 in
set_option maxRecDepth 100000 in
theorem c_CX_at (l : Launch) (D : va_G) (cA : ClassId) (x hT hX hP hO hF hR : Nat) (aX : Nat) (fX X : Int → Int) (n i : Int) (hn : 0 ≤ n ∧ n ≤ 96) (hi : -2147483648 ≤ i ∧ i < 2147483648) (hfX : ag fX X n) : xM l y_CX_at w_CX_at rm_CX_at D vwCl [(cA, .int)] [.ref x, .int (iI i)] [cO x 4 [.ref hT, .ref hX, .ref hP, .ref hO, .ref hF, .ref hR], cO hX 0 [.ref aX, .int (iI n)], cR aX cA 96 fX] (fun r w => r = iI (if 0 ≤ i ∧ i < n then X i else -1) ∧ w = [cO x 4 [.ref hT, .ref hX, .ref hP, .ref hO, .ref hF, .ref hR], cO hX 0 [.ref aX, .int (iI n)], cR aX cA 96 fX]) 0 0 := by
  refine xM.ofI (by decide) rfl (Nat.le_of_ble_eq_true rfl) ?_
  intro P0 E0 S0 M0 A0 B0 T0 C0 AA QQ XX hnm ret
  refine g_iload_n XX d_CX_at_0 rfl 1 rfl ?_
  refine g_if_lt (tgt := 27) XX d_CX_at_1 (by decide) ⟨by omega, by omega⟩ (fun h1 => ?_) (fun h1 => ?_)
  · -- 1: yes
    have hz : ¬ (0 ≤ i ∧ i < n) := by omega
    refine g_iconst XX d_CX_at_27 ?_
    exact ret _ _ _ _ [cO x 4 [.ref hT, .ref hX, .ref hP, .ref hO, .ref hF, .ref hR], cO hX 0 [.ref aX, .int (iI n)], cR aX cA 96 fX] [0, 1, 2] d_CX_at_28 (by decide) rfl (⟨by first | rw [if_pos hz, e1] | rw [if_neg hz], rfl⟩)
  · -- 1: no
    refine g_iload_n XX d_CX_at_4 rfl 1 rfl ?_
    refine g_aload_n XX d_CX_at_5 rfl 0 rfl ?_
    refine g_get (C := R_CX) (T := T_CX) (N := 6) XX (tmw win0_CX) 0 rfl rfl 1 (by decide) (tm kw_10) rfl rfl d_CX_at_6 ?_
    refine g_get (C := R_BR) (T := T_BR) (N := 2) XX (tmw win0_BR) 1 rfl rfl 1 (by decide) (tm kw_33) rfl rfl d_CX_at_9 ?_
    refine g_icmp_ge (tgt := 27) XX d_CX_at_12 (by decide) ⟨by omega, by omega⟩ ⟨by omega, by omega⟩ (fun h12 => ?_) (fun h12 => ?_)
    · -- 12: yes
      have hz : ¬ (0 ≤ i ∧ i < n) := by omega
      refine g_iconst XX d_CX_at_27 ?_
      exact ret _ _ _ _ [cO x 4 [.ref hT, .ref hX, .ref hP, .ref hO, .ref hF, .ref hR], cO hX 0 [.ref aX, .int (iI n)], cR aX cA 96 fX] [0, 1, 2] d_CX_at_28 (by decide) rfl (⟨by first | rw [if_pos hz, e1] | rw [if_neg hz], rfl⟩)
    · -- 12: no
      refine g_aload_n XX d_CX_at_15 rfl 0 rfl ?_
      refine g_get (C := R_CX) (T := T_CX) (N := 6) XX (tmw win0_CX) 0 rfl rfl 1 (by decide) (tm kw_10) rfl rfl d_CX_at_16 ?_
      refine g_get (C := R_BR) (T := T_BR) (N := 2) XX (tmw win0_BR) 1 rfl rfl 0 (by decide) (tm kw_51) rfl rfl d_CX_at_19 ?_
      refine g_iload_n XX d_CX_at_22 rfl 1 rfl ?_
      refine g_iald XX 2 0 rfl rfl ⟨by omega, by omega, by decide⟩ d_CX_at_23 ?_
      have hz : 0 ≤ i ∧ i < n := by omega
      have e1 := hfX i (by omega) (by omega)
      refine g_goto (tgt := 28) XX d_CX_at_24 (by decide) ?_
      exact ret _ _ _ _ [cO x 4 [.ref hT, .ref hX, .ref hP, .ref hO, .ref hF, .ref hR], cO hX 0 [.ref aX, .int (iI n)], cR aX cA 96 fX] [0, 1, 2] d_CX_at_28 (by decide) rfl (⟨by first | rw [if_pos hz, e1] | rw [if_neg hz], rfl⟩)
abbrev rm_CX_suffix : Room := { frames := 1, cells := 0, slots := 0, locals := 21 }
set_option maxHeartbeats 4000000 in
set_option maxRecDepth 100000 in
theorem c_CX_suffix (l : Launch) (D : va_G) (cA : ClassId) (x hT hX hP hO hF hR : Nat) (aX o1 o2 o3 o4 : Nat) (sa X : Int → Int) (n i : Int) (hn : 0 ≤ n ∧ n ≤ 96) (hi : -2147483648 ≤ i ∧ i < 2147483648) (ha : ag sa (og X n) (n + 1)) : xM l y_CX_suffix w_CX_suffix rm_CX_suffix D vwCl [(cA, .int)] [.ref x, .int (iI i)] [cO x 4 [.ref hT, .ref hX, .ref hP, .ref hO, .ref hF, .ref hR], cO hX 0 [.ref aX, .int (iI n)], cO hO 3 [.ref o1, .ref o2, .ref o3, .ref o4], cR o1 cA 97 sa] (fun r w => r = iI (if 0 ≤ i ∧ i ≤ n then og X n i else -1) ∧ w = [cO x 4 [.ref hT, .ref hX, .ref hP, .ref hO, .ref hF, .ref hR], cO hX 0 [.ref aX, .int (iI n)], cO hO 3 [.ref o1, .ref o2, .ref o3, .ref o4], cR o1 cA 97 sa]) 0 0 := by
  refine xM.ofI (by decide) rfl (Nat.le_of_ble_eq_true rfl) ?_
  intro P0 E0 S0 M0 A0 B0 T0 C0 AA QQ XX hnm ret
  refine g_aload_n XX d_CX_suffix_0 rfl 0 rfl ?_
  refine g_iload_n XX d_CX_suffix_1 rfl 1 rfl ?_
  refine g_calli (As := [.int (iI i)]) (st := []) (wr := [cO hO 3 [.ref o1, .ref o2, .ref o3, .ref o4], cR o1 cA 97 sa]) XX (c_CX_isSuffix l D cA x hT hX hP hO hF hR aX n i (by first | assumption | omega) (by first | assumption | omega)) (x_cw 1 XX.2.2.2.2.1 (gi kw_52) rfl rfl (tm kw_49) (tm kw_53) (tm kw_54) (tm kw_55) ⟨by decide +kernel, by decide +kernel, by decide +kernel⟩ ⟨by decide, by decide⟩) [0, 1] [2, 3] rfl rfl (by decide) (by decide) (by decide) 0 4 rfl rfl rfl rfl (Nat.le_of_ble_eq_true rfl) d_CX_suffix_2 ⟨by decide, by decide⟩ (fun r_ w_ hq => ?_)
  obtain ⟨rfl, rfl⟩ := hq
  show xG P0 l E0 rm_CX_suffix S0 M0 A0 B0 T0 C0 QQ 2 D vwCl AA 0 0 [cO hO 3 [.ref o1, .ref o2, .ref o3, .ref o4], cR o1 cA 97 sa, cO x 4 [.ref hT, .ref hX, .ref hP, .ref hO, .ref hF, .ref hR], cO hX 0 [.ref aX, .int (iI n)]] 5 [(0, .ref x), (1, .int (iI i))] [.int (iI (if 0 ≤ i ∧ i ≤ n then 1 else 0))]
  refine g_if_eq (tgt := 20) XX d_CX_suffix_5 (by decide) zi (fun h5 => ?_) (fun h5 => ?_)
  · -- 5: yes
    have hz := zi_0 h5
    refine g_iconst XX d_CX_suffix_20 ?_
    exact ret _ _ _ _ [cO x 4 [.ref hT, .ref hX, .ref hP, .ref hO, .ref hF, .ref hR], cO hX 0 [.ref aX, .int (iI n)], cO hO 3 [.ref o1, .ref o2, .ref o3, .ref o4], cR o1 cA 97 sa] [2, 3, 0, 1] d_CX_suffix_21 (by decide) rfl (⟨by first | rw [if_pos hz, e1] | rw [if_neg hz], rfl⟩)
  · -- 5: no
    have hz := zi_1 h5
    refine g_aload_n XX d_CX_suffix_8 rfl 0 rfl ?_
    refine g_get (C := R_CX) (T := T_CX) (N := 6) XX (tmw win0_CX) 2 rfl rfl 3 (by decide) (tm kw_18) rfl rfl d_CX_suffix_9 ?_
    refine g_get (C := R_SO) (T := T_SO) (N := 4) XX (tmw win0_SO) 0 rfl rfl 0 (by decide) (tm kw_56) rfl rfl d_CX_suffix_12 ?_
    refine g_iload_n XX d_CX_suffix_15 rfl 1 rfl ?_
    refine g_iald XX 1 0 rfl rfl ⟨by omega, by omega, by decide⟩ d_CX_suffix_16 ?_
    have e1 := ha i (by omega) (by omega)
    refine g_goto (tgt := 21) XX d_CX_suffix_17 (by decide) ?_
    exact ret _ _ _ _ [cO x 4 [.ref hT, .ref hX, .ref hP, .ref hO, .ref hF, .ref hR], cO hX 0 [.ref aX, .int (iI n)], cO hO 3 [.ref o1, .ref o2, .ref o3, .ref o4], cR o1 cA 97 sa] [2, 3, 0, 1] d_CX_suffix_21 (by decide) rfl (⟨by first | rw [if_pos hz, e1] | rw [if_neg hz], rfl⟩)
abbrev rm_CX_rank : Room := { frames := 1, cells := 0, slots := 0, locals := 21 }
set_option maxHeartbeats 4000000 in
set_option maxRecDepth 100000 in
theorem c_CX_rank (l : Launch) (D : va_G) (cA : ClassId) (x hT hX hP hO hF hR : Nat) (aX o1 o2 o3 o4 : Nat) (ro X : Int → Int) (n i : Int) (hn : 0 ≤ n ∧ n ≤ 96) (hi : -2147483648 ≤ i ∧ i < 2147483648) (ha : ag ro (rk X n) (n + 1)) : xM l y_CX_rank w_CX_rank rm_CX_rank D vwCl [(cA, .int)] [.ref x, .int (iI i)] [cO x 4 [.ref hT, .ref hX, .ref hP, .ref hO, .ref hF, .ref hR], cO hX 0 [.ref aX, .int (iI n)], cO hO 3 [.ref o1, .ref o2, .ref o3, .ref o4], cR o2 cA 97 ro] (fun r w => r = iI (if 0 ≤ i ∧ i ≤ n then rk X n i else -1) ∧ w = [cO x 4 [.ref hT, .ref hX, .ref hP, .ref hO, .ref hF, .ref hR], cO hX 0 [.ref aX, .int (iI n)], cO hO 3 [.ref o1, .ref o2, .ref o3, .ref o4], cR o2 cA 97 ro]) 0 0 := by
  refine xM.ofI (by decide) rfl (Nat.le_of_ble_eq_true rfl) ?_
  intro P0 E0 S0 M0 A0 B0 T0 C0 AA QQ XX hnm ret
  refine g_aload_n XX d_CX_rank_0 rfl 0 rfl ?_
  refine g_iload_n XX d_CX_rank_1 rfl 1 rfl ?_
  refine g_calli (As := [.int (iI i)]) (st := []) (wr := [cO hO 3 [.ref o1, .ref o2, .ref o3, .ref o4], cR o2 cA 97 ro]) XX (c_CX_isSuffix l D cA x hT hX hP hO hF hR aX n i (by first | assumption | omega) (by first | assumption | omega)) (x_cw 1 XX.2.2.2.2.1 (gi kw_52) rfl rfl (tm kw_49) (tm kw_53) (tm kw_54) (tm kw_55) ⟨by decide +kernel, by decide +kernel, by decide +kernel⟩ ⟨by decide, by decide⟩) [0, 1] [2, 3] rfl rfl (by decide) (by decide) (by decide) 0 4 rfl rfl rfl rfl (Nat.le_of_ble_eq_true rfl) d_CX_rank_2 ⟨by decide, by decide⟩ (fun r_ w_ hq => ?_)
  obtain ⟨rfl, rfl⟩ := hq
  show xG P0 l E0 rm_CX_rank S0 M0 A0 B0 T0 C0 QQ 2 D vwCl AA 0 0 [cO hO 3 [.ref o1, .ref o2, .ref o3, .ref o4], cR o2 cA 97 ro, cO x 4 [.ref hT, .ref hX, .ref hP, .ref hO, .ref hF, .ref hR], cO hX 0 [.ref aX, .int (iI n)]] 5 [(0, .ref x), (1, .int (iI i))] [.int (iI (if 0 ≤ i ∧ i ≤ n then 1 else 0))]
  refine g_if_eq (tgt := 20) XX d_CX_rank_5 (by decide) zi (fun h5 => ?_) (fun h5 => ?_)
  · -- 5: yes
    have hz := zi_0 h5
    refine g_iconst XX d_CX_rank_20 ?_
    exact ret _ _ _ _ [cO x 4 [.ref hT, .ref hX, .ref hP, .ref hO, .ref hF, .ref hR], cO hX 0 [.ref aX, .int (iI n)], cO hO 3 [.ref o1, .ref o2, .ref o3, .ref o4], cR o2 cA 97 ro] [2, 3, 0, 1] d_CX_rank_21 (by decide) rfl (⟨by first | rw [if_pos hz, e1] | rw [if_neg hz], rfl⟩)
  · -- 5: no
    have hz := zi_1 h5
    refine g_aload_n XX d_CX_rank_8 rfl 0 rfl ?_
    refine g_get (C := R_CX) (T := T_CX) (N := 6) XX (tmw win0_CX) 2 rfl rfl 3 (by decide) (tm kw_18) rfl rfl d_CX_rank_9 ?_
    refine g_get (C := R_SO) (T := T_SO) (N := 4) XX (tmw win0_SO) 0 rfl rfl 1 (by decide) (tm kw_57) rfl rfl d_CX_rank_12 ?_
    refine g_iload_n XX d_CX_rank_15 rfl 1 rfl ?_
    refine g_iald XX 1 0 rfl rfl ⟨by omega, by omega, by decide⟩ d_CX_rank_16 ?_
    have e1 := ha i (by omega) (by omega)
    refine g_goto (tgt := 21) XX d_CX_rank_17 (by decide) ?_
    exact ret _ _ _ _ [cO x 4 [.ref hT, .ref hX, .ref hP, .ref hO, .ref hF, .ref hR], cO hX 0 [.ref aX, .int (iI n)], cO hO 3 [.ref o1, .ref o2, .ref o3, .ref o4], cR o2 cA 97 ro] [2, 3, 0, 1] d_CX_rank_21 (by decide) rfl (⟨by first | rw [if_pos hz, e1] | rw [if_neg hz], rfl⟩)
abbrev rm_CX_column : Room := { frames := 1, cells := 0, slots := 0, locals := 21 }
set_option maxHeartbeats 4000000 in
set_option maxRecDepth 100000 in
theorem c_CX_column (l : Launch) (D : va_G) (cA : ClassId) (x hT hX hP hO hF hR : Nat) (aX o1 o2 o3 o4 : Nat) (cl X : Int → Int) (n i : Int) (hn : 0 ≤ n ∧ n ≤ 96) (hi : -2147483648 ≤ i ∧ i < 2147483648) (ha : ag cl (cX X n) (n + 1)) : xM l y_CX_column w_CX_column rm_CX_column D vwCl [(cA, .int)] [.ref x, .int (iI i)] [cO x 4 [.ref hT, .ref hX, .ref hP, .ref hO, .ref hF, .ref hR], cO hX 0 [.ref aX, .int (iI n)], cO hO 3 [.ref o1, .ref o2, .ref o3, .ref o4], cR o4 cA 97 cl] (fun r w => r = iI (if 0 ≤ i ∧ i ≤ n then cX X n i else -1) ∧ w = [cO x 4 [.ref hT, .ref hX, .ref hP, .ref hO, .ref hF, .ref hR], cO hX 0 [.ref aX, .int (iI n)], cO hO 3 [.ref o1, .ref o2, .ref o3, .ref o4], cR o4 cA 97 cl]) 0 0 := by
  refine xM.ofI (by decide) rfl (Nat.le_of_ble_eq_true rfl) ?_
  intro P0 E0 S0 M0 A0 B0 T0 C0 AA QQ XX hnm ret
  refine g_aload_n XX d_CX_column_0 rfl 0 rfl ?_
  refine g_iload_n XX d_CX_column_1 rfl 1 rfl ?_
  refine g_calli (As := [.int (iI i)]) (st := []) (wr := [cO hO 3 [.ref o1, .ref o2, .ref o3, .ref o4], cR o4 cA 97 cl]) XX (c_CX_isSuffix l D cA x hT hX hP hO hF hR aX n i (by first | assumption | omega) (by first | assumption | omega)) (x_cw 1 XX.2.2.2.2.1 (gi kw_52) rfl rfl (tm kw_49) (tm kw_53) (tm kw_54) (tm kw_55) ⟨by decide +kernel, by decide +kernel, by decide +kernel⟩ ⟨by decide, by decide⟩) [0, 1] [2, 3] rfl rfl (by decide) (by decide) (by decide) 0 4 rfl rfl rfl rfl (Nat.le_of_ble_eq_true rfl) d_CX_column_2 ⟨by decide, by decide⟩ (fun r_ w_ hq => ?_)
  obtain ⟨rfl, rfl⟩ := hq
  show xG P0 l E0 rm_CX_column S0 M0 A0 B0 T0 C0 QQ 2 D vwCl AA 0 0 [cO hO 3 [.ref o1, .ref o2, .ref o3, .ref o4], cR o4 cA 97 cl, cO x 4 [.ref hT, .ref hX, .ref hP, .ref hO, .ref hF, .ref hR], cO hX 0 [.ref aX, .int (iI n)]] 5 [(0, .ref x), (1, .int (iI i))] [.int (iI (if 0 ≤ i ∧ i ≤ n then 1 else 0))]
  refine g_if_eq (tgt := 20) XX d_CX_column_5 (by decide) zi (fun h5 => ?_) (fun h5 => ?_)
  · -- 5: yes
    have hz := zi_0 h5
    refine g_iconst XX d_CX_column_20 ?_
    exact ret _ _ _ _ [cO x 4 [.ref hT, .ref hX, .ref hP, .ref hO, .ref hF, .ref hR], cO hX 0 [.ref aX, .int (iI n)], cO hO 3 [.ref o1, .ref o2, .ref o3, .ref o4], cR o4 cA 97 cl] [2, 3, 0, 1] d_CX_column_21 (by decide) rfl (⟨by first | rw [if_pos hz, e1] | rw [if_neg hz], rfl⟩)
  · -- 5: no
    have hz := zi_1 h5
    refine g_aload_n XX d_CX_column_8 rfl 0 rfl ?_
    refine g_get (C := R_CX) (T := T_CX) (N := 6) XX (tmw win0_CX) 2 rfl rfl 3 (by decide) (tm kw_18) rfl rfl d_CX_column_9 ?_
    refine g_get (C := R_SO) (T := T_SO) (N := 4) XX (tmw win0_SO) 0 rfl rfl 3 (by decide) (tm kw_58) rfl rfl d_CX_column_12 ?_
    refine g_iload_n XX d_CX_column_15 rfl 1 rfl ?_
    refine g_iald XX 1 0 rfl rfl ⟨by omega, by omega, by decide⟩ d_CX_column_16 ?_
    have e1 := ha i (by omega) (by omega)
    refine g_goto (tgt := 21) XX d_CX_column_17 (by decide) ?_
    exact ret _ _ _ _ [cO x 4 [.ref hT, .ref hX, .ref hP, .ref hO, .ref hF, .ref hR], cO hX 0 [.ref aX, .int (iI n)], cO hO 3 [.ref o1, .ref o2, .ref o3, .ref o4], cR o4 cA 97 cl] [2, 3, 0, 1] d_CX_column_21 (by decide) rfl (⟨by first | rw [if_pos hz, e1] | rw [if_neg hz], rfl⟩)
abbrev rm_CX_moved : Room := { frames := 1, cells := 0, slots := 0, locals := 21 }
set_option maxHeartbeats 4000000 in
set_option maxRecDepth 100000 in
theorem c_CX_moved (l : Launch) (D : va_G) (cA : ClassId) (x hT hX hP hO hF hR : Nat) (aX n1 l1 : Nat) (nu X : Int → Int) (n i : Int) (hn : 0 ≤ n ∧ n ≤ 96) (hi : -2147483648 ≤ i ∧ i < 2147483648) (ha : ag nu (mN (cX X n)) (n + 1)) : xM l y_CX_moved w_CX_moved rm_CX_moved D vwCl [(cA, .int)] [.ref x, .int (iI i)] [cO x 4 [.ref hT, .ref hX, .ref hP, .ref hO, .ref hF, .ref hR], cO hX 0 [.ref aX, .int (iI n)], cO hF 2 [.ref n1, .ref l1], cR n1 cA 97 nu] (fun r w => r = iI (if 0 ≤ i ∧ i ≤ n then mN (cX X n) i else -1) ∧ w = [cO x 4 [.ref hT, .ref hX, .ref hP, .ref hO, .ref hF, .ref hR], cO hX 0 [.ref aX, .int (iI n)], cO hF 2 [.ref n1, .ref l1], cR n1 cA 97 nu]) 0 0 := by
  refine xM.ofI (by decide) rfl (Nat.le_of_ble_eq_true rfl) ?_
  intro P0 E0 S0 M0 A0 B0 T0 C0 AA QQ XX hnm ret
  refine g_aload_n XX d_CX_moved_0 rfl 0 rfl ?_
  refine g_iload_n XX d_CX_moved_1 rfl 1 rfl ?_
  refine g_calli (As := [.int (iI i)]) (st := []) (wr := [cO hF 2 [.ref n1, .ref l1], cR n1 cA 97 nu]) XX (c_CX_isSuffix l D cA x hT hX hP hO hF hR aX n i (by first | assumption | omega) (by first | assumption | omega)) (x_cw 1 XX.2.2.2.2.1 (gi kw_52) rfl rfl (tm kw_49) (tm kw_53) (tm kw_54) (tm kw_55) ⟨by decide +kernel, by decide +kernel, by decide +kernel⟩ ⟨by decide, by decide⟩) [0, 1] [2, 3] rfl rfl (by decide) (by decide) (by decide) 0 4 rfl rfl rfl rfl (Nat.le_of_ble_eq_true rfl) d_CX_moved_2 ⟨by decide, by decide⟩ (fun r_ w_ hq => ?_)
  obtain ⟨rfl, rfl⟩ := hq
  show xG P0 l E0 rm_CX_moved S0 M0 A0 B0 T0 C0 QQ 2 D vwCl AA 0 0 [cO hF 2 [.ref n1, .ref l1], cR n1 cA 97 nu, cO x 4 [.ref hT, .ref hX, .ref hP, .ref hO, .ref hF, .ref hR], cO hX 0 [.ref aX, .int (iI n)]] 5 [(0, .ref x), (1, .int (iI i))] [.int (iI (if 0 ≤ i ∧ i ≤ n then 1 else 0))]
  refine g_if_eq (tgt := 20) XX d_CX_moved_5 (by decide) zi (fun h5 => ?_) (fun h5 => ?_)
  · -- 5: yes
    have hz := zi_0 h5
    refine g_iconst XX d_CX_moved_20 ?_
    exact ret _ _ _ _ [cO x 4 [.ref hT, .ref hX, .ref hP, .ref hO, .ref hF, .ref hR], cO hX 0 [.ref aX, .int (iI n)], cO hF 2 [.ref n1, .ref l1], cR n1 cA 97 nu] [2, 3, 0, 1] d_CX_moved_21 (by decide) rfl (⟨by first | rw [if_pos hz, e1] | rw [if_neg hz], rfl⟩)
  · -- 5: no
    have hz := zi_1 h5
    refine g_aload_n XX d_CX_moved_8 rfl 0 rfl ?_
    refine g_get (C := R_CX) (T := T_CX) (N := 6) XX (tmw win0_CX) 2 rfl rfl 4 (by decide) (tm kw_25) rfl rfl d_CX_moved_9 ?_
    refine g_get (C := R_FL) (T := T_FL) (N := 2) XX (tmw win0_FL) 0 rfl rfl 0 (by decide) (tm kw_60) rfl rfl d_CX_moved_12 ?_
    refine g_iload_n XX d_CX_moved_15 rfl 1 rfl ?_
    refine g_iald XX 1 0 rfl rfl ⟨by omega, by omega, by decide⟩ d_CX_moved_16 ?_
    have e1 := ha i (by omega) (by omega)
    refine g_goto (tgt := 21) XX d_CX_moved_17 (by decide) ?_
    exact ret _ _ _ _ [cO x 4 [.ref hT, .ref hX, .ref hP, .ref hO, .ref hF, .ref hR], cO hX 0 [.ref aX, .int (iI n)], cO hF 2 [.ref n1, .ref l1], cR n1 cA 97 nu] [2, 3, 0, 1] d_CX_moved_21 (by decide) rfl (⟨by first | rw [if_pos hz, e1] | rw [if_neg hz], rfl⟩)
abbrev rm_CX_common : Room := { frames := 0, cells := 0, slots := 0, locals := 0 }
set_option maxHeartbeats 4000000 in
set_option maxRecDepth 100000 in
theorem c_CX_common (l : Launch) (D : va_G) (cA : ClassId) (x hT hX hP hO hF hR : Nat) (aX o1 o2 o3 o4 : Nat) (co X : Int → Int) (n i : Int) (hn : 0 ≤ n ∧ n ≤ 96) (hi : -2147483648 ≤ i ∧ i < 2147483648) (ha : ag co (cm X n) n) : xM l y_CX_common w_CX_common rm_CX_common D vwCl [(cA, .int)] [.ref x, .int (iI i)] [cO x 4 [.ref hT, .ref hX, .ref hP, .ref hO, .ref hF, .ref hR], cO hX 0 [.ref aX, .int (iI n)], cO hO 3 [.ref o1, .ref o2, .ref o3, .ref o4], cR o3 cA 96 co] (fun r w => r = iI (if 0 ≤ i ∧ i < n then cm X n i else -1) ∧ w = [cO x 4 [.ref hT, .ref hX, .ref hP, .ref hO, .ref hF, .ref hR], cO hX 0 [.ref aX, .int (iI n)], cO hO 3 [.ref o1, .ref o2, .ref o3, .ref o4], cR o3 cA 96 co]) 0 0 := by
  refine xM.ofI (by decide) rfl (Nat.le_of_ble_eq_true rfl) ?_
  intro P0 E0 S0 M0 A0 B0 T0 C0 AA QQ XX hnm ret
  refine g_iload_n XX d_CX_common_0 rfl 1 rfl ?_
  refine g_if_lt (tgt := 27) XX d_CX_common_1 (by decide) ⟨by omega, by omega⟩ (fun h1 => ?_) (fun h1 => ?_)
  · -- 1: yes
    have hz : ¬ (0 ≤ i ∧ i < n) := by omega
    refine g_iconst XX d_CX_common_27 ?_
    exact ret _ _ _ _ [cO x 4 [.ref hT, .ref hX, .ref hP, .ref hO, .ref hF, .ref hR], cO hX 0 [.ref aX, .int (iI n)], cO hO 3 [.ref o1, .ref o2, .ref o3, .ref o4], cR o3 cA 96 co] [0, 1, 2, 3] d_CX_common_28 (by decide) rfl (⟨by first | rw [if_pos hz, e1] | rw [if_neg hz], rfl⟩)
  · -- 1: no
    refine g_iload_n XX d_CX_common_4 rfl 1 rfl ?_
    refine g_aload_n XX d_CX_common_5 rfl 0 rfl ?_
    refine g_get (C := R_CX) (T := T_CX) (N := 6) XX (tmw win0_CX) 0 rfl rfl 1 (by decide) (tm kw_10) rfl rfl d_CX_common_6 ?_
    refine g_get (C := R_BR) (T := T_BR) (N := 2) XX (tmw win0_BR) 1 rfl rfl 1 (by decide) (tm kw_33) rfl rfl d_CX_common_9 ?_
    refine g_icmp_ge (tgt := 27) XX d_CX_common_12 (by decide) ⟨by omega, by omega⟩ ⟨by omega, by omega⟩ (fun h12 => ?_) (fun h12 => ?_)
    · -- 12: yes
      have hz : ¬ (0 ≤ i ∧ i < n) := by omega
      refine g_iconst XX d_CX_common_27 ?_
      exact ret _ _ _ _ [cO x 4 [.ref hT, .ref hX, .ref hP, .ref hO, .ref hF, .ref hR], cO hX 0 [.ref aX, .int (iI n)], cO hO 3 [.ref o1, .ref o2, .ref o3, .ref o4], cR o3 cA 96 co] [0, 1, 2, 3] d_CX_common_28 (by decide) rfl (⟨by first | rw [if_pos hz, e1] | rw [if_neg hz], rfl⟩)
    · -- 12: no
      refine g_aload_n XX d_CX_common_15 rfl 0 rfl ?_
      refine g_get (C := R_CX) (T := T_CX) (N := 6) XX (tmw win0_CX) 0 rfl rfl 3 (by decide) (tm kw_18) rfl rfl d_CX_common_16 ?_
      refine g_get (C := R_SO) (T := T_SO) (N := 4) XX (tmw win0_SO) 2 rfl rfl 2 (by decide) (tm kw_59) rfl rfl d_CX_common_19 ?_
      refine g_iload_n XX d_CX_common_22 rfl 1 rfl ?_
      refine g_iald XX 3 0 rfl rfl ⟨by omega, by omega, by decide⟩ d_CX_common_23 ?_
      have hz : 0 ≤ i ∧ i < n := by omega
      have e1 := ha i (by omega) (by omega)
      refine g_goto (tgt := 28) XX d_CX_common_24 (by decide) ?_
      exact ret _ _ _ _ [cO x 4 [.ref hT, .ref hX, .ref hP, .ref hO, .ref hF, .ref hR], cO hX 0 [.ref aX, .int (iI n)], cO hO 3 [.ref o1, .ref o2, .ref o3, .ref o4], cR o3 cA 96 co] [0, 1, 2, 3] d_CX_common_28 (by decide) rfl (⟨by first | rw [if_pos hz, e1] | rw [if_neg hz], rfl⟩)
abbrev rm_CX_distinct : Room := { frames := 0, cells := 0, slots := 0, locals := 0 }
set_option maxHeartbeats 4000000 in
set_option maxRecDepth 100000 in
theorem c_CX_distinct (l : Launch) (D : va_G) (cA : ClassId) (x hT hX hP hO hF hR : Nat) (aX o1 o2 o3 o4 : Nat) (sa co X : Int → Int) (n : Int) (hn : 0 ≤ n ∧ n ≤ 96) (hsa : ag sa (og X n) (n + 1)) (hco : ag co (cm X n) n) : xM l y_CX_distinct w_CX_distinct rm_CX_distinct D vwCl [(cA, .int)] [.ref x] [cO x 4 [.ref hT, .ref hX, .ref hP, .ref hO, .ref hF, .ref hR], cO hX 0 [.ref aX, .int (iI n)], cO hO 3 [.ref o1, .ref o2, .ref o3, .ref o4], cR o1 cA 97 sa, cR o3 cA 96 co] (fun r w => r = iI (sm (fun r => n - og X n (r + 1) - cm X n r) n) ∧ w = [cO x 4 [.ref hT, .ref hX, .ref hP, .ref hO, .ref hF, .ref hR], cO hX 0 [.ref aX, .int (iI n)], cO hO 3 [.ref o1, .ref o2, .ref o3, .ref o4], cR o1 cA 97 sa, cR o3 cA 96 co]) 0 0 := by
  refine xM.ofI (by decide) rfl (Nat.le_of_ble_eq_true rfl) ?_
  intro P0 E0 S0 M0 A0 B0 T0 C0 AA QQ XX hnm ret
  refine g_iconst XX d_CX_distinct_0 ?_
  refine g_istore_n (lv' := [(1, .int (iI 0)), (0, .ref x)]) XX d_CX_distinct_1 rfl (by decide) rfl ?_
  refine g_iconst XX d_CX_distinct_2 ?_
  refine g_istore_n (lv' := [(2, .int (iI 0)), (1, .int (iI 0)), (0, .ref x)]) XX d_CX_distinct_3 rfl (by decide) rfl ?_
  have L4 : ∀ (k_4 : Nat) (c0 : Int) (r0 : Int), (0 ≤ r0 ∧ r0 ≤ n) → (c0 = sm (fun r => n - og X n (r + 1) - cm X n r) r0) → (n - r0).toNat = k_4 → xG P0 l E0 rm_CX_distinct S0 M0 A0 B0 T0 C0 QQ 4 D vwCl AA 0 0 [cO x 4 [.ref hT, .ref hX, .ref hP, .ref hO, .ref hF, .ref hR], cO hX 0 [.ref aX, .int (iI n)], cO hO 3 [.ref o1, .ref o2, .ref o3, .ref o4], cR o1 cA 97 sa, cR o3 cA 96 co] 4 [(2, .int (iI r0)), (1, .int (iI c0)), (0, .ref x)] [] := by
    refine x_ind (fun k_4 ih_4 c0 r0 h1 h2 hk_4 => ?_)
    refine g_iload_n XX d_CX_distinct_4 rfl 0 rfl ?_
    refine g_aload_n XX d_CX_distinct_5 rfl 2 rfl ?_
    refine g_get (C := R_CX) (T := T_CX) (N := 6) XX (tmw win0_CX) 0 rfl rfl 1 (by decide) (tm kw_10) rfl rfl d_CX_distinct_6 ?_
    refine g_get (C := R_BR) (T := T_BR) (N := 2) XX (tmw win0_BR) 1 rfl rfl 1 (by decide) (tm kw_33) rfl rfl d_CX_distinct_9 ?_
    refine g_icmp_ge (tgt := 55) XX d_CX_distinct_12 (by decide) ⟨by omega, by omega⟩ ⟨by omega, by omega⟩ (fun h12 => ?_) (fun h12 => ?_)
    · -- 12: yes
      refine g_iload_n XX d_CX_distinct_55 rfl 1 rfl ?_
      exact ret _ _ _ _ [cO x 4 [.ref hT, .ref hX, .ref hP, .ref hO, .ref hF, .ref hR], cO hX 0 [.ref aX, .int (iI n)], cO hO 3 [.ref o1, .ref o2, .ref o3, .ref o4], cR o1 cA 97 sa, cR o3 cA 96 co] [0, 1, 2, 3, 4] d_CX_distinct_56 (by decide) rfl (⟨by rw [h2, show r0 = n by omega], rfl⟩)
    · -- 12: no
      refine g_aload_n XX d_CX_distinct_15 rfl 2 rfl ?_
      refine g_get (C := R_CX) (T := T_CX) (N := 6) XX (tmw win0_CX) 0 rfl rfl 3 (by decide) (tm kw_18) rfl rfl d_CX_distinct_16 ?_
      refine g_get (C := R_SO) (T := T_SO) (N := 4) XX (tmw win0_SO) 2 rfl rfl 0 (by decide) (tm kw_56) rfl rfl d_CX_distinct_19 ?_
      refine g_iload_n XX d_CX_distinct_22 rfl 0 rfl ?_
      refine g_iconst XX d_CX_distinct_23 ?_
      refine g_iadd XX d_CX_distinct_24 ?_
      refine g_iald XX 3 0 rfl rfl ⟨by omega, by omega, by decide⟩ d_CX_distinct_25 ?_
      refine g_istore_n (lv' := [(3, .int (iI (sa (r0 + 1)))), (2, .int (iI r0)), (1, .int (iI c0)), (0, .ref x)]) XX d_CX_distinct_26 rfl (by decide) rfl ?_
      refine g_iload_n XX d_CX_distinct_27 rfl 2 rfl ?_
      refine g_aload_n XX d_CX_distinct_28 rfl 3 rfl ?_
      refine g_get (C := R_CX) (T := T_CX) (N := 6) XX (tmw win0_CX) 0 rfl rfl 1 (by decide) (tm kw_10) rfl rfl d_CX_distinct_29 ?_
      refine g_get (C := R_BR) (T := T_BR) (N := 2) XX (tmw win0_BR) 1 rfl rfl 1 (by decide) (tm kw_33) rfl rfl d_CX_distinct_32 ?_
      refine g_iload_n XX d_CX_distinct_35 rfl 0 rfl ?_
      refine g_isub XX d_CX_distinct_36 ?_
      refine g_aload_n XX d_CX_distinct_37 rfl 3 rfl ?_
      refine g_get (C := R_CX) (T := T_CX) (N := 6) XX (tmw win0_CX) 0 rfl rfl 3 (by decide) (tm kw_18) rfl rfl d_CX_distinct_38 ?_
      refine g_get (C := R_SO) (T := T_SO) (N := 4) XX (tmw win0_SO) 2 rfl rfl 2 (by decide) (tm kw_59) rfl rfl d_CX_distinct_41 ?_
      refine g_iload_n XX d_CX_distinct_44 rfl 1 rfl ?_
      refine g_iald XX 4 0 rfl rfl ⟨by omega, by omega, by decide⟩ d_CX_distinct_45 ?_
      refine g_isub XX d_CX_distinct_46 ?_
      refine g_iadd XX d_CX_distinct_47 ?_
      refine g_istore_n (lv' := [(1, .int (iI (c0 + ((n - (sa (r0 + 1))) - (co r0))))), (3, .int (iI (sa (r0 + 1)))), (2, .int (iI r0)), (0, .ref x)]) XX d_CX_distinct_48 rfl (by decide) rfl ?_
      refine g_iinc (lv' := [(2, .int (iI (r0 + 1))), (1, .int (iI (c0 + ((n - (sa (r0 + 1))) - (co r0))))), (3, .int (iI (sa (r0 + 1)))), (0, .ref x)]) XX d_CX_distinct_49 2 rfl (by decide) rfl ?_
      refine g_goto (tgt := 4) XX d_CX_distinct_52 (by decide) ?_
      refine g_lv (lv' := [(2, .int (iI (r0 + 1))), (1, .int (iI (c0 + ((n - (sa (r0 + 1))) - (co r0))))), (0, .ref x)]) [0, 1, 3] rfl ?_
      exact ih_4 _ (by omega) (c0 + ((n - (sa (r0 + 1))) - (co r0))) (r0 + 1) (by omega) (by rw [sm_s (by omega), ← h2, hsa (r0 + 1) (by omega) (by omega), hco r0 (by omega) (by omega)]) rfl
  exact L4 _ 0 0 (by omega) (rfl) rfl
abbrev rm_CX_repeat : Room := { frames := 1, cells := 0, slots := 0, locals := 21 }
set_option maxHeartbeats 4000000 in
set_option maxRecDepth 100000 in
theorem c_CX_repeat (l : Launch) (D : va_G) (cA : ClassId) (x hT hX hP hO hF hR : Nat) (aX o1 o2 o3 o4 : Nat) (sa co X : Int → Int) (n : Int) (hn : 0 ≤ n ∧ n ≤ 96) (hsa : ag sa (og X n) (n + 1)) (hco : ag co (cm X n) n) : xM l y_CX_repeat w_CX_repeat rm_CX_repeat D vwCl [(cA, .int)] [.ref x] [cO x 4 [.ref hT, .ref hX, .ref hP, .ref hO, .ref hF, .ref hR], cO hX 0 [.ref aX, .int (iI n)], cO hO 3 [.ref o1, .ref o2, .ref o3, .ref o4], cR o1 cA 97 sa, cR o3 cA 96 co] (fun r w => r = iI (rpt X n) ∧ w = [cO x 4 [.ref hT, .ref hX, .ref hP, .ref hO, .ref hF, .ref hR], cO hX 0 [.ref aX, .int (iI n)], cO hO 3 [.ref o1, .ref o2, .ref o3, .ref o4], cR o1 cA 97 sa, cR o3 cA 96 co]) 0 0 := by
  refine xM.ofI (by decide) rfl (Nat.le_of_ble_eq_true rfl) ?_
  intro P0 E0 S0 M0 A0 B0 T0 C0 AA QQ XX hnm ret
  refine g_iconst XX d_CX_repeat_0 ?_
  refine g_istore_n (lv' := [(1, .int (iI 0)), (0, .ref x)]) XX d_CX_repeat_1 rfl (by decide) rfl ?_
  refine g_iconst XX d_CX_repeat_2 ?_
  refine g_istore_n (lv' := [(2, .int (iI 0)), (1, .int (iI 0)), (0, .ref x)]) XX d_CX_repeat_3 rfl (by decide) rfl ?_
  refine g_iconst XX d_CX_repeat_4 ?_
  refine g_istore_n (lv' := [(3, .int (iI 0)), (2, .int (iI 0)), (1, .int (iI 0)), (0, .ref x)]) XX d_CX_repeat_5 rfl (by decide) rfl ?_
  have L6 : ∀ (k_6 : Nat) (b0 : Int) (l0 : Int) (r0 : Int), (0 ≤ r0 ∧ r0 ≤ n) → ((b0, l0) = rb (cm X n) (fun r => min (og X n r) (og X n (r + 1))) r0) → (n - r0).toNat = k_6 → xG P0 l E0 rm_CX_repeat S0 M0 A0 B0 T0 C0 QQ 6 D vwCl AA 0 0 [cO x 4 [.ref hT, .ref hX, .ref hP, .ref hO, .ref hF, .ref hR], cO hX 0 [.ref aX, .int (iI n)], cO hO 3 [.ref o1, .ref o2, .ref o3, .ref o4], cR o1 cA 97 sa, cR o3 cA 96 co] 6 [(3, .int (iI r0)), (2, .int (iI l0)), (1, .int (iI b0)), (0, .ref x)] [] := by
    refine x_ind (fun k_6 ih_6 b0 l0 r0 h1 h2 hk_6 => ?_)
    have rr := rpt_rng hn h1.1 h1.2 h2
    refine g_iload_n XX d_CX_repeat_6 rfl 0 rfl ?_
    refine g_aload_n XX d_CX_repeat_7 rfl 3 rfl ?_
    refine g_get (C := R_CX) (T := T_CX) (N := 6) XX (tmw win0_CX) 0 rfl rfl 1 (by decide) (tm kw_10) rfl rfl d_CX_repeat_8 ?_
    refine g_get (C := R_BR) (T := T_BR) (N := 2) XX (tmw win0_BR) 1 rfl rfl 1 (by decide) (tm kw_33) rfl rfl d_CX_repeat_11 ?_
    refine g_icmp_ge (tgt := 83) XX d_CX_repeat_14 (by decide) ⟨by omega, by omega⟩ ⟨by omega, by omega⟩ (fun h14 => ?_) (fun h14 => ?_)
    · -- 14: yes
      have hb : rb (cm X n) (fun r => min (og X n r) (og X n (r + 1))) n = (b0, l0) := by rw [h2, show r0 = n by omega]
      refine g_iload_n XX d_CX_repeat_83 rfl 2 rfl ?_
      refine g_if_ne (tgt := 91) XX d_CX_repeat_84 (by decide) ⟨by omega, by omega⟩ (fun h84 => ?_) (fun h84 => ?_)
      · -- 84: yes
        refine g_sipush (v := 128) XX d_CX_repeat_91 (by decide) ?_
        refine g_iload_n XX d_CX_repeat_94 rfl 2 rfl ?_
        refine g_imul XX d_CX_repeat_95 ?_
        refine g_iload_n XX d_CX_repeat_96 rfl 1 rfl ?_
        refine g_iadd XX d_CX_repeat_97 ?_
        exact ret _ _ _ _ [cO x 4 [.ref hT, .ref hX, .ref hP, .ref hO, .ref hF, .ref hR], cO hX 0 [.ref aX, .int (iI n)], cO hO 3 [.ref o1, .ref o2, .ref o3, .ref o4], cR o1 cA 97 sa, cR o3 cA 96 co] [0, 1, 2, 3, 4] d_CX_repeat_98 (by decide) rfl (⟨by first | rw [rpt_0 hb h84] | rw [rpt_1 hb h84], rfl⟩)
      · -- 84: no
        refine g_iconst XX d_CX_repeat_87 ?_
        refine g_goto (tgt := 98) XX d_CX_repeat_88 (by decide) ?_
        exact ret _ _ _ _ [cO x 4 [.ref hT, .ref hX, .ref hP, .ref hO, .ref hF, .ref hR], cO hX 0 [.ref aX, .int (iI n)], cO hO 3 [.ref o1, .ref o2, .ref o3, .ref o4], cR o1 cA 97 sa, cR o3 cA 96 co] [0, 1, 2, 3, 4] d_CX_repeat_98 (by decide) rfl (⟨by first | rw [rpt_0 hb h84] | rw [rpt_1 hb h84], rfl⟩)
    · -- 14: no
      have e1 := hco r0 (by omega) (by omega)
      have e2 := hsa r0 (by omega) (by omega)
      have e3 := hsa (r0 + 1) (by omega) (by omega)
      have g1 := cm_rng (X := X) (n := n) (r := r0) (by omega) (by omega)
      have g2 := og_rng (X := X) (n := n) (r := r0) (by omega) (by omega)
      have g3 := og_rng (X := X) (n := n) (r := r0 + 1) (by omega) (by omega)
      refine g_aload_n XX d_CX_repeat_17 rfl 3 rfl ?_
      refine g_get (C := R_CX) (T := T_CX) (N := 6) XX (tmw win0_CX) 0 rfl rfl 3 (by decide) (tm kw_18) rfl rfl d_CX_repeat_18 ?_
      refine g_get (C := R_SO) (T := T_SO) (N := 4) XX (tmw win0_SO) 2 rfl rfl 2 (by decide) (tm kw_59) rfl rfl d_CX_repeat_21 ?_
      refine g_iload_n XX d_CX_repeat_24 rfl 0 rfl ?_
      refine g_iald XX 4 0 rfl rfl ⟨by omega, by omega, by decide⟩ d_CX_repeat_25 ?_
      refine g_istore (lv' := [(4, .int (iI (co r0))), (3, .int (iI r0)), (2, .int (iI l0)), (1, .int (iI b0)), (0, .ref x)]) XX d_CX_repeat_26 (by decide) rfl ?_
      refine g_aload_n XX d_CX_repeat_28 rfl 4 rfl ?_
      refine g_get (C := R_CX) (T := T_CX) (N := 6) XX (tmw win0_CX) 0 rfl rfl 3 (by decide) (tm kw_18) rfl rfl d_CX_repeat_29 ?_
      refine g_get (C := R_SO) (T := T_SO) (N := 4) XX (tmw win0_SO) 2 rfl rfl 0 (by decide) (tm kw_56) rfl rfl d_CX_repeat_32 ?_
      refine g_iload_n XX d_CX_repeat_35 rfl 1 rfl ?_
      refine g_iald XX 3 0 rfl rfl ⟨by omega, by omega, by decide⟩ d_CX_repeat_36 ?_
      refine g_aload_n XX d_CX_repeat_37 rfl 4 rfl ?_
      refine g_get (C := R_CX) (T := T_CX) (N := 6) XX (tmw win0_CX) 0 rfl rfl 3 (by decide) (tm kw_18) rfl rfl d_CX_repeat_38 ?_
      refine g_get (C := R_SO) (T := T_SO) (N := 4) XX (tmw win0_SO) 2 rfl rfl 0 (by decide) (tm kw_56) rfl rfl d_CX_repeat_41 ?_
      refine g_iload_n XX d_CX_repeat_44 rfl 1 rfl ?_
      refine g_iconst XX d_CX_repeat_45 ?_
      refine g_iadd XX d_CX_repeat_46 ?_
      refine g_iald XX 3 0 rfl rfl ⟨by omega, by omega, by decide⟩ d_CX_repeat_47 ?_
      refine g_mmin XX (tm kw_61) (tm kw_62) (tm kw_63) (tm kw_64) (by decide) (Nat.le_of_ble_eq_true rfl) (by decide) (by decide) ⟨by omega, by omega⟩ ⟨by omega, by omega⟩ d_CX_repeat_48 ?_
      refine g_istore (lv' := [(5, .int (iI (min (sa r0) (sa (r0 + 1))))), (4, .int (iI (co r0))), (3, .int (iI r0)), (2, .int (iI l0)), (1, .int (iI b0)), (0, .ref x)]) XX d_CX_repeat_51 (by decide) rfl ?_
      refine g_iload XX d_CX_repeat_53 1 rfl ?_
      refine g_iload_n XX d_CX_repeat_55 rfl 4 rfl ?_
      refine g_icmp_gt (tgt := 71) XX d_CX_repeat_56 (by decide) ⟨by omega, by omega⟩ ⟨by omega, by omega⟩ (fun h56 => ?_) (fun h56 => ?_)
      · -- 56: yes
        refine g_iload XX d_CX_repeat_71 1 rfl ?_
        refine g_istore_n (lv' := [(1, .int (iI (co r0))), (5, .int (iI (min (sa r0) (sa (r0 + 1))))), (4, .int (iI (co r0))), (3, .int (iI r0)), (2, .int (iI l0)), (0, .ref x)]) XX d_CX_repeat_73 rfl (by decide) rfl ?_
        refine g_iload XX d_CX_repeat_74 1 rfl ?_
        refine g_istore_n (lv' := [(2, .int (iI (min (sa r0) (sa (r0 + 1))))), (1, .int (iI (co r0))), (5, .int (iI (min (sa r0) (sa (r0 + 1))))), (4, .int (iI (co r0))), (3, .int (iI r0)), (0, .ref x)]) XX d_CX_repeat_76 rfl (by decide) rfl ?_
        refine g_iinc (lv' := [(3, .int (iI (r0 + 1))), (2, .int (iI (min (sa r0) (sa (r0 + 1))))), (1, .int (iI (co r0))), (5, .int (iI (min (sa r0) (sa (r0 + 1))))), (4, .int (iI (co r0))), (0, .ref x)]) XX d_CX_repeat_77 4 rfl (by decide) rfl ?_
        refine g_goto (tgt := 6) XX d_CX_repeat_80 (by decide) ?_
        refine g_lv (lv' := [(3, .int (iI (r0 + 1))), (2, .int (iI (min (sa r0) (sa (r0 + 1))))), (1, .int (iI (co r0))), (0, .ref x)]) [0, 1, 2, 5] rfl ?_
        exact ih_6 _ (by omega) (co r0) (min (sa r0) (sa (r0 + 1))) (r0 + 1) (by omega) (by first | exact rb_put (by omega) h2 e1 (by rw [e2, e3]) (by omega) | exact rb_keep (by omega) h2 e1 (show min (sa r0) (sa (r0 + 1)) = _ by rw [e2, e3]) (by omega)) rfl
      · -- 56: no
        refine g_iload XX d_CX_repeat_59 1 rfl ?_
        refine g_iload_n XX d_CX_repeat_61 rfl 4 rfl ?_
        refine g_icmp_ne (tgt := 77) XX d_CX_repeat_62 (by decide) ⟨by omega, by omega⟩ ⟨by omega, by omega⟩ (fun h62 => ?_) (fun h62 => ?_)
        · -- 62: yes
          refine g_iinc (lv' := [(3, .int (iI (r0 + 1))), (5, .int (iI (min (sa r0) (sa (r0 + 1))))), (4, .int (iI (co r0))), (2, .int (iI l0)), (1, .int (iI b0)), (0, .ref x)]) XX d_CX_repeat_77 2 rfl (by decide) rfl ?_
          refine g_goto (tgt := 6) XX d_CX_repeat_80 (by decide) ?_
          refine g_lv (lv' := [(3, .int (iI (r0 + 1))), (2, .int (iI l0)), (1, .int (iI b0)), (0, .ref x)]) [0, 3, 4, 5] rfl ?_
          exact ih_6 _ (by omega) b0 l0 (r0 + 1) (by omega) (by first | exact rb_put (by omega) h2 e1 (by rw [e2, e3]) (by omega) | exact rb_keep (by omega) h2 e1 (show min (sa r0) (sa (r0 + 1)) = _ by rw [e2, e3]) (by omega)) rfl
        · -- 62: no
          refine g_iload XX d_CX_repeat_65 0 rfl ?_
          refine g_iload_n XX d_CX_repeat_67 rfl 3 rfl ?_
          refine g_icmp_ge (tgt := 77) XX d_CX_repeat_68 (by decide) ⟨by omega, by omega⟩ ⟨by omega, by omega⟩ (fun h68 => ?_) (fun h68 => ?_)
          · -- 68: yes
            refine g_iinc (lv' := [(3, .int (iI (r0 + 1))), (5, .int (iI (min (sa r0) (sa (r0 + 1))))), (4, .int (iI (co r0))), (2, .int (iI l0)), (1, .int (iI b0)), (0, .ref x)]) XX d_CX_repeat_77 2 rfl (by decide) rfl ?_
            refine g_goto (tgt := 6) XX d_CX_repeat_80 (by decide) ?_
            refine g_lv (lv' := [(3, .int (iI (r0 + 1))), (2, .int (iI l0)), (1, .int (iI b0)), (0, .ref x)]) [0, 3, 4, 5] rfl ?_
            exact ih_6 _ (by omega) b0 l0 (r0 + 1) (by omega) (by first | exact rb_put (by omega) h2 e1 (by rw [e2, e3]) (by omega) | exact rb_keep (by omega) h2 e1 (show min (sa r0) (sa (r0 + 1)) = _ by rw [e2, e3]) (by omega)) rfl
          · -- 68: no
            refine g_iload XX d_CX_repeat_71 1 rfl ?_
            refine g_istore_n (lv' := [(1, .int (iI (co r0))), (5, .int (iI (min (sa r0) (sa (r0 + 1))))), (4, .int (iI (co r0))), (3, .int (iI r0)), (2, .int (iI l0)), (0, .ref x)]) XX d_CX_repeat_73 rfl (by decide) rfl ?_
            refine g_iload XX d_CX_repeat_74 1 rfl ?_
            refine g_istore_n (lv' := [(2, .int (iI (min (sa r0) (sa (r0 + 1))))), (1, .int (iI (co r0))), (5, .int (iI (min (sa r0) (sa (r0 + 1))))), (4, .int (iI (co r0))), (3, .int (iI r0)), (0, .ref x)]) XX d_CX_repeat_76 rfl (by decide) rfl ?_
            refine g_iinc (lv' := [(3, .int (iI (r0 + 1))), (2, .int (iI (min (sa r0) (sa (r0 + 1))))), (1, .int (iI (co r0))), (5, .int (iI (min (sa r0) (sa (r0 + 1))))), (4, .int (iI (co r0))), (0, .ref x)]) XX d_CX_repeat_77 4 rfl (by decide) rfl ?_
            refine g_goto (tgt := 6) XX d_CX_repeat_80 (by decide) ?_
            refine g_lv (lv' := [(3, .int (iI (r0 + 1))), (2, .int (iI (min (sa r0) (sa (r0 + 1))))), (1, .int (iI (co r0))), (0, .ref x)]) [0, 1, 2, 5] rfl ?_
            exact ih_6 _ (by omega) (co r0) (min (sa r0) (sa (r0 + 1))) (r0 + 1) (by omega) (by first | exact rb_put (by omega) h2 e1 (by rw [e2, e3]) (by omega) | exact rb_keep (by omega) h2 e1 (show min (sa r0) (sa (r0 + 1)) = _ by rw [e2, e3]) (by omega)) rfl
  exact L6 _ 0 0 0 (by omega) (rfl) rfl
end
section
abbrev rm_CX_stands : Room := { frames := 2, cells := 0, slots := 0, locals := 46 }
set_option maxHeartbeats 4000000 in
set_option maxRecDepth 100000 in
theorem c_CX_stands (l : Launch) (D : va_G) (cA : ClassId) (x hT hX hP hO hF hR : Nat) (aX aP : Nat) (fX X fP Pt : Int → Int) (n m i : Int) (hn : 0 ≤ n ∧ n ≤ 96) (hm : 0 ≤ m ∧ m ≤ 96) (hfX : ag fX X n) (hbX : bt8 X n) (hfP : ag fP Pt m) (hbP : bt8 Pt m) (hi : 0 ≤ i ∧ i ≤ n) : xM l y_CX_patternStandsAt w_CX_patternStandsAt rm_CX_stands D vwCl [(cA, .int)] [.ref x, .int (iI i)] [cO x 4 [.ref hT, .ref hX, .ref hP, .ref hO, .ref hF, .ref hR], cO hX 0 [.ref aX, .int (iI n)], cR aX cA 96 fX, cO hP 0 [.ref aP, .int (iI m)], cR aP cA 96 fP] (fun r w => r = iI (if htb Pt m X n i then 1 else 0) ∧ w = [cO x 4 [.ref hT, .ref hX, .ref hP, .ref hO, .ref hF, .ref hR], cO hX 0 [.ref aX, .int (iI n)], cR aX cA 96 fX, cO hP 0 [.ref aP, .int (iI m)], cR aP cA 96 fP]) 0 0 := by
  refine xM.ofZ (by decide) rfl (Nat.le_of_ble_eq_true rfl) ?_
  intro P0 E0 S0 M0 A0 B0 T0 C0 AA QQ XX hnm ret
  refine g_aload_n XX d_CX_patternStandsAt_0 rfl 0 rfl ?_
  refine g_get (C := R_CX) (T := T_CX) (N := 6) XX (tmw win0_CX) 0 rfl rfl 2 (by decide) (tm kw_11) rfl rfl d_CX_patternStandsAt_1 ?_
  refine g_iconst XX d_CX_patternStandsAt_4 ?_
  refine g_aload_n XX d_CX_patternStandsAt_5 rfl 0 rfl ?_
  refine g_get (C := R_CX) (T := T_CX) (N := 6) XX (tmw win0_CX) 0 rfl rfl 1 (by decide) (tm kw_10) rfl rfl d_CX_patternStandsAt_6 ?_
  refine g_iload_n XX d_CX_patternStandsAt_9 rfl 1 rfl ?_
  refine g_calli (As := [.int (iI 0), .ref hX, .int (iI i)]) (st := []) (wr := [cO x 4 [.ref hT, .ref hX, .ref hP, .ref hO, .ref hF, .ref hR]]) XX (c_BR_alike l D cA hP aP hX aX fP fX Pt X m n 0 i (by first | assumption | omega) (by first | assumption | omega) (by first | assumption | omega) (by first | assumption | omega) (by first | assumption | omega) (by first | assumption | omega) (by first | assumption | omega)) (x_cw 3 XX.2.2.2.2.1 (gi kw_81) rfl rfl (tm kw_5) (tm kw_82) (tm kw_83) (tm kw_84) ⟨by decide +kernel, by decide +kernel, by decide +kernel⟩ ⟨by decide, by decide⟩) [3, 4, 1, 2] [0] rfl rfl (by decide) (by decide) (by decide) 3 0 rfl rfl rfl rfl (Nat.le_of_ble_eq_true rfl) d_CX_patternStandsAt_10 ⟨by decide, by decide⟩ (fun r_ w_ hq => ?_)
  obtain ⟨rfl, rfl⟩ := hq
  show xG P0 l E0 rm_CX_stands S0 M0 A0 B0 T0 C0 QQ 2 D vwCl AA 0 0 [cO x 4 [.ref hT, .ref hX, .ref hP, .ref hO, .ref hF, .ref hR], cO hP 0 [.ref aP, .int (iI m)], cR aP cA 96 fP, cO hX 0 [.ref aX, .int (iI n)], cR aX cA 96 fX] 13 [(0, .ref x), (1, .int (iI i))] [.int (iI (al Pt m X n 0 i))]
  refine g_aload_n XX d_CX_patternStandsAt_13 rfl 0 rfl ?_
  refine g_get (C := R_CX) (T := T_CX) (N := 6) XX (tmw win0_CX) 0 rfl rfl 2 (by decide) (tm kw_11) rfl rfl d_CX_patternStandsAt_14 ?_
  refine g_get (C := R_BR) (T := T_BR) (N := 2) XX (tmw win0_BR) 1 rfl rfl 1 (by decide) (tm kw_33) rfl rfl d_CX_patternStandsAt_17 ?_
  have g := al_rng (f := Pt) (n := m) (g := X) (m := n) (p := 0) (q := i) (by omega) (by omega)
  refine g_icmp_ne (tgt := 27) XX d_CX_patternStandsAt_20 (by decide) ⟨by omega, by omega⟩ ⟨by omega, by omega⟩ (fun h20 => ?_) (fun h20 => ?_)
  · -- 20: yes
    have hz : htb Pt m X n i = false := by simp only [htb, decide_eq_false_iff_not]; omega
    refine g_iconst XX d_CX_patternStandsAt_27 ?_
    exact ret _ _ _ _ [cO x 4 [.ref hT, .ref hX, .ref hP, .ref hO, .ref hF, .ref hR], cO hX 0 [.ref aX, .int (iI n)], cR aX cA 96 fX, cO hP 0 [.ref aP, .int (iI m)], cR aP cA 96 fP] [0, 3, 4, 1, 2] (by first | exact Or.inl rfl | exact Or.inr rfl) d_CX_patternStandsAt_28 (by decide) rfl (⟨by rw [hz]; rfl, rfl⟩)
  · -- 20: no
    have hz : htb Pt m X n i = true := by simp only [htb, decide_eq_true_eq]; omega
    refine g_iconst XX d_CX_patternStandsAt_23 ?_
    refine g_goto (tgt := 28) XX d_CX_patternStandsAt_24 (by decide) ?_
    exact ret _ _ _ _ [cO x 4 [.ref hT, .ref hX, .ref hP, .ref hO, .ref hF, .ref hR], cO hX 0 [.ref aX, .int (iI n)], cR aX cA 96 fX, cO hP 0 [.ref aP, .int (iI m)], cR aP cA 96 fP] [0, 3, 4, 1, 2] (by first | exact Or.inl rfl | exact Or.inr rfl) d_CX_patternStandsAt_28 (by decide) rfl (⟨by rw [hz]; rfl, rfl⟩)
abbrev rm_CX_comes : Room := { frames := 2, cells := 0, slots := 0, locals := 46 }
set_option maxHeartbeats 4000000 in
set_option maxRecDepth 100000 in
theorem c_CX_comes (l : Launch) (D : va_G) (cA : ClassId) (x hT hX hP hO hF hR : Nat) (aX aP : Nat) (fX X fP Pt : Int → Int) (n m i : Int) (hn : 0 ≤ n ∧ n ≤ 96) (hm : 0 ≤ m ∧ m ≤ 96) (hfX : ag fX X n) (hbX : bt8 X n) (hfP : ag fP Pt m) (hbP : bt8 Pt m) (hi : 0 ≤ i ∧ i ≤ n) : xM l y_CX_comesBeforePattern w_CX_comesBeforePattern rm_CX_comes D vwCl [(cA, .int)] [.ref x, .int (iI i)] [cO x 4 [.ref hT, .ref hX, .ref hP, .ref hO, .ref hF, .ref hR], cO hX 0 [.ref aX, .int (iI n)], cR aX cA 96 fX, cO hP 0 [.ref aP, .int (iI m)], cR aP cA 96 fP] (fun r w => r = iI (if bfb Pt m X n i then 1 else 0) ∧ w = [cO x 4 [.ref hT, .ref hX, .ref hP, .ref hO, .ref hF, .ref hR], cO hX 0 [.ref aX, .int (iI n)], cR aX cA 96 fX, cO hP 0 [.ref aP, .int (iI m)], cR aP cA 96 fP]) 0 0 := by
  refine xM.ofZ (by decide) rfl (Nat.le_of_ble_eq_true rfl) ?_
  intro P0 E0 S0 M0 A0 B0 T0 C0 AA QQ XX hnm ret
  refine g_aload_n XX d_CX_comesBeforePattern_0 rfl 0 rfl ?_
  refine g_get (C := R_CX) (T := T_CX) (N := 6) XX (tmw win0_CX) 0 rfl rfl 2 (by decide) (tm kw_11) rfl rfl d_CX_comesBeforePattern_1 ?_
  refine g_iconst XX d_CX_comesBeforePattern_4 ?_
  refine g_aload_n XX d_CX_comesBeforePattern_5 rfl 0 rfl ?_
  refine g_get (C := R_CX) (T := T_CX) (N := 6) XX (tmw win0_CX) 0 rfl rfl 1 (by decide) (tm kw_10) rfl rfl d_CX_comesBeforePattern_6 ?_
  refine g_iload_n XX d_CX_comesBeforePattern_9 rfl 1 rfl ?_
  refine g_calli (As := [.int (iI 0), .ref hX, .int (iI i)]) (st := []) (wr := [cO x 4 [.ref hT, .ref hX, .ref hP, .ref hO, .ref hF, .ref hR]]) XX (c_BR_alike l D cA hP aP hX aX fP fX Pt X m n 0 i (by first | assumption | omega) (by first | assumption | omega) (by first | assumption | omega) (by first | assumption | omega) (by first | assumption | omega) (by first | assumption | omega) (by first | assumption | omega)) (x_cw 3 XX.2.2.2.2.1 (gi kw_81) rfl rfl (tm kw_5) (tm kw_82) (tm kw_83) (tm kw_84) ⟨by decide +kernel, by decide +kernel, by decide +kernel⟩ ⟨by decide, by decide⟩) [3, 4, 1, 2] [0] rfl rfl (by decide) (by decide) (by decide) 3 0 rfl rfl rfl rfl (Nat.le_of_ble_eq_true rfl) d_CX_comesBeforePattern_10 ⟨by decide, by decide⟩ (fun r_ w_ hq => ?_)
  obtain ⟨rfl, rfl⟩ := hq
  show xG P0 l E0 rm_CX_comes S0 M0 A0 B0 T0 C0 QQ 4 D vwCl AA 0 0 [cO x 4 [.ref hT, .ref hX, .ref hP, .ref hO, .ref hF, .ref hR], cO hP 0 [.ref aP, .int (iI m)], cR aP cA 96 fP, cO hX 0 [.ref aX, .int (iI n)], cR aX cA 96 fX] 13 [(0, .ref x), (1, .int (iI i))] [.int (iI (al Pt m X n 0 i))]
  refine g_istore_n (lv' := [(2, .int (iI (al Pt m X n 0 i))), (0, .ref x), (1, .int (iI i))]) XX d_CX_comesBeforePattern_13 rfl (by decide) rfl ?_
  have g := al_rng (f := Pt) (n := m) (g := X) (m := n) (p := 0) (q := i) (by omega) (by omega)
  refine g_iload_n XX d_CX_comesBeforePattern_14 rfl 0 rfl ?_
  refine g_aload_n XX d_CX_comesBeforePattern_15 rfl 1 rfl ?_
  refine g_get (C := R_CX) (T := T_CX) (N := 6) XX (tmw win0_CX) 0 rfl rfl 2 (by decide) (tm kw_11) rfl rfl d_CX_comesBeforePattern_16 ?_
  refine g_get (C := R_BR) (T := T_BR) (N := 2) XX (tmw win0_BR) 1 rfl rfl 1 (by decide) (tm kw_33) rfl rfl d_CX_comesBeforePattern_19 ?_
  refine g_icmp_ne (tgt := 27) XX d_CX_comesBeforePattern_22 (by decide) ⟨by omega, by omega⟩ ⟨by omega, by omega⟩ (fun h22 => ?_) (fun h22 => ?_)
  · -- 22: yes
    refine g_iload_n XX d_CX_comesBeforePattern_27 rfl 2 rfl ?_
    refine g_iload_n XX d_CX_comesBeforePattern_28 rfl 0 rfl ?_
    refine g_iadd XX d_CX_comesBeforePattern_29 ?_
    refine g_istore_n (lv' := [(3, .int (iI (i + (al Pt m X n 0 i)))), (2, .int (iI (al Pt m X n 0 i))), (0, .ref x), (1, .int (iI i))]) XX d_CX_comesBeforePattern_30 rfl (by decide) rfl ?_
    refine g_iload_n XX d_CX_comesBeforePattern_31 rfl 0 rfl ?_
    refine g_aload_n XX d_CX_comesBeforePattern_32 rfl 2 rfl ?_
    refine g_get (C := R_CX) (T := T_CX) (N := 6) XX (tmw win0_CX) 0 rfl rfl 1 (by decide) (tm kw_10) rfl rfl d_CX_comesBeforePattern_33 ?_
    refine g_get (C := R_BR) (T := T_BR) (N := 2) XX (tmw win0_BR) 3 rfl rfl 1 (by decide) (tm kw_33) rfl rfl d_CX_comesBeforePattern_36 ?_
    refine g_icmp_eq (tgt := 63) XX d_CX_comesBeforePattern_39 (by decide) ⟨by omega, by omega⟩ ⟨by omega, by omega⟩ (fun h39 => ?_) (fun h39 => ?_)
    · -- 39: yes
      have hz : bfb Pt m X n i = true := by simp only [bfb, decide_eq_true_eq]; omega
      refine g_iconst XX d_CX_comesBeforePattern_63 ?_
      refine g_goto (tgt := 68) XX d_CX_comesBeforePattern_64 (by decide) ?_
      exact ret _ _ _ _ [cO x 4 [.ref hT, .ref hX, .ref hP, .ref hO, .ref hF, .ref hR], cO hX 0 [.ref aX, .int (iI n)], cR aX cA 96 fX, cO hP 0 [.ref aP, .int (iI m)], cR aP cA 96 fP] [0, 3, 4, 1, 2] (by first | exact Or.inl rfl | exact Or.inr rfl) d_CX_comesBeforePattern_68 (by decide) rfl (⟨by rw [hz]; rfl, rfl⟩)
    · -- 39: no
      refine g_aload_n XX d_CX_comesBeforePattern_42 rfl 2 rfl ?_
      refine g_get (C := R_CX) (T := T_CX) (N := 6) XX (tmw win0_CX) 0 rfl rfl 1 (by decide) (tm kw_10) rfl rfl d_CX_comesBeforePattern_43 ?_
      refine g_get (C := R_BR) (T := T_BR) (N := 2) XX (tmw win0_BR) 3 rfl rfl 0 (by decide) (tm kw_51) rfl rfl d_CX_comesBeforePattern_46 ?_
      refine g_iload_n XX d_CX_comesBeforePattern_49 rfl 0 rfl ?_
      refine g_iald XX 4 0 rfl rfl ⟨by omega, by omega, by decide⟩ d_CX_comesBeforePattern_50 ?_
      refine g_aload_n XX d_CX_comesBeforePattern_51 rfl 2 rfl ?_
      refine g_get (C := R_CX) (T := T_CX) (N := 6) XX (tmw win0_CX) 0 rfl rfl 2 (by decide) (tm kw_11) rfl rfl d_CX_comesBeforePattern_52 ?_
      refine g_get (C := R_BR) (T := T_BR) (N := 2) XX (tmw win0_BR) 1 rfl rfl 0 (by decide) (tm kw_51) rfl rfl d_CX_comesBeforePattern_55 ?_
      refine g_iload_n XX d_CX_comesBeforePattern_58 rfl 1 rfl ?_
      refine g_iald XX 2 0 rfl rfl ⟨by omega, by omega, by decide⟩ d_CX_comesBeforePattern_59 ?_
      have e1 := hfX (i + al Pt m X n 0 i) (by omega) (by omega)
      have e2 := hfP (al Pt m X n 0 i) (by omega) (by omega)
      have b1 := hbX (i + al Pt m X n 0 i) (by omega) (by omega)
      have b2 := hbP (al Pt m X n 0 i) (by omega) (by omega)
      refine g_icmp_ge (tgt := 67) XX d_CX_comesBeforePattern_60 (by decide) ⟨by omega, by omega⟩ ⟨by omega, by omega⟩ (fun h60 => ?_) (fun h60 => ?_)
      · -- 60: yes
        have hz : bfb Pt m X n i = false := by simp only [bfb, decide_eq_false_iff_not]; omega
        refine g_iconst XX d_CX_comesBeforePattern_67 ?_
        exact ret _ _ _ _ [cO x 4 [.ref hT, .ref hX, .ref hP, .ref hO, .ref hF, .ref hR], cO hX 0 [.ref aX, .int (iI n)], cR aX cA 96 fX, cO hP 0 [.ref aP, .int (iI m)], cR aP cA 96 fP] [0, 3, 4, 1, 2] (by first | exact Or.inl rfl | exact Or.inr rfl) d_CX_comesBeforePattern_68 (by decide) rfl (⟨by rw [hz]; rfl, rfl⟩)
      · -- 60: no
        have hz : bfb Pt m X n i = true := by simp only [bfb, decide_eq_true_eq]; omega
        refine g_iconst XX d_CX_comesBeforePattern_63 ?_
        refine g_goto (tgt := 68) XX d_CX_comesBeforePattern_64 (by decide) ?_
        exact ret _ _ _ _ [cO x 4 [.ref hT, .ref hX, .ref hP, .ref hO, .ref hF, .ref hR], cO hX 0 [.ref aX, .int (iI n)], cR aX cA 96 fX, cO hP 0 [.ref aP, .int (iI m)], cR aP cA 96 fP] [0, 3, 4, 1, 2] (by first | exact Or.inl rfl | exact Or.inr rfl) d_CX_comesBeforePattern_68 (by decide) rfl (⟨by rw [hz]; rfl, rfl⟩)
  · -- 22: no
    have hz : bfb Pt m X n i = false := by simp only [bfb, decide_eq_false_iff_not]; omega
    refine g_iconst XX d_CX_comesBeforePattern_25 ?_
    exact ret _ _ _ _ [cO x 4 [.ref hT, .ref hX, .ref hP, .ref hO, .ref hF, .ref hR], cO hX 0 [.ref aX, .int (iI n)], cR aX cA 96 fX, cO hP 0 [.ref aP, .int (iI m)], cR aP cA 96 fP] [0, 3, 4, 1, 2] (by first | exact Or.inl rfl | exact Or.inr rfl) d_CX_comesBeforePattern_26 (by decide) rfl (⟨by rw [hz]; rfl, rfl⟩)
abbrev rm_CX_count : Room := { frames := 3, cells := 0, slots := 0, locals := 67 }
set_option maxHeartbeats 4000000 in
set_option maxRecDepth 100000 in
theorem c_CX_count (l : Launch) (D : va_G) (cA : ClassId) (x hT hX hP hO hF hR : Nat) (aX aP : Nat) (fX X fP Pt : Int → Int) (n m : Int) (hn : 0 ≤ n ∧ n ≤ 96) (hm : 0 ≤ m ∧ m ≤ 96) (hfX : ag fX X n) (hbX : bt8 X n) (hfP : ag fP Pt m) (hbP : bt8 Pt m) : xM l y_CX_countHits w_CX_countHits rm_CX_count D vwCl [(cA, .int)] [.ref x] [cO x 4 [.ref hT, .ref hX, .ref hP, .ref hO, .ref hF, .ref hR], cO hX 0 [.ref aX, .int (iI n)], cR aX cA 96 fX, cO hP 0 [.ref aP, .int (iI m)], cR aP cA 96 fP] (fun r w => r = iI (cnt (htb Pt m X n) (n + 1)) ∧ w = [cO x 4 [.ref hT, .ref hX, .ref hP, .ref hO, .ref hF, .ref hR], cO hX 0 [.ref aX, .int (iI n)], cR aX cA 96 fX, cO hP 0 [.ref aP, .int (iI m)], cR aP cA 96 fP]) 0 0 := by
  refine xM.ofI (by decide) rfl (Nat.le_of_ble_eq_true rfl) ?_
  intro P0 E0 S0 M0 A0 B0 T0 C0 AA QQ XX hnm ret
  refine g_iconst XX d_CX_countHits_0 ?_
  refine g_istore_n (lv' := [(1, .int (iI 0)), (0, .ref x)]) XX d_CX_countHits_1 rfl (by decide) rfl ?_
  refine g_iconst XX d_CX_countHits_2 ?_
  refine g_istore_n (lv' := [(2, .int (iI 0)), (1, .int (iI 0)), (0, .ref x)]) XX d_CX_countHits_3 rfl (by decide) rfl ?_
  have L4 : ∀ (k_4 : Nat) (c0 : Int) (p0 : Int), (0 ≤ p0 ∧ p0 ≤ n + 1) → (c0 = cnt (htb Pt m X n) p0) → (n + 1 - p0).toNat = k_4 → xG P0 l E0 rm_CX_count S0 M0 A0 B0 T0 C0 QQ 3 D vwCl AA 0 0 [cO x 4 [.ref hT, .ref hX, .ref hP, .ref hO, .ref hF, .ref hR], cO hX 0 [.ref aX, .int (iI n)], cR aX cA 96 fX, cO hP 0 [.ref aP, .int (iI m)], cR aP cA 96 fP] 4 [(2, .int (iI p0)), (1, .int (iI c0)), (0, .ref x)] [] := by
    refine x_ind (fun k_4 ih_4 c0 p0 h1 h2 hk_4 => ?_)
    refine g_iload_n XX d_CX_countHits_4 rfl 0 rfl ?_
    refine g_aload_n XX d_CX_countHits_5 rfl 2 rfl ?_
    refine g_get (C := R_CX) (T := T_CX) (N := 6) XX (tmw win0_CX) 0 rfl rfl 1 (by decide) (tm kw_10) rfl rfl d_CX_countHits_6 ?_
    refine g_get (C := R_BR) (T := T_BR) (N := 2) XX (tmw win0_BR) 1 rfl rfl 1 (by decide) (tm kw_33) rfl rfl d_CX_countHits_9 ?_
    refine g_icmp_gt (tgt := 32) XX d_CX_countHits_12 (by decide) ⟨by omega, by omega⟩ ⟨by omega, by omega⟩ (fun h12 => ?_) (fun h12 => ?_)
    · -- 12: yes
      refine g_iload_n XX d_CX_countHits_32 rfl 1 rfl ?_
      exact ret _ _ _ _ [cO x 4 [.ref hT, .ref hX, .ref hP, .ref hO, .ref hF, .ref hR], cO hX 0 [.ref aX, .int (iI n)], cR aX cA 96 fX, cO hP 0 [.ref aP, .int (iI m)], cR aP cA 96 fP] [0, 1, 2, 3, 4] d_CX_countHits_33 (by decide) rfl (⟨by rw [h2, show p0 = n + 1 by omega], rfl⟩)
    · -- 12: no
      refine g_aload_n XX d_CX_countHits_15 rfl 2 rfl ?_
      refine g_iload_n XX d_CX_countHits_16 rfl 0 rfl ?_
      refine g_calli (As := [.int (iI p0)]) (st := []) (wr := []) XX (c_CX_stands l D cA x hT hX hP hO hF hR aX aP fX X fP Pt n m p0 (by first | assumption | omega) (by first | assumption | omega) (by first | assumption | omega) (by first | assumption | omega) (by first | assumption | omega) (by first | assumption | omega) (by first | assumption | omega)) (x_cw 1 XX.2.2.2.2.1 (gi kw_77) rfl rfl (tm kw_49) (tm kw_78) (tm kw_79) (tm kw_80) ⟨by decide +kernel, by decide +kernel, by decide +kernel⟩ ⟨by decide, by decide⟩) [0, 1, 2, 3, 4] [] rfl rfl (by decide) (by decide) (by decide) 0 4 rfl rfl rfl rfl (Nat.le_of_ble_eq_true rfl) d_CX_countHits_17 ⟨by decide, by decide⟩ (fun r_ w_ hq => ?_)
      obtain ⟨rfl, rfl⟩ := hq
      show xG P0 l E0 rm_CX_count S0 M0 A0 B0 T0 C0 QQ 3 D vwCl AA 0 0 [cO x 4 [.ref hT, .ref hX, .ref hP, .ref hO, .ref hF, .ref hR], cO hX 0 [.ref aX, .int (iI n)], cR aX cA 96 fX, cO hP 0 [.ref aP, .int (iI m)], cR aP cA 96 fP] 20 [(2, .int (iI p0)), (1, .int (iI c0)), (0, .ref x)] [.int (iI (if htb Pt m X n p0 then 1 else 0))]
      refine g_if_eq (tgt := 26) XX d_CX_countHits_20 (by decide) z01 (fun h20 => ?_) (fun h20 => ?_)
      · -- 20: yes
        refine g_iinc (lv' := [(2, .int (iI (p0 + 1))), (1, .int (iI c0)), (0, .ref x)]) XX d_CX_countHits_26 0 rfl (by decide) rfl ?_
        refine g_goto (tgt := 4) XX d_CX_countHits_29 (by decide) ?_
        exact ih_4 _ (by omega) c0 (p0 + 1) (by omega) (by first | (rw [h2, cnt_y (by omega) (z01_1 h20)]; done) | (rw [cnt_n (by omega) (z01_0 h20)]; exact h2)) rfl
      · -- 20: no
        refine g_iinc (lv' := [(1, .int (iI (c0 + 1))), (2, .int (iI p0)), (0, .ref x)]) XX d_CX_countHits_23 1 rfl (by decide) rfl ?_
        refine g_iinc (lv' := [(2, .int (iI (p0 + 1))), (1, .int (iI (c0 + 1))), (0, .ref x)]) XX d_CX_countHits_26 1 rfl (by decide) rfl ?_
        refine g_goto (tgt := 4) XX d_CX_countHits_29 (by decide) ?_
        exact ih_4 _ (by omega) (c0 + 1) (p0 + 1) (by omega) (by first | (rw [h2, cnt_y (by omega) (z01_1 h20)]; done) | (rw [cnt_n (by omega) (z01_0 h20)]; exact h2)) rfl
  exact L4 _ 0 0 (by omega) ((cnt_0 (by omega)).symm) rfl
abbrev rm_CX_before : Room := { frames := 3, cells := 0, slots := 0, locals := 69 }
set_option maxHeartbeats 4000000 in
set_option maxRecDepth 100000 in
theorem c_CX_before (l : Launch) (D : va_G) (cA : ClassId) (x hT hX hP hO hF hR : Nat) (aX aP : Nat) (fX X fP Pt : Int → Int) (n m : Int) (hn : 0 ≤ n ∧ n ≤ 96) (hm : 0 ≤ m ∧ m ≤ 96) (hfX : ag fX X n) (hbX : bt8 X n) (hfP : ag fP Pt m) (hbP : bt8 Pt m) : xM l y_CX_before w_CX_before rm_CX_before D vwCl [(cA, .int)] [.ref x] [cO x 4 [.ref hT, .ref hX, .ref hP, .ref hO, .ref hF, .ref hR], cO hX 0 [.ref aX, .int (iI n)], cR aX cA 96 fX, cO hP 0 [.ref aP, .int (iI m)], cR aP cA 96 fP] (fun r w => r = iI (cnt (bfb Pt m X n) (n + 1)) ∧ w = [cO x 4 [.ref hT, .ref hX, .ref hP, .ref hO, .ref hF, .ref hR], cO hX 0 [.ref aX, .int (iI n)], cR aX cA 96 fX, cO hP 0 [.ref aP, .int (iI m)], cR aP cA 96 fP]) 0 0 := by
  refine xM.ofI (by decide) rfl (Nat.le_of_ble_eq_true rfl) ?_
  intro P0 E0 S0 M0 A0 B0 T0 C0 AA QQ XX hnm ret
  refine g_iconst XX d_CX_before_0 ?_
  refine g_istore_n (lv' := [(1, .int (iI 0)), (0, .ref x)]) XX d_CX_before_1 rfl (by decide) rfl ?_
  refine g_iconst XX d_CX_before_2 ?_
  refine g_istore_n (lv' := [(2, .int (iI 0)), (1, .int (iI 0)), (0, .ref x)]) XX d_CX_before_3 rfl (by decide) rfl ?_
  have L4 : ∀ (k_4 : Nat) (c0 : Int) (p0 : Int), (0 ≤ p0 ∧ p0 ≤ n + 1) → (c0 = cnt (bfb Pt m X n) p0) → (n + 1 - p0).toNat = k_4 → xG P0 l E0 rm_CX_before S0 M0 A0 B0 T0 C0 QQ 3 D vwCl AA 0 0 [cO x 4 [.ref hT, .ref hX, .ref hP, .ref hO, .ref hF, .ref hR], cO hX 0 [.ref aX, .int (iI n)], cR aX cA 96 fX, cO hP 0 [.ref aP, .int (iI m)], cR aP cA 96 fP] 4 [(2, .int (iI p0)), (1, .int (iI c0)), (0, .ref x)] [] := by
    refine x_ind (fun k_4 ih_4 c0 p0 h1 h2 hk_4 => ?_)
    refine g_iload_n XX d_CX_before_4 rfl 0 rfl ?_
    refine g_aload_n XX d_CX_before_5 rfl 2 rfl ?_
    refine g_get (C := R_CX) (T := T_CX) (N := 6) XX (tmw win0_CX) 0 rfl rfl 1 (by decide) (tm kw_10) rfl rfl d_CX_before_6 ?_
    refine g_get (C := R_BR) (T := T_BR) (N := 2) XX (tmw win0_BR) 1 rfl rfl 1 (by decide) (tm kw_33) rfl rfl d_CX_before_9 ?_
    refine g_icmp_gt (tgt := 32) XX d_CX_before_12 (by decide) ⟨by omega, by omega⟩ ⟨by omega, by omega⟩ (fun h12 => ?_) (fun h12 => ?_)
    · -- 12: yes
      refine g_iload_n XX d_CX_before_32 rfl 1 rfl ?_
      exact ret _ _ _ _ [cO x 4 [.ref hT, .ref hX, .ref hP, .ref hO, .ref hF, .ref hR], cO hX 0 [.ref aX, .int (iI n)], cR aX cA 96 fX, cO hP 0 [.ref aP, .int (iI m)], cR aP cA 96 fP] [0, 1, 2, 3, 4] d_CX_before_33 (by decide) rfl (⟨by rw [h2, show p0 = n + 1 by omega], rfl⟩)
    · -- 12: no
      refine g_aload_n XX d_CX_before_15 rfl 2 rfl ?_
      refine g_iload_n XX d_CX_before_16 rfl 0 rfl ?_
      refine g_calli (As := [.int (iI p0)]) (st := []) (wr := []) XX (c_CX_comes l D cA x hT hX hP hO hF hR aX aP fX X fP Pt n m p0 (by first | assumption | omega) (by first | assumption | omega) (by first | assumption | omega) (by first | assumption | omega) (by first | assumption | omega) (by first | assumption | omega) (by first | assumption | omega)) (x_cw 1 XX.2.2.2.2.1 (gi kw_73) rfl rfl (tm kw_49) (tm kw_74) (tm kw_75) (tm kw_76) ⟨by decide +kernel, by decide +kernel, by decide +kernel⟩ ⟨by decide, by decide⟩) [0, 1, 2, 3, 4] [] rfl rfl (by decide) (by decide) (by decide) 0 4 rfl rfl rfl rfl (Nat.le_of_ble_eq_true rfl) d_CX_before_17 ⟨by decide, by decide⟩ (fun r_ w_ hq => ?_)
      obtain ⟨rfl, rfl⟩ := hq
      show xG P0 l E0 rm_CX_before S0 M0 A0 B0 T0 C0 QQ 3 D vwCl AA 0 0 [cO x 4 [.ref hT, .ref hX, .ref hP, .ref hO, .ref hF, .ref hR], cO hX 0 [.ref aX, .int (iI n)], cR aX cA 96 fX, cO hP 0 [.ref aP, .int (iI m)], cR aP cA 96 fP] 20 [(2, .int (iI p0)), (1, .int (iI c0)), (0, .ref x)] [.int (iI (if bfb Pt m X n p0 then 1 else 0))]
      refine g_if_eq (tgt := 26) XX d_CX_before_20 (by decide) z01 (fun h20 => ?_) (fun h20 => ?_)
      · -- 20: yes
        refine g_iinc (lv' := [(2, .int (iI (p0 + 1))), (1, .int (iI c0)), (0, .ref x)]) XX d_CX_before_26 0 rfl (by decide) rfl ?_
        refine g_goto (tgt := 4) XX d_CX_before_29 (by decide) ?_
        exact ih_4 _ (by omega) c0 (p0 + 1) (by omega) (by first | (rw [h2, cnt_y (by omega) (z01_1 h20)]; done) | (rw [cnt_n (by omega) (z01_0 h20)]; exact h2)) rfl
      · -- 20: no
        refine g_iinc (lv' := [(1, .int (iI (c0 + 1))), (2, .int (iI p0)), (0, .ref x)]) XX d_CX_before_23 1 rfl (by decide) rfl ?_
        refine g_iinc (lv' := [(2, .int (iI (p0 + 1))), (1, .int (iI (c0 + 1))), (0, .ref x)]) XX d_CX_before_26 1 rfl (by decide) rfl ?_
        refine g_goto (tgt := 4) XX d_CX_before_29 (by decide) ?_
        exact ih_4 _ (by omega) (c0 + 1) (p0 + 1) (by omega) (by first | (rw [h2, cnt_y (by omega) (z01_1 h20)]; done) | (rw [cnt_n (by omega) (z01_0 h20)]; exact h2)) rfl
  exact L4 _ 0 0 (by omega) ((cnt_0 (by omega)).symm) rfl
abbrev rm_CX_hit : Room := { frames := 3, cells := 0, slots := 0, locals := 67 }
set_option maxHeartbeats 4000000 in
set_option maxRecDepth 100000 in
theorem c_CX_hit (l : Launch) (D : va_G) (cA : ClassId) (x hT hX hP hO hF hR : Nat) (aX aP : Nat) (fX X fP Pt : Int → Int) (n m i : Int) (hn : 0 ≤ n ∧ n ≤ 96) (hm : 0 ≤ m ∧ m ≤ 96) (hfX : ag fX X n) (hbX : bt8 X n) (hfP : ag fP Pt m) (hbP : bt8 Pt m) (hi : -2147483648 ≤ i ∧ i < 2147483648) : xM l y_CX_hit w_CX_hit rm_CX_hit D vwCl [(cA, .int)] [.ref x, .int (iI i)] [cO x 4 [.ref hT, .ref hX, .ref hP, .ref hO, .ref hF, .ref hR], cO hX 0 [.ref aX, .int (iI n)], cR aX cA 96 fX, cO hP 0 [.ref aP, .int (iI m)], cR aP cA 96 fP] (fun r w => r = iI (htr Pt m X n i) ∧ w = [cO x 4 [.ref hT, .ref hX, .ref hP, .ref hO, .ref hF, .ref hR], cO hX 0 [.ref aX, .int (iI n)], cR aX cA 96 fX, cO hP 0 [.ref aP, .int (iI m)], cR aP cA 96 fP]) 0 0 := by
  refine xM.ofI (by decide) rfl (Nat.le_of_ble_eq_true rfl) ?_
  intro P0 E0 S0 M0 A0 B0 T0 C0 AA QQ XX hnm ret
  refine g_iconst XX d_CX_hit_0 ?_
  refine g_istore_n (lv' := [(2, .int (iI 0)), (0, .ref x), (1, .int (iI i))]) XX d_CX_hit_1 rfl (by decide) rfl ?_
  refine g_iconst XX d_CX_hit_2 ?_
  refine g_istore_n (lv' := [(3, .int (iI 0)), (2, .int (iI 0)), (0, .ref x), (1, .int (iI i))]) XX d_CX_hit_3 rfl (by decide) rfl ?_
  have L4 : ∀ (k_4 : Nat) (c0 : Int) (p0 : Int), (0 ≤ p0 ∧ p0 ≤ n + 1) → (c0 = cnt (htb Pt m X n) p0) → (∀ j, 0 ≤ j → j < p0 → ¬ (htb Pt m X n j = true ∧ cnt (htb Pt m X n) j = i)) → (n + 1 - p0).toNat = k_4 → xG P0 l E0 rm_CX_hit S0 M0 A0 B0 T0 C0 QQ 4 D vwCl AA 0 0 [cO x 4 [.ref hT, .ref hX, .ref hP, .ref hO, .ref hF, .ref hR], cO hX 0 [.ref aX, .int (iI n)], cR aX cA 96 fX, cO hP 0 [.ref aP, .int (iI m)], cR aP cA 96 fP] 4 [(3, .int (iI p0)), (2, .int (iI c0)), (0, .ref x), (1, .int (iI i))] [] := by
    refine x_ind (fun k_4 ih_4 c0 p0 h1 h2 h3 hk_4 => ?_)
    refine g_iload_n XX d_CX_hit_4 rfl 0 rfl ?_
    refine g_aload_n XX d_CX_hit_5 rfl 2 rfl ?_
    refine g_get (C := R_CX) (T := T_CX) (N := 6) XX (tmw win0_CX) 0 rfl rfl 1 (by decide) (tm kw_10) rfl rfl d_CX_hit_6 ?_
    refine g_get (C := R_BR) (T := T_BR) (N := 2) XX (tmw win0_BR) 1 rfl rfl 1 (by decide) (tm kw_33) rfl rfl d_CX_hit_9 ?_
    refine g_icmp_gt (tgt := 39) XX d_CX_hit_12 (by decide) ⟨by omega, by omega⟩ ⟨by omega, by omega⟩ (fun h12 => ?_) (fun h12 => ?_)
    · -- 12: yes
      refine g_iconst XX d_CX_hit_39 ?_
      exact ret _ _ _ _ [cO x 4 [.ref hT, .ref hX, .ref hP, .ref hO, .ref hF, .ref hR], cO hX 0 [.ref aX, .int (iI n)], cR aX cA 96 fX, cO hP 0 [.ref aP, .int (iI m)], cR aP cA 96 fP] [0, 1, 2, 3, 4] d_CX_hit_40 (by decide) rfl (⟨by rw [htr_no (by omega) (fun j a b => h3 j a (by omega))], rfl⟩)
    · -- 12: no
      refine g_aload_n XX d_CX_hit_15 rfl 2 rfl ?_
      refine g_iload_n XX d_CX_hit_16 rfl 0 rfl ?_
      refine g_calli (As := [.int (iI p0)]) (st := []) (wr := []) XX (c_CX_stands l D cA x hT hX hP hO hF hR aX aP fX X fP Pt n m p0 (by first | assumption | omega) (by first | assumption | omega) (by first | assumption | omega) (by first | assumption | omega) (by first | assumption | omega) (by first | assumption | omega) (by first | assumption | omega)) (x_cw 1 XX.2.2.2.2.1 (gi kw_77) rfl rfl (tm kw_49) (tm kw_78) (tm kw_79) (tm kw_80) ⟨by decide +kernel, by decide +kernel, by decide +kernel⟩ ⟨by decide, by decide⟩) [0, 1, 2, 3, 4] [] rfl rfl (by decide) (by decide) (by decide) 0 4 rfl rfl rfl rfl (Nat.le_of_ble_eq_true rfl) d_CX_hit_17 ⟨by decide, by decide⟩ (fun r_ w_ hq => ?_)
      obtain ⟨rfl, rfl⟩ := hq
      show xG P0 l E0 rm_CX_hit S0 M0 A0 B0 T0 C0 QQ 4 D vwCl AA 0 0 [cO x 4 [.ref hT, .ref hX, .ref hP, .ref hO, .ref hF, .ref hR], cO hX 0 [.ref aX, .int (iI n)], cR aX cA 96 fX, cO hP 0 [.ref aP, .int (iI m)], cR aP cA 96 fP] 20 [(3, .int (iI p0)), (2, .int (iI c0)), (0, .ref x), (1, .int (iI i))] [.int (iI (if htb Pt m X n p0 then 1 else 0))]
      refine g_if_eq (tgt := 33) XX d_CX_hit_20 (by decide) z01 (fun h20 => ?_) (fun h20 => ?_)
      · -- 20: yes
        refine g_iinc (lv' := [(3, .int (iI (p0 + 1))), (2, .int (iI c0)), (0, .ref x), (1, .int (iI i))]) XX d_CX_hit_33 0 rfl (by decide) rfl ?_
        refine g_goto (tgt := 4) XX d_CX_hit_36 (by decide) ?_
        exact ih_4 _ (by omega) c0 (p0 + 1) (by omega) (by first | (rw [h2, cnt_y (by omega) (z01_1 h20)]; done) | (rw [cnt_n (by omega) (z01_0 h20)]; exact h2)) (by first | exact all_s h3 (fun z => h25 (by rw [h2]; exact z.2)) | exact all_s h3 (fun z => by rw [z01_0 h20] at z; exact absurd z.1 (by decide))) rfl
      · -- 20: no
        refine g_iload_n XX d_CX_hit_23 rfl 1 rfl ?_
        refine g_iload_n XX d_CX_hit_24 rfl 3 rfl ?_
        have q := cnt_rng (P := htb Pt m X n) (n := p0) (by omega)
        refine g_icmp_ne (tgt := 30) XX d_CX_hit_25 (by decide) ⟨by omega, by omega⟩ ⟨by omega, by omega⟩ (fun h25 => ?_) (fun h25 => ?_)
        · -- 25: yes
          refine g_iinc (lv' := [(2, .int (iI (c0 + 1))), (3, .int (iI p0)), (0, .ref x), (1, .int (iI i))]) XX d_CX_hit_30 1 rfl (by decide) rfl ?_
          refine g_iinc (lv' := [(3, .int (iI (p0 + 1))), (2, .int (iI (c0 + 1))), (0, .ref x), (1, .int (iI i))]) XX d_CX_hit_33 1 rfl (by decide) rfl ?_
          refine g_goto (tgt := 4) XX d_CX_hit_36 (by decide) ?_
          exact ih_4 _ (by omega) (c0 + 1) (p0 + 1) (by omega) (by first | (rw [h2, cnt_y (by omega) (z01_1 h20)]; done) | (rw [cnt_n (by omega) (z01_0 h20)]; exact h2)) (by first | exact all_s h3 (fun z => h25 (by rw [h2]; exact z.2)) | exact all_s h3 (fun z => by rw [z01_0 h20] at z; exact absurd z.1 (by decide))) rfl
        · -- 25: no
          refine g_iload_n XX d_CX_hit_28 rfl 0 rfl ?_
          exact ret _ _ _ _ [cO x 4 [.ref hT, .ref hX, .ref hP, .ref hO, .ref hF, .ref hR], cO hX 0 [.ref aX, .int (iI n)], cR aX cA 96 fX, cO hP 0 [.ref aP, .int (iI m)], cR aP cA 96 fP] [0, 1, 2, 3, 4] d_CX_hit_29 (by decide) rfl (⟨by rw [htr_at (by omega) (by omega) h3 (z01_1 h20) (by rw [← h2]; exact h25)], rfl⟩)
  exact L4 _ 0 0 (by omega) ((cnt_0 (by omega)).symm) (fun j a b => by omega) rfl
abbrev rm_CX_match : Room := { frames := 2, cells := 0, slots := 0, locals := 46 }
set_option maxHeartbeats 4000000 in
set_option maxRecDepth 100000 in
theorem c_CX_match (l : Launch) (D : va_G) (cA : ClassId) (x hT hX hP hO hF hR : Nat) (aX aP : Nat) (fX X fP Pt : Int → Int) (n m i : Int) (hn : 0 ≤ n ∧ n ≤ 96) (hm : 0 ≤ m ∧ m ≤ 96) (hfX : ag fX X n) (hbX : bt8 X n) (hfP : ag fP Pt m) (hbP : bt8 Pt m) (hi : -2147483648 ≤ i ∧ i < 2147483648) : xM l y_CX_match w_CX_match rm_CX_match D vwCl [(cA, .int)] [.ref x, .int (iI i)] [cO x 4 [.ref hT, .ref hX, .ref hP, .ref hO, .ref hF, .ref hR], cO hX 0 [.ref aX, .int (iI n)], cR aX cA 96 fX, cO hP 0 [.ref aP, .int (iI m)], cR aP cA 96 fP] (fun r w => r = iI (if 0 ≤ i ∧ i ≤ m then mx (fun q => al Pt m X n i q) (n + 1) else -1) ∧ w = [cO x 4 [.ref hT, .ref hX, .ref hP, .ref hO, .ref hF, .ref hR], cO hX 0 [.ref aX, .int (iI n)], cR aX cA 96 fX, cO hP 0 [.ref aP, .int (iI m)], cR aP cA 96 fP]) 0 0 := by
  refine xM.ofI (by decide) rfl (Nat.le_of_ble_eq_true rfl) ?_
  intro P0 E0 S0 M0 A0 B0 T0 C0 AA QQ XX hnm ret
  refine g_iload_n XX d_CX_match_0 rfl 1 rfl ?_
  refine g_if_lt (tgt := 15) XX d_CX_match_1 (by decide) ⟨by omega, by omega⟩ (fun h1 => ?_) (fun h1 => ?_)
  · -- 1: yes
    have hz : ¬ (0 ≤ i ∧ i ≤ m) := by omega
    refine g_iconst XX d_CX_match_15 ?_
    exact ret _ _ _ _ [cO x 4 [.ref hT, .ref hX, .ref hP, .ref hO, .ref hF, .ref hR], cO hX 0 [.ref aX, .int (iI n)], cR aX cA 96 fX, cO hP 0 [.ref aP, .int (iI m)], cR aP cA 96 fP] [0, 1, 2, 3, 4] d_CX_match_16 (by decide) rfl (⟨by rw [if_neg hz], rfl⟩)
  · -- 1: no
    refine g_iload_n XX d_CX_match_4 rfl 1 rfl ?_
    refine g_aload_n XX d_CX_match_5 rfl 0 rfl ?_
    refine g_get (C := R_CX) (T := T_CX) (N := 6) XX (tmw win0_CX) 0 rfl rfl 2 (by decide) (tm kw_11) rfl rfl d_CX_match_6 ?_
    refine g_get (C := R_BR) (T := T_BR) (N := 2) XX (tmw win0_BR) 3 rfl rfl 1 (by decide) (tm kw_33) rfl rfl d_CX_match_9 ?_
    refine g_icmp_le (tgt := 17) XX d_CX_match_12 (by decide) ⟨by omega, by omega⟩ ⟨by omega, by omega⟩ (fun h12 => ?_) (fun h12 => ?_)
    · -- 12: yes
      have hz : 0 ≤ i ∧ i ≤ m := by omega
      refine g_iconst XX d_CX_match_17 ?_
      refine g_istore_n (lv' := [(2, .int (iI 0)), (0, .ref x), (1, .int (iI i))]) XX d_CX_match_18 rfl (by decide) rfl ?_
      refine g_iconst XX d_CX_match_19 ?_
      refine g_istore_n (lv' := [(3, .int (iI 0)), (2, .int (iI 0)), (0, .ref x), (1, .int (iI i))]) XX d_CX_match_20 rfl (by decide) rfl ?_
      have L21 : ∀ (k_21 : Nat) (b0 : Int) (p0 : Int), (0 ≤ p0 ∧ p0 ≤ n + 1) → (b0 = mx (fun q => al Pt m X n i q) p0) → (n + 1 - p0).toNat = k_21 → xG P0 l E0 rm_CX_match S0 M0 A0 B0 T0 C0 QQ 4 D vwCl AA 0 0 [cO x 4 [.ref hT, .ref hX, .ref hP, .ref hO, .ref hF, .ref hR], cO hX 0 [.ref aX, .int (iI n)], cR aX cA 96 fX, cO hP 0 [.ref aP, .int (iI m)], cR aP cA 96 fP] 21 [(3, .int (iI p0)), (2, .int (iI b0)), (0, .ref x), (1, .int (iI i))] [] := by
        refine x_ind (fun k_21 ih_21 b0 p0 h1 h2 hk_21 => ?_)
        refine g_iload_n XX d_CX_match_21 rfl 0 rfl ?_
        refine g_aload_n XX d_CX_match_22 rfl 2 rfl ?_
        refine g_get (C := R_CX) (T := T_CX) (N := 6) XX (tmw win0_CX) 0 rfl rfl 1 (by decide) (tm kw_10) rfl rfl d_CX_match_23 ?_
        refine g_get (C := R_BR) (T := T_BR) (N := 2) XX (tmw win0_BR) 1 rfl rfl 1 (by decide) (tm kw_33) rfl rfl d_CX_match_26 ?_
        refine g_icmp_gt (tgt := 56) XX d_CX_match_29 (by decide) ⟨by omega, by omega⟩ ⟨by omega, by omega⟩ (fun h29 => ?_) (fun h29 => ?_)
        · -- 29: yes
          refine g_iload_n XX d_CX_match_56 rfl 1 rfl ?_
          exact ret _ _ _ _ [cO x 4 [.ref hT, .ref hX, .ref hP, .ref hO, .ref hF, .ref hR], cO hX 0 [.ref aX, .int (iI n)], cR aX cA 96 fX, cO hP 0 [.ref aP, .int (iI m)], cR aP cA 96 fP] [0, 1, 2, 3, 4] d_CX_match_57 (by decide) rfl (⟨by rw [if_pos hz, h2, show p0 = n + 1 by omega], rfl⟩)
        · -- 29: no
          refine g_iload_n XX d_CX_match_32 rfl 1 rfl ?_
          refine g_aload_n XX d_CX_match_33 rfl 2 rfl ?_
          refine g_get (C := R_CX) (T := T_CX) (N := 6) XX (tmw win0_CX) 0 rfl rfl 2 (by decide) (tm kw_11) rfl rfl d_CX_match_34 ?_
          refine g_iload_n XX d_CX_match_37 rfl 3 rfl ?_
          refine g_aload_n XX d_CX_match_38 rfl 2 rfl ?_
          refine g_get (C := R_CX) (T := T_CX) (N := 6) XX (tmw win0_CX) 0 rfl rfl 1 (by decide) (tm kw_10) rfl rfl d_CX_match_39 ?_
          refine g_iload_n XX d_CX_match_42 rfl 0 rfl ?_
          refine g_calli (As := [.int (iI i), .ref hX, .int (iI p0)]) (st := [.int (iI b0)]) (wr := [cO x 4 [.ref hT, .ref hX, .ref hP, .ref hO, .ref hF, .ref hR]]) XX (c_BR_alike l D cA hP aP hX aX fP fX Pt X m n i p0 (by first | assumption | omega) (by first | assumption | omega) (by first | assumption | omega) (by first | assumption | omega) (by first | assumption | omega) (by first | assumption | omega) (by first | assumption | omega)) (x_cw 3 XX.2.2.2.2.1 (gi kw_81) rfl rfl (tm kw_5) (tm kw_82) (tm kw_83) (tm kw_84) ⟨by decide +kernel, by decide +kernel, by decide +kernel⟩ ⟨by decide, by decide⟩) [3, 4, 1, 2] [0] rfl rfl (by decide) (by decide) (by decide) 3 0 rfl rfl rfl rfl (Nat.le_of_ble_eq_true rfl) d_CX_match_43 ⟨by decide, by decide⟩ (fun r_ w_ hq => ?_)
          obtain ⟨rfl, rfl⟩ := hq
          show xG P0 l E0 rm_CX_match S0 M0 A0 B0 T0 C0 QQ 4 D vwCl AA 0 0 [cO x 4 [.ref hT, .ref hX, .ref hP, .ref hO, .ref hF, .ref hR], cO hP 0 [.ref aP, .int (iI m)], cR aP cA 96 fP, cO hX 0 [.ref aX, .int (iI n)], cR aX cA 96 fX] 46 [(3, .int (iI p0)), (2, .int (iI b0)), (0, .ref x), (1, .int (iI i))] [.int (iI (al Pt m X n i p0)), .int (iI b0)]
          have q := mx_rng (F := fun q => al Pt m X n i q) (n := n + 1) (B := 96) (by omega) (fun j a b => by have := al_rng (f := Pt) (n := m) (g := X) (m := n) (p := i) (q := j) (by omega) (by omega); show al Pt m X n i j ≤ 96; omega) p0 (by omega) (by omega)
          have g := al_rng (f := Pt) (n := m) (g := X) (m := n) (p := i) (q := p0) (by omega) (by omega)
          refine g_mmax XX (tm kw_85) (tm kw_86) (tm kw_63) (tm kw_87) (by decide) (Nat.le_of_ble_eq_true rfl) (by decide) (by decide) ⟨by omega, by omega⟩ ⟨by omega, by omega⟩ d_CX_match_46 ?_
          refine g_istore_n (lv' := [(2, .int (iI (max b0 (al Pt m X n i p0)))), (3, .int (iI p0)), (0, .ref x), (1, .int (iI i))]) XX d_CX_match_49 rfl (by decide) rfl ?_
          refine g_iinc (lv' := [(3, .int (iI (p0 + 1))), (2, .int (iI (max b0 (al Pt m X n i p0)))), (0, .ref x), (1, .int (iI i))]) XX d_CX_match_50 1 rfl (by decide) rfl ?_
          refine g_goto (tgt := 21) XX d_CX_match_53 (by decide) ?_
          refine g_ws (ws' := [cO x 4 [.ref hT, .ref hX, .ref hP, .ref hO, .ref hF, .ref hR], cO hX 0 [.ref aX, .int (iI n)], cR aX cA 96 fX, cO hP 0 [.ref aP, .int (iI m)], cR aP cA 96 fP]) [0, 3, 4, 1, 2] (by decide) rfl ?_
          exact ih_21 _ (by omega) (max b0 (al Pt m X n i p0)) (p0 + 1) (by omega) (by rw [mx_s (by omega), ← h2]) rfl
      exact L21 _ 0 0 (by omega) (rfl) rfl
    · -- 12: no
      have hz : ¬ (0 ≤ i ∧ i ≤ m) := by omega
      refine g_iconst XX d_CX_match_15 ?_
      exact ret _ _ _ _ [cO x 4 [.ref hT, .ref hX, .ref hP, .ref hO, .ref hF, .ref hR], cO hX 0 [.ref aX, .int (iI n)], cR aX cA 96 fX, cO hP 0 [.ref aP, .int (iI m)], cR aP cA 96 fP] [0, 1, 2, 3, 4] d_CX_match_16 (by decide) rfl (⟨by rw [if_neg hz], rfl⟩)
abbrev rm_CX_seek : Room := { frames := 4, cells := 0, slots := 0, locals := 89 }
set_option maxHeartbeats 4000000 in
set_option maxRecDepth 100000 in
theorem c_CX_seek (l : Launch) (D : va_G) (cA : ClassId) (x hT hX hP hO hF hR : Nat) (aT aX aP : Nat) (fT T fX X fP : Int → Int) (t n m : Int) (ht : 0 ≤ t ∧ t ≤ 96) (hn : 0 ≤ n ∧ n ≤ 96) (hfT : ag fT T t) (hbT : bt8 T t) (hfX : ag fX X n) (hbX : bt8 X n) : xM l y_CX_seek w_CX_seek rm_CX_seek D vwCl [(cA, .int)] [.ref x] [cO x 4 [.ref hT, .ref hX, .ref hP, .ref hO, .ref hF, .ref hR], cO hT 0 [.ref aT, .int (iI t)], cR aT cA 96 fT, cO hP 0 [.ref aP, .int (iI m)], cR aP cA 96 fP, cO hX 0 [.ref aX, .int (iI n)], cR aX cA 96 fX] (fun r w => ∃ (fP' : Int → Int), r = iI (cnt (htb T t X n) (n + 1)) ∧ w = [cO x 4 [.ref hT, .ref hX, .ref hP, .ref hO, .ref hF, .ref hR], cO hT 0 [.ref aT, .int (iI 0)], cR aT cA 96 fT, cO hP 0 [.ref aP, .int (iI t)], cR aP cA 96 fP', cO hX 0 [.ref aX, .int (iI n)], cR aX cA 96 fX] ∧ (ag fP' T t)) 0 0 := by
  refine xM.ofI (by decide) rfl (Nat.le_of_ble_eq_true rfl) ?_
  intro P0 E0 S0 M0 A0 B0 T0 C0 AA QQ XX hnm ret
  refine g_aload_n XX d_CX_seek_0 rfl 0 rfl ?_
  refine g_get (C := R_CX) (T := T_CX) (N := 6) XX (tmw win0_CX) 0 rfl rfl 2 (by decide) (tm kw_11) rfl rfl d_CX_seek_1 ?_
  refine g_aload_n XX d_CX_seek_4 rfl 0 rfl ?_
  refine g_get (C := R_CX) (T := T_CX) (N := 6) XX (tmw win0_CX) 0 rfl rfl 0 (by decide) (tm kw_9) rfl rfl d_CX_seek_5 ?_
  refine g_callv (As := [.ref hT]) (st := []) (wr := [cO x 4 [.ref hT, .ref hX, .ref hP, .ref hO, .ref hF, .ref hR], cO hX 0 [.ref aX, .int (iI n)], cR aX cA 96 fX]) XX (c_BR_copy l D cA hP aP hT aT fP fT m t (by first | assumption | omega)) (x_cw 1 XX.2.2.2.2.1 (gi kw_38) rfl rfl (tm kw_5) (tm kw_39) (tm kw_40) (tm kw_41) ⟨by decide +kernel, by decide +kernel, by decide +kernel⟩ ⟨by decide, by decide⟩) [3, 4, 1, 2] [0, 5, 6] rfl rfl (by decide) (by decide) (by decide) 3 0 rfl rfl rfl rfl (Nat.le_of_ble_eq_true rfl) d_CX_seek_8 ⟨by decide, by decide⟩ (fun w_ hq => ?_)
  subst hq
  show xG P0 l E0 rm_CX_seek S0 M0 A0 B0 T0 C0 QQ 1 D vwCl AA 0 0 [cO x 4 [.ref hT, .ref hX, .ref hP, .ref hO, .ref hF, .ref hR], cO hX 0 [.ref aX, .int (iI n)], cR aX cA 96 fX, cO hP 0 [.ref aP, .int (iI t)], cR aP cA 96 (icpy fT fP 0 0 t), cO hT 0 [.ref aT, .int (iI t)], cR aT cA 96 fT] 11 [(0, .ref x)] []
  refine g_aload_n XX d_CX_seek_11 rfl 0 rfl ?_
  refine g_get (C := R_CX) (T := T_CX) (N := 6) XX (tmw win0_CX) 0 rfl rfl 0 (by decide) (tm kw_9) rfl rfl d_CX_seek_12 ?_
  refine g_callv (As := []) (st := []) (wr := [cO x 4 [.ref hT, .ref hX, .ref hP, .ref hO, .ref hF, .ref hR], cO hX 0 [.ref aX, .int (iI n)], cR aX cA 96 fX, cO hP 0 [.ref aP, .int (iI t)], cR aP cA 96 (icpy fT fP 0 0 t), cR aT cA 96 fT]) XX (c_BR_clear l D cA hT aT t ) (x_cw 0 XX.2.2.2.2.1 (gi kw_42) rfl rfl (tm kw_5) (tm kw_43) (tm kw_44) (tm kw_45) ⟨by decide +kernel, by decide +kernel, by decide +kernel⟩ ⟨by decide, by decide⟩) [5] [0, 1, 2, 3, 4, 6] rfl rfl (by decide) (by decide) (by decide) 5 0 rfl rfl rfl rfl (Nat.le_of_ble_eq_true rfl) d_CX_seek_15 ⟨by decide, by decide⟩ (fun w_ hq => ?_)
  subst hq
  show xG P0 l E0 rm_CX_seek S0 M0 A0 B0 T0 C0 QQ 1 D vwCl AA 0 0 [cO x 4 [.ref hT, .ref hX, .ref hP, .ref hO, .ref hF, .ref hR], cO hX 0 [.ref aX, .int (iI n)], cR aX cA 96 fX, cO hP 0 [.ref aP, .int (iI t)], cR aP cA 96 (icpy fT fP 0 0 t), cR aT cA 96 fT, cO hT 0 [.ref aT, .int (iI 0)]] 18 [(0, .ref x)] []
  refine g_aload_n XX d_CX_seek_18 rfl 0 rfl ?_
  refine g_calli (As := []) (st := []) (wr := [cR aT cA 96 fT, cO hT 0 [.ref aT, .int (iI 0)]]) XX (c_CX_count l D cA x hT hX hP hO hF hR aX aP fX X (icpy fT fP 0 0 t) T n t (by first | assumption | omega) (by first | assumption | omega) (by first | assumption | omega) (by first | assumption | omega) (ag_cpy hfT) (hbT)) (x_cw 0 XX.2.2.2.2.1 (gi kw_65) rfl rfl (tm kw_49) (tm kw_66) (tm kw_67) (tm kw_68) ⟨by decide +kernel, by decide +kernel, by decide +kernel⟩ ⟨by decide, by decide⟩) [0, 1, 2, 3, 4] [5, 6] rfl rfl (by decide) (by decide) (by decide) 0 4 rfl rfl rfl rfl (Nat.le_of_ble_eq_true rfl) d_CX_seek_19 ⟨by decide, by decide⟩ (fun r_ w_ hq => ?_)
  obtain ⟨rfl, rfl⟩ := hq
  show xG P0 l E0 rm_CX_seek S0 M0 A0 B0 T0 C0 QQ 1 D vwCl AA 0 0 [cR aT cA 96 fT, cO hT 0 [.ref aT, .int (iI 0)], cO x 4 [.ref hT, .ref hX, .ref hP, .ref hO, .ref hF, .ref hR], cO hX 0 [.ref aX, .int (iI n)], cR aX cA 96 fX, cO hP 0 [.ref aP, .int (iI t)], cR aP cA 96 (icpy fT fP 0 0 t)] 22 [(0, .ref x)] [.int (iI (cnt (htb T t X n) (n + 1)))]
  exact ret _ _ _ _ [cO x 4 [.ref hT, .ref hX, .ref hP, .ref hO, .ref hF, .ref hR], cO hT 0 [.ref aT, .int (iI 0)], cR aT cA 96 fT, cO hP 0 [.ref aP, .int (iI t)], cR aP cA 96 (icpy fT fP 0 0 t), cO hX 0 [.ref aX, .int (iI n)], cR aX cA 96 fX] [2, 1, 0, 5, 6, 3, 4] d_CX_seek_22 (by decide) rfl (⟨icpy fT fP 0 0 t, rfl, rfl, ag_cpy hfT⟩)
abbrev rm_CX_extend : Room := { frames := 4, cells := 0, slots := 0, locals := 89 }
set_option maxHeartbeats 4000000 in
set_option maxRecDepth 100000 in
theorem c_CX_extend (l : Launch) (D : va_G) (cA : ClassId) (x hT hX hP hO hF hR : Nat) (aX aP : Nat) (fX X fP Pt : Int → Int) (n m i : Int) (hn : 0 ≤ n ∧ n ≤ 96) (hm : 0 ≤ m ∧ m ≤ 96) (hfX : ag fX X n) (hbX : bt8 X n) (hfP : ag fP Pt m) (hbP : bt8 Pt m) (hi : -2147483648 ≤ i ∧ i < 2147483648) : xM l y_CX_extend w_CX_extend rm_CX_extend D vwCl [(cA, .int)] [.ref x, .int (iI i)] [cO x 4 [.ref hT, .ref hX, .ref hP, .ref hO, .ref hF, .ref hR], cO hX 0 [.ref aX, .int (iI n)], cR aX cA 96 fX, cO hP 0 [.ref aP, .int (iI m)], cR aP cA 96 fP] (fun r w => ∃ (fP' : Int → Int), r = iI (if exR m i = 0 then cnt (htb (exG Pt m i) (exN m i) X n) (n + 1) else exR m i) ∧ w = [cO x 4 [.ref hT, .ref hX, .ref hP, .ref hO, .ref hF, .ref hR], cO hX 0 [.ref aX, .int (iI n)], cR aX cA 96 fX, cO hP 0 [.ref aP, .int (iI (exN m i))], cR aP cA 96 fP'] ∧ (ag fP' (exG Pt m i) (exN m i))) 0 0 := by
  refine xM.ofI (by decide) rfl (Nat.le_of_ble_eq_true rfl) ?_
  intro P0 E0 S0 M0 A0 B0 T0 C0 AA QQ XX hnm ret
  refine g_iload_n XX d_CX_extend_0 rfl 1 rfl ?_
  refine g_if_lt (tgt := 11) XX d_CX_extend_1 (by decide) ⟨by omega, by omega⟩ (fun h1 => ?_) (fun h1 => ?_)
  · -- 1: yes
    have hz : exR m i = -1 := exR_bad (by omega)
    refine g_iconst XX d_CX_extend_11 ?_
    exact ret _ _ _ _ [cO x 4 [.ref hT, .ref hX, .ref hP, .ref hO, .ref hF, .ref hR], cO hX 0 [.ref aX, .int (iI n)], cR aX cA 96 fX, cO hP 0 [.ref aP, .int (iI m)], cR aP cA 96 fP] [0, 1, 2, 3, 4] d_CX_extend_12 (by decide) rfl (⟨fP, by rw [if_neg (by omega), hz], by rw [exN_bad (by omega)], by rw [exN_bad (by omega), exG_bad (by omega)]; exact hfP⟩)
  · -- 1: no
    refine g_iload_n XX d_CX_extend_4 rfl 1 rfl ?_
    refine g_sipush (v := 256) XX d_CX_extend_5 (by decide) ?_
    refine g_icmp_lt (tgt := 13) XX d_CX_extend_8 (by decide) ⟨by omega, by omega⟩ ⟨by omega, by omega⟩ (fun h8 => ?_) (fun h8 => ?_)
    · -- 8: yes
      refine g_aload_n XX d_CX_extend_13 rfl 0 rfl ?_
      refine g_get (C := R_CX) (T := T_CX) (N := 6) XX (tmw win0_CX) 0 rfl rfl 2 (by decide) (tm kw_11) rfl rfl d_CX_extend_14 ?_
      refine g_get (C := R_BR) (T := T_BR) (N := 2) XX (tmw win0_BR) 3 rfl rfl 1 (by decide) (tm kw_33) rfl rfl d_CX_extend_17 ?_
      refine g_bipush (v := 96) XX d_CX_extend_20 (by decide) ?_
      refine g_icmp_lt (tgt := 28) XX d_CX_extend_22 (by decide) ⟨by omega, by omega⟩ ⟨by omega, by omega⟩ (fun h22 => ?_) (fun h22 => ?_)
      · -- 22: yes
        have hz : exR m i = 0 := exR_ok (by omega) (by omega)
        refine g_aload_n XX d_CX_extend_28 rfl 0 rfl ?_
        refine g_get (C := R_CX) (T := T_CX) (N := 6) XX (tmw win0_CX) 0 rfl rfl 2 (by decide) (tm kw_11) rfl rfl d_CX_extend_29 ?_
        refine g_iload_n XX d_CX_extend_32 rfl 1 rfl ?_
        refine g_callv (As := [.int (iI i)]) (st := []) (wr := [cO x 4 [.ref hT, .ref hX, .ref hP, .ref hO, .ref hF, .ref hR], cO hX 0 [.ref aX, .int (iI n)], cR aX cA 96 fX]) XX (c_BR_front l D cA hP aP fP m i (by first | assumption | omega)) (x_cw 1 XX.2.2.2.2.1 (gi kw_69) rfl rfl (tm kw_5) (tm kw_70) (tm kw_71) (tm kw_72) ⟨by decide +kernel, by decide +kernel, by decide +kernel⟩ ⟨by decide, by decide⟩) [3, 4] [0, 1, 2] rfl rfl (by decide) (by decide) (by decide) 3 0 rfl rfl rfl rfl (Nat.le_of_ble_eq_true rfl) d_CX_extend_33 ⟨by decide, by decide⟩ (fun w_ hq => ?_)
        subst hq
        show xG P0 l E0 rm_CX_extend S0 M0 A0 B0 T0 C0 QQ 2 D vwCl AA 0 0 [cO x 4 [.ref hT, .ref hX, .ref hP, .ref hO, .ref hF, .ref hR], cO hX 0 [.ref aX, .int (iI n)], cR aX cA 96 fX, cO hP 0 [.ref aP, .int (iI (m + 1))], cR aP cA 96 (iup (icpy fP fP 0 1 m) 0 i)] 36 [(0, .ref x), (1, .int (iI i))] []
        refine g_aload_n XX d_CX_extend_36 rfl 0 rfl ?_
        refine g_calli (As := []) (st := []) (wr := []) XX (c_CX_count l D cA x hT hX hP hO hF hR aX aP fX X (iup (icpy fP fP 0 1 m) 0 i) (exG Pt m i) n (m + 1) (by first | assumption | omega) (by first | assumption | omega) (by first | assumption | omega) (by first | assumption | omega) (ex_ag hz hfP) (by have := exG_bt (b := i) hbP; rwa [exN_ok hz] at this)) (x_cw 0 XX.2.2.2.2.1 (gi kw_65) rfl rfl (tm kw_49) (tm kw_66) (tm kw_67) (tm kw_68) ⟨by decide +kernel, by decide +kernel, by decide +kernel⟩ ⟨by decide, by decide⟩) [0, 1, 2, 3, 4] [] rfl rfl (by decide) (by decide) (by decide) 0 4 rfl rfl rfl rfl (Nat.le_of_ble_eq_true rfl) d_CX_extend_37 ⟨by decide, by decide⟩ (fun r_ w_ hq => ?_)
        obtain ⟨rfl, rfl⟩ := hq
        show xG P0 l E0 rm_CX_extend S0 M0 A0 B0 T0 C0 QQ 2 D vwCl AA 0 0 [cO x 4 [.ref hT, .ref hX, .ref hP, .ref hO, .ref hF, .ref hR], cO hX 0 [.ref aX, .int (iI n)], cR aX cA 96 fX, cO hP 0 [.ref aP, .int (iI (m + 1))], cR aP cA 96 (iup (icpy fP fP 0 1 m) 0 i)] 40 [(0, .ref x), (1, .int (iI i))] [.int (iI (cnt (htb (exG Pt m i) (m + 1) X n) (n + 1)))]
        exact ret _ _ _ _ [cO x 4 [.ref hT, .ref hX, .ref hP, .ref hO, .ref hF, .ref hR], cO hX 0 [.ref aX, .int (iI n)], cR aX cA 96 fX, cO hP 0 [.ref aP, .int (iI (m + 1))], cR aP cA 96 (iup (icpy fP fP 0 1 m) 0 i)] [0, 1, 2, 3, 4] d_CX_extend_40 (by decide) rfl (⟨iup (icpy fP fP 0 1 m) 0 i, by rw [if_pos hz, exN_ok hz], by rw [exN_ok hz], by rw [exN_ok hz]; exact ex_ag hz hfP⟩)
      · -- 22: no
        have hz : exR m i = -3 := exR_full (by omega) (by omega)
        refine g_bipush (v := -3) XX d_CX_extend_25 (by decide) ?_
        exact ret _ _ _ _ [cO x 4 [.ref hT, .ref hX, .ref hP, .ref hO, .ref hF, .ref hR], cO hX 0 [.ref aX, .int (iI n)], cR aX cA 96 fX, cO hP 0 [.ref aP, .int (iI m)], cR aP cA 96 fP] [0, 1, 2, 3, 4] d_CX_extend_27 (by decide) rfl (⟨fP, by rw [if_neg (by omega), hz], by rw [exN_bad (by omega)], by rw [exN_bad (by omega), exG_bad (by omega)]; exact hfP⟩)
    · -- 8: no
      have hz : exR m i = -1 := exR_bad (by omega)
      refine g_iconst XX d_CX_extend_11 ?_
      exact ret _ _ _ _ [cO x 4 [.ref hT, .ref hX, .ref hP, .ref hO, .ref hF, .ref hR], cO hX 0 [.ref aX, .int (iI n)], cR aX cA 96 fX, cO hP 0 [.ref aP, .int (iI m)], cR aP cA 96 fP] [0, 1, 2, 3, 4] d_CX_extend_12 (by decide) rfl (⟨fP, by rw [if_neg (by omega), hz], by rw [exN_bad (by omega)], by rw [exN_bad (by omega), exG_bad (by omega)]; exact hfP⟩)
abbrev rm_CX_arrange : Room := { frames := 3, cells := 0, slots := 0, locals := 71 }
set_option maxHeartbeats 4000000 in
set_option maxRecDepth 100000 in
theorem c_CX_arrange (l : Launch) (D : va_G) (cA : ClassId) (x hT hX hP hO hF hR : Nat) (aX o1 o2 o3 o4 n1 l1 : Nat) (fX X sa ro co cl nu li : Int → Int) (n : Int) (hn : 0 ≤ n ∧ n ≤ 96) (hfX : ag fX X n) (hbX : bt8 X n) : xV l y_CX_arrangeText w_CX_arrangeText rm_CX_arrange D vwCl [(cA, .int)] [.ref x] [cO x 4 [.ref hT, .ref hX, .ref hP, .ref hO, .ref hF, .ref hR], cO hX 0 [.ref aX, .int (iI n)], cR aX cA 96 fX, cO hO 3 [.ref o1, .ref o2, .ref o3, .ref o4], cR o1 cA 97 sa, cR o2 cA 97 ro, cR o3 cA 96 co, cR o4 cA 97 cl, cO hF 2 [.ref n1, .ref l1], cR n1 cA 97 nu, cR l1 cA 257 li] (fun w => ∃ (sa' : Int → Int), ∃ (ro' : Int → Int), ∃ (co' : Int → Int), ∃ (cl' : Int → Int), ∃ (nu' : Int → Int), ∃ (li' : Int → Int), w = [cO x 4 [.ref hT, .ref hX, .ref hP, .ref hO, .ref hF, .ref hR], cO hX 0 [.ref aX, .int (iI n)], cR aX cA 96 fX, cO hO 3 [.ref o1, .ref o2, .ref o3, .ref o4], cR o1 cA 97 sa', cR o2 cA 97 ro', cR o3 cA 96 co', cR o4 cA 97 cl', cO hF 2 [.ref n1, .ref l1], cR n1 cA 97 nu', cR l1 cA 257 li'] ∧ (cxi X n fX sa' ro' co' cl' nu')) 0 0 := by
  refine xV.of (by decide) rfl (Nat.le_of_ble_eq_true rfl) ?_
  intro P0 E0 S0 M0 A0 B0 T0 C0 AA QQ XX hnm ret
  refine g_aload_n XX d_CX_arrangeText_0 rfl 0 rfl ?_
  refine g_get (C := R_CX) (T := T_CX) (N := 6) XX (tmw win0_CX) 0 rfl rfl 3 (by decide) (tm kw_18) rfl rfl d_CX_arrangeText_1 ?_
  refine g_aload_n XX d_CX_arrangeText_4 rfl 0 rfl ?_
  refine g_get (C := R_CX) (T := T_CX) (N := 6) XX (tmw win0_CX) 0 rfl rfl 1 (by decide) (tm kw_10) rfl rfl d_CX_arrangeText_5 ?_
  refine g_callv (As := [.ref hX]) (st := []) (wr := [cO x 4 [.ref hT, .ref hX, .ref hP, .ref hO, .ref hF, .ref hR], cO hF 2 [.ref n1, .ref l1], cR n1 cA 97 nu, cR l1 cA 257 li]) XX (c_SO_arrange l D cA hO o1 o2 o3 o4 hX aX sa ro co cl fX X n (by first | assumption | omega) (by first | assumption | omega) (by first | assumption | omega)) (x_cw 1 XX.2.2.2.2.1 (gi kw_100) rfl rfl (tm kw_14) (tm kw_101) (tm kw_102) (tm kw_103) ⟨by decide +kernel, by decide +kernel, by decide +kernel⟩ ⟨by decide, by decide⟩) [3, 4, 5, 6, 7, 1, 2] [0, 8, 9, 10] rfl rfl (by decide) (by decide) (by decide) 3 3 rfl rfl rfl rfl (Nat.le_of_ble_eq_true rfl) d_CX_arrangeText_8 ⟨by decide, by decide⟩ (fun w_ hq => ?_)
  obtain ⟨sa1, ro1, co1, cl1, rfl, u8_0, u8_1, u8_2, u8_3⟩ := hq
  show xG P0 l E0 rm_CX_arrange S0 M0 A0 B0 T0 C0 QQ 1 D vwCl AA 0 0 [cO x 4 [.ref hT, .ref hX, .ref hP, .ref hO, .ref hF, .ref hR], cO hF 2 [.ref n1, .ref l1], cR n1 cA 97 nu, cR l1 cA 257 li, cO hO 3 [.ref o1, .ref o2, .ref o3, .ref o4], cR o1 cA 97 sa1, cR o2 cA 97 ro1, cR o3 cA 96 co1, cR o4 cA 97 cl1, cO hX 0 [.ref aX, .int (iI n)], cR aX cA 96 fX] 11 [(0, .ref x)] []
  refine g_aload_n XX d_CX_arrangeText_11 rfl 0 rfl ?_
  refine g_get (C := R_CX) (T := T_CX) (N := 6) XX (tmw win0_CX) 0 rfl rfl 4 (by decide) (tm kw_25) rfl rfl d_CX_arrangeText_12 ?_
  refine g_aload_n XX d_CX_arrangeText_15 rfl 0 rfl ?_
  refine g_get (C := R_CX) (T := T_CX) (N := 6) XX (tmw win0_CX) 0 rfl rfl 3 (by decide) (tm kw_18) rfl rfl d_CX_arrangeText_16 ?_
  refine g_get (C := R_SO) (T := T_SO) (N := 4) XX (tmw win0_SO) 4 rfl rfl 3 (by decide) (tm kw_58) rfl rfl d_CX_arrangeText_19 ?_
  refine g_aload_n XX d_CX_arrangeText_22 rfl 0 rfl ?_
  refine g_get (C := R_CX) (T := T_CX) (N := 6) XX (tmw win0_CX) 0 rfl rfl 1 (by decide) (tm kw_10) rfl rfl d_CX_arrangeText_23 ?_
  refine g_get (C := R_BR) (T := T_BR) (N := 2) XX (tmw win0_BR) 9 rfl rfl 1 (by decide) (tm kw_33) rfl rfl d_CX_arrangeText_26 ?_
  refine g_callv (As := [.ref o4, .int (iI n)]) (st := []) (wr := [cO x 4 [.ref hT, .ref hX, .ref hP, .ref hO, .ref hF, .ref hR], cO hO 3 [.ref o1, .ref o2, .ref o3, .ref o4], cR o1 cA 97 sa1, cR o2 cA 97 ro1, cR o3 cA 96 co1, cO hX 0 [.ref aX, .int (iI n)], cR aX cA 96 fX]) XX (c_FL_number l D cA hF n1 l1 o4 nu li cl1 (cX X n) n (by first | assumption | omega) (by first | assumption | omega) (fun j a b => cX_sy hbX a (by omega))) (x_cw 2 XX.2.2.2.2.1 (gi kw_104) rfl rfl (tm kw_21) (tm kw_105) (tm kw_106) (tm kw_107) ⟨by decide +kernel, by decide +kernel, by decide +kernel⟩ ⟨by decide, by decide⟩) [1, 2, 3, 8] [0, 4, 5, 6, 7, 9, 10] rfl rfl (by decide) (by decide) (by decide) 1 2 rfl rfl rfl rfl (Nat.le_of_ble_eq_true rfl) d_CX_arrangeText_29 ⟨by decide, by decide⟩ (fun w_ hq => ?_)
  obtain ⟨nu1, li1, rfl, u29_0⟩ := hq
  show xG P0 l E0 rm_CX_arrange S0 M0 A0 B0 T0 C0 QQ 1 D vwCl AA 0 0 [cO x 4 [.ref hT, .ref hX, .ref hP, .ref hO, .ref hF, .ref hR], cO hO 3 [.ref o1, .ref o2, .ref o3, .ref o4], cR o1 cA 97 sa1, cR o2 cA 97 ro1, cR o3 cA 96 co1, cO hX 0 [.ref aX, .int (iI n)], cR aX cA 96 fX, cO hF 2 [.ref n1, .ref l1], cR n1 cA 97 nu1, cR l1 cA 257 li1, cR o4 cA 97 cl1] 32 [(0, .ref x)] []
  exact ret _ _ _ [cO x 4 [.ref hT, .ref hX, .ref hP, .ref hO, .ref hF, .ref hR], cO hX 0 [.ref aX, .int (iI n)], cR aX cA 96 fX, cO hO 3 [.ref o1, .ref o2, .ref o3, .ref o4], cR o1 cA 97 sa1, cR o2 cA 97 ro1, cR o3 cA 96 co1, cR o4 cA 97 cl1, cO hF 2 [.ref n1, .ref l1], cR n1 cA 97 nu1, cR l1 cA 257 li1] [0, 5, 6, 1, 2, 3, 4, 10, 7, 8, 9] d_CX_arrangeText_32 (by decide) rfl (⟨sa1, ro1, co1, cl1, nu1, li1, rfl, ⟨hfX, hbX, hn, u8_0, u8_1, u8_2, u8_3, u29_0⟩⟩)
abbrev rm_CX_build : Room := { frames := 4, cells := 0, slots := 0, locals := 91 }
set_option maxHeartbeats 4000000 in
set_option maxRecDepth 100000 in
theorem c_CX_build (l : Launch) (D : va_G) (cA : ClassId) (x hT hX hP hO hF hR : Nat) (aT aX o1 o2 o3 o4 n1 l1 : Nat) (fT T fX sa ro co cl nu li : Int → Int) (t n : Int) (ht : 0 ≤ t ∧ t ≤ 96) (hfT : ag fT T t) (hbT : bt8 T t) : xM l y_CX_build w_CX_build rm_CX_build D vwCl [(cA, .int)] [.ref x] [cO x 4 [.ref hT, .ref hX, .ref hP, .ref hO, .ref hF, .ref hR], cO hT 0 [.ref aT, .int (iI t)], cR aT cA 96 fT, cO hX 0 [.ref aX, .int (iI n)], cR aX cA 96 fX, cO hO 3 [.ref o1, .ref o2, .ref o3, .ref o4], cR o1 cA 97 sa, cR o2 cA 97 ro, cR o3 cA 96 co, cR o4 cA 97 cl, cO hF 2 [.ref n1, .ref l1], cR n1 cA 97 nu, cR l1 cA 257 li] (fun r w => ∃ (fX' : Int → Int), ∃ (sa' : Int → Int), ∃ (ro' : Int → Int), ∃ (co' : Int → Int), ∃ (cl' : Int → Int), ∃ (nu' : Int → Int), ∃ (li' : Int → Int), r = iI t ∧ w = [cO x 4 [.ref hT, .ref hX, .ref hP, .ref hO, .ref hF, .ref hR], cO hT 0 [.ref aT, .int (iI 0)], cR aT cA 96 fT, cO hX 0 [.ref aX, .int (iI t)], cR aX cA 96 fX', cO hO 3 [.ref o1, .ref o2, .ref o3, .ref o4], cR o1 cA 97 sa', cR o2 cA 97 ro', cR o3 cA 96 co', cR o4 cA 97 cl', cO hF 2 [.ref n1, .ref l1], cR n1 cA 97 nu', cR l1 cA 257 li'] ∧ (cxi T t fX' sa' ro' co' cl' nu')) 0 0 := by
  refine xM.ofI (by decide) rfl (Nat.le_of_ble_eq_true rfl) ?_
  intro P0 E0 S0 M0 A0 B0 T0 C0 AA QQ XX hnm ret
  refine g_aload_n XX d_CX_build_0 rfl 0 rfl ?_
  refine g_get (C := R_CX) (T := T_CX) (N := 6) XX (tmw win0_CX) 0 rfl rfl 1 (by decide) (tm kw_10) rfl rfl d_CX_build_1 ?_
  refine g_aload_n XX d_CX_build_4 rfl 0 rfl ?_
  refine g_get (C := R_CX) (T := T_CX) (N := 6) XX (tmw win0_CX) 0 rfl rfl 0 (by decide) (tm kw_9) rfl rfl d_CX_build_5 ?_
  refine g_callv (As := [.ref hT]) (st := []) (wr := [cO x 4 [.ref hT, .ref hX, .ref hP, .ref hO, .ref hF, .ref hR], cO hO 3 [.ref o1, .ref o2, .ref o3, .ref o4], cR o1 cA 97 sa, cR o2 cA 97 ro, cR o3 cA 96 co, cR o4 cA 97 cl, cO hF 2 [.ref n1, .ref l1], cR n1 cA 97 nu, cR l1 cA 257 li]) XX (c_BR_copy l D cA hX aX hT aT fX fT n t (by first | assumption | omega)) (x_cw 1 XX.2.2.2.2.1 (gi kw_38) rfl rfl (tm kw_5) (tm kw_39) (tm kw_40) (tm kw_41) ⟨by decide +kernel, by decide +kernel, by decide +kernel⟩ ⟨by decide, by decide⟩) [3, 4, 1, 2] [0, 5, 6, 7, 8, 9, 10, 11, 12] rfl rfl (by decide) (by decide) (by decide) 3 0 rfl rfl rfl rfl (Nat.le_of_ble_eq_true rfl) d_CX_build_8 ⟨by decide, by decide⟩ (fun w_ hq => ?_)
  subst hq
  show xG P0 l E0 rm_CX_build S0 M0 A0 B0 T0 C0 QQ 1 D vwCl AA 0 0 [cO x 4 [.ref hT, .ref hX, .ref hP, .ref hO, .ref hF, .ref hR], cO hO 3 [.ref o1, .ref o2, .ref o3, .ref o4], cR o1 cA 97 sa, cR o2 cA 97 ro, cR o3 cA 96 co, cR o4 cA 97 cl, cO hF 2 [.ref n1, .ref l1], cR n1 cA 97 nu, cR l1 cA 257 li, cO hX 0 [.ref aX, .int (iI t)], cR aX cA 96 (icpy fT fX 0 0 t), cO hT 0 [.ref aT, .int (iI t)], cR aT cA 96 fT] 11 [(0, .ref x)] []
  refine g_aload_n XX d_CX_build_11 rfl 0 rfl ?_
  refine g_get (C := R_CX) (T := T_CX) (N := 6) XX (tmw win0_CX) 0 rfl rfl 0 (by decide) (tm kw_9) rfl rfl d_CX_build_12 ?_
  refine g_callv (As := []) (st := []) (wr := [cO x 4 [.ref hT, .ref hX, .ref hP, .ref hO, .ref hF, .ref hR], cO hO 3 [.ref o1, .ref o2, .ref o3, .ref o4], cR o1 cA 97 sa, cR o2 cA 97 ro, cR o3 cA 96 co, cR o4 cA 97 cl, cO hF 2 [.ref n1, .ref l1], cR n1 cA 97 nu, cR l1 cA 257 li, cO hX 0 [.ref aX, .int (iI t)], cR aX cA 96 (icpy fT fX 0 0 t), cR aT cA 96 fT]) XX (c_BR_clear l D cA hT aT t ) (x_cw 0 XX.2.2.2.2.1 (gi kw_42) rfl rfl (tm kw_5) (tm kw_43) (tm kw_44) (tm kw_45) ⟨by decide +kernel, by decide +kernel, by decide +kernel⟩ ⟨by decide, by decide⟩) [11] [0, 1, 2, 3, 4, 5, 6, 7, 8, 9, 10, 12] rfl rfl (by decide) (by decide) (by decide) 11 0 rfl rfl rfl rfl (Nat.le_of_ble_eq_true rfl) d_CX_build_15 ⟨by decide, by decide⟩ (fun w_ hq => ?_)
  subst hq
  show xG P0 l E0 rm_CX_build S0 M0 A0 B0 T0 C0 QQ 1 D vwCl AA 0 0 [cO x 4 [.ref hT, .ref hX, .ref hP, .ref hO, .ref hF, .ref hR], cO hO 3 [.ref o1, .ref o2, .ref o3, .ref o4], cR o1 cA 97 sa, cR o2 cA 97 ro, cR o3 cA 96 co, cR o4 cA 97 cl, cO hF 2 [.ref n1, .ref l1], cR n1 cA 97 nu, cR l1 cA 257 li, cO hX 0 [.ref aX, .int (iI t)], cR aX cA 96 (icpy fT fX 0 0 t), cR aT cA 96 fT, cO hT 0 [.ref aT, .int (iI 0)]] 18 [(0, .ref x)] []
  refine g_aload_n XX d_CX_build_18 rfl 0 rfl ?_
  refine g_callv (As := []) (st := []) (wr := [cR aT cA 96 fT, cO hT 0 [.ref aT, .int (iI 0)]]) XX (c_CX_arrange l D cA x hT hX hP hO hF hR aX o1 o2 o3 o4 n1 l1 (icpy fT fX 0 0 t) T sa ro co cl nu li t (by first | assumption | omega) (ag_cpy hfT) (hbT)) (x_cw 0 XX.2.2.2.2.1 (gi kw_46) rfl rfl (tm kw_49) (tm kw_47) (tm kw_48) (tm kw_50) ⟨by decide +kernel, by decide +kernel, by decide +kernel⟩ ⟨by decide, by decide⟩) [0, 9, 10, 1, 2, 3, 4, 5, 6, 7, 8] [11, 12] rfl rfl (by decide) (by decide) (by decide) 0 4 rfl rfl rfl rfl (Nat.le_of_ble_eq_true rfl) d_CX_build_19 ⟨by decide, by decide⟩ (fun w_ hq => ?_)
  obtain ⟨sa1, ro1, co1, cl1, nu1, li1, rfl, u19_0⟩ := hq
  show xG P0 l E0 rm_CX_build S0 M0 A0 B0 T0 C0 QQ 1 D vwCl AA 0 0 [cR aT cA 96 fT, cO hT 0 [.ref aT, .int (iI 0)], cO x 4 [.ref hT, .ref hX, .ref hP, .ref hO, .ref hF, .ref hR], cO hX 0 [.ref aX, .int (iI t)], cR aX cA 96 (icpy fT fX 0 0 t), cO hO 3 [.ref o1, .ref o2, .ref o3, .ref o4], cR o1 cA 97 sa1, cR o2 cA 97 ro1, cR o3 cA 96 co1, cR o4 cA 97 cl1, cO hF 2 [.ref n1, .ref l1], cR n1 cA 97 nu1, cR l1 cA 257 li1] 22 [(0, .ref x)] []
  refine g_aload_n XX d_CX_build_22 rfl 0 rfl ?_
  refine g_get (C := R_CX) (T := T_CX) (N := 6) XX (tmw win0_CX) 2 rfl rfl 1 (by decide) (tm kw_10) rfl rfl d_CX_build_23 ?_
  refine g_get (C := R_BR) (T := T_BR) (N := 2) XX (tmw win0_BR) 3 rfl rfl 1 (by decide) (tm kw_33) rfl rfl d_CX_build_26 ?_
  exact ret _ _ _ _ [cO x 4 [.ref hT, .ref hX, .ref hP, .ref hO, .ref hF, .ref hR], cO hT 0 [.ref aT, .int (iI 0)], cR aT cA 96 fT, cO hX 0 [.ref aX, .int (iI t)], cR aX cA 96 (icpy fT fX 0 0 t), cO hO 3 [.ref o1, .ref o2, .ref o3, .ref o4], cR o1 cA 97 sa1, cR o2 cA 97 ro1, cR o3 cA 96 co1, cR o4 cA 97 cl1, cO hF 2 [.ref n1, .ref l1], cR n1 cA 97 nu1, cR l1 cA 257 li1] [2, 1, 0, 3, 4, 5, 6, 7, 8, 9, 10, 11, 12] d_CX_build_29 (by decide) rfl (⟨icpy fT fX 0 0 t, sa1, ro1, co1, cl1, nu1, li1, rfl, rfl, u19_0⟩)
abbrev rm_CX_type : Room := { frames := 1, cells := 0, slots := 0, locals := 21 }
set_option maxHeartbeats 4000000 in
set_option maxRecDepth 100000 in
theorem c_CX_type (l : Launch) (D : va_G) (cA : ClassId) (x hT hX hP hO hF hR : Nat) (aT : Nat) (fT T : Int → Int) (bits : Int64) (t i : Int) (ht : 0 ≤ t ∧ t ≤ 96) (hfT : ag fT T t) (hi : -2147483648 ≤ i ∧ i < 2147483648) : xM l y_CX_type w_CX_type rm_CX_type D vwCl [(cA, .int)] [.ref x, .long bits, .int (iI i)] [cO x 4 [.ref hT, .ref hX, .ref hP, .ref hO, .ref hF, .ref hR], cO hT 0 [.ref aT, .int (iI t)], cR aT cA 96 fT] (fun r w => ∃ (fT' : Int → Int), r = iI (tyR t i) ∧ w = [cO x 4 [.ref hT, .ref hX, .ref hP, .ref hO, .ref hF, .ref hR], cO hT 0 [.ref aT, .int (iI (tyN t i))], cR aT cA 96 fT'] ∧ (ag fT' (tyG T t bits i) (tyN t i))) 0 0 := by
  refine xM.ofI (by decide) rfl (Nat.le_of_ble_eq_true rfl) ?_
  intro P0 E0 S0 M0 A0 B0 T0 C0 AA QQ XX hnm ret
  refine g_iload_n XX d_CX_type_0 rfl 2 rfl ?_
  refine g_iconst XX d_CX_type_1 ?_
  refine g_icmp_lt (tgt := 11) XX d_CX_type_2 (by decide) ⟨by omega, by omega⟩ ⟨by omega, by omega⟩ (fun h2 => ?_) (fun h2 => ?_)
  · -- 2: yes
    have hz := ty_bad (t := t) (i := i) (by omega)
    refine g_iconst XX d_CX_type_11 ?_
    exact ret _ _ _ _ [cO x 4 [.ref hT, .ref hX, .ref hP, .ref hO, .ref hF, .ref hR], cO hT 0 [.ref aT, .int (iI t)], cR aT cA 96 fT] [0, 1, 2] d_CX_type_12 (by decide) rfl (⟨fT, by rw [hz.1], by rw [hz.2], by rw [hz.2]; exact tyG_ag hfT⟩)
  · -- 2: no
    refine g_iload_n XX d_CX_type_5 rfl 2 rfl ?_
    refine g_bipush (v := 8) XX d_CX_type_6 (by decide) ?_
    refine g_icmp_le (tgt := 13) XX d_CX_type_8 (by decide) ⟨by omega, by omega⟩ ⟨by omega, by omega⟩ (fun h8 => ?_) (fun h8 => ?_)
    · -- 8: yes
      refine g_iload_n XX d_CX_type_13 rfl 2 rfl ?_
      refine g_bipush (v := 96) XX d_CX_type_14 (by decide) ?_
      refine g_aload_n XX d_CX_type_16 rfl 0 rfl ?_
      refine g_get (C := R_CX) (T := T_CX) (N := 6) XX (tmw win0_CX) 0 rfl rfl 0 (by decide) (tm kw_9) rfl rfl d_CX_type_17 ?_
      refine g_get (C := R_BR) (T := T_BR) (N := 2) XX (tmw win0_BR) 1 rfl rfl 1 (by decide) (tm kw_33) rfl rfl d_CX_type_20 ?_
      refine g_isub XX d_CX_type_23 ?_
      refine g_icmp_le (tgt := 30) XX d_CX_type_24 (by decide) ⟨by omega, by omega⟩ ⟨by omega, by omega⟩ (fun h24 => ?_) (fun h24 => ?_)
      · -- 24: yes
        have hz := ty_ok (t := t) (i := i) (by omega) (by omega)
        refine g_iload_n XX d_CX_type_30 rfl 2 rfl ?_
        refine g_iconst XX d_CX_type_31 ?_
        refine g_isub XX d_CX_type_32 ?_
        refine g_istore (lv' := [(4, .int (iI (i - 1))), (0, .ref x), (1, .long bits), (3, .int (iI i))]) XX d_CX_type_33 (by decide) rfl ?_
        have L35 : ∀ (k_35 : Nat) (k0 : Int) (L0 : Int) (fT2 : Int → Int), (-1 ≤ k0 ∧ k0 ≤ i - 1) → (L0 = t + (i - 1 - k0)) → (ag fT2 (tyG T t bits i) L0) → (k0 + 1).toNat = k_35 → xG P0 l E0 rm_CX_type S0 M0 A0 B0 T0 C0 QQ 5 D vwCl AA 0 0 [cO x 4 [.ref hT, .ref hX, .ref hP, .ref hO, .ref hF, .ref hR], cO hT 0 [.ref aT, .int (iI L0)], cR aT cA 96 fT2] 35 [(4, .int (iI k0)), (0, .ref x), (1, .long bits), (3, .int (iI i))] [] := by
          refine x_ind (fun k_35 ih_35 k0 L0 fT2 h1 h2 h3 hk_35 => ?_)
          refine g_iload XX d_CX_type_35 0 rfl ?_
          refine g_if_lt (tgt := 65) XX d_CX_type_37 (by decide) ⟨by omega, by omega⟩ (fun h37 => ?_) (fun h37 => ?_)
          · -- 37: yes
            refine g_aload_n XX d_CX_type_65 rfl 1 rfl ?_
            refine g_get (C := R_CX) (T := T_CX) (N := 6) XX (tmw win0_CX) 0 rfl rfl 0 (by decide) (tm kw_9) rfl rfl d_CX_type_66 ?_
            refine g_get (C := R_BR) (T := T_BR) (N := 2) XX (tmw win0_BR) 1 rfl rfl 1 (by decide) (tm kw_33) rfl rfl d_CX_type_69 ?_
            exact ret _ _ _ _ [cO x 4 [.ref hT, .ref hX, .ref hP, .ref hO, .ref hF, .ref hR], cO hT 0 [.ref aT, .int (iI L0)], cR aT cA 96 fT2] [0, 1, 2] d_CX_type_72 (by decide) rfl (⟨fT2, by rw [hz.1, show L0 = t + i by omega], by rw [hz.2, show L0 = t + i by omega], by rw [hz.2, show t + i = L0 by omega]; exact h3⟩)
          · -- 37: no
            refine g_aload_n XX d_CX_type_40 rfl 1 rfl ?_
            refine g_get (C := R_CX) (T := T_CX) (N := 6) XX (tmw win0_CX) 0 rfl rfl 0 (by decide) (tm kw_9) rfl rfl d_CX_type_41 ?_
            refine g_lload_n XX d_CX_type_44 rfl 2 rfl ?_
            refine g_bipush (v := 8) XX d_CX_type_45 (by decide) ?_
            refine g_iload XX d_CX_type_47 0 rfl ?_
            refine g_imul XX d_CX_type_49 ?_
            refine g_lushr XX d_CX_type_50 rfl ?_
            refine g_l2i XX d_CX_type_51 rfl ?_
            refine g_sipush (v := 255) XX d_CX_type_52 (by decide) ?_
            refine g_iand XX d_CX_type_55 (tb_cls bits k0) ?_
            refine g_callv (As := [.int (iI (tb bits k0))]) (st := []) (wr := [cO x 4 [.ref hT, .ref hX, .ref hP, .ref hO, .ref hF, .ref hR]]) XX (c_BR_append l D cA hT aT fT2 L0 (tb bits k0) (by first | assumption | omega)) (x_cw 1 XX.2.2.2.2.1 (gi kw_34) rfl rfl (tm kw_5) (tm kw_35) (tm kw_36) (tm kw_37) ⟨by decide +kernel, by decide +kernel, by decide +kernel⟩ ⟨by decide, by decide⟩) [1, 2] [0] rfl rfl (by decide) (by decide) (by decide) 1 0 rfl rfl rfl rfl (Nat.le_of_ble_eq_true rfl) d_CX_type_56 ⟨by decide, by decide⟩ (fun w_ hq => ?_)
            subst hq
            show xG P0 l E0 rm_CX_type S0 M0 A0 B0 T0 C0 QQ 5 D vwCl AA 0 0 [cO x 4 [.ref hT, .ref hX, .ref hP, .ref hO, .ref hF, .ref hR], cO hT 0 [.ref aT, .int (iI (L0 + 1))], cR aT cA 96 (iup fT2 L0 (tb bits k0))] 59 [(4, .int (iI k0)), (0, .ref x), (1, .long bits), (3, .int (iI i))] []
            refine g_iinc (lv' := [(4, .int (iI (k0 + (-1)))), (0, .ref x), (1, .long bits), (3, .int (iI i))]) XX d_CX_type_59 0 rfl (by decide) rfl ?_
            refine g_goto (tgt := 35) XX d_CX_type_62 (by decide) ?_
            exact ih_35 _ (by omega) (k0 + (-1)) (L0 + 1) (iup fT2 L0 (tb bits k0)) (by omega) (by omega) (ag_s h3 (by simp only [tyG, if_neg (show ¬ L0 < t by omega)]; rw [show i - 1 - (L0 - t) = k0 by omega])) rfl
        exact L35 _ (i - 1) t fT (by omega) (by omega) (tyG_ag hfT) rfl
      · -- 24: no
        have hz := ty_full (t := t) (i := i) (by omega) (by omega)
        refine g_bipush (v := -3) XX d_CX_type_27 (by decide) ?_
        exact ret _ _ _ _ [cO x 4 [.ref hT, .ref hX, .ref hP, .ref hO, .ref hF, .ref hR], cO hT 0 [.ref aT, .int (iI t)], cR aT cA 96 fT] [0, 1, 2] d_CX_type_29 (by decide) rfl (⟨fT, by rw [hz.1], by rw [hz.2], by rw [hz.2]; exact tyG_ag hfT⟩)
    · -- 8: no
      have hz := ty_bad (t := t) (i := i) (by omega)
      refine g_iconst XX d_CX_type_11 ?_
      exact ret _ _ _ _ [cO x 4 [.ref hT, .ref hX, .ref hP, .ref hO, .ref hF, .ref hR], cO hT 0 [.ref aT, .int (iI t)], cR aT cA 96 fT] [0, 1, 2] d_CX_type_12 (by decide) rfl (⟨fT, by rw [hz.1], by rw [hz.2], by rw [hz.2]; exact tyG_ag hfT⟩)
abbrev rm_CX_revert : Room := { frames := 5, cells := 0, slots := 0, locals := 111 }
set_option maxHeartbeats 4000000 in
set_option maxRecDepth 100000 in
theorem c_CX_revert (l : Launch) (D : va_G) (cA : ClassId) (x hT hX hP hO hF hR : Nat) (aT aX o1 o2 o3 o4 n1 l1 r1 : Nat) (fT T fX X sa ro co cl nu li rc : Int → Int) (t n lr i : Int) (ht : 0 ≤ t ∧ t ≤ 96) (hfT : ag fT T t) (hbT : bt8 T t) (hi : -2147483648 ≤ i ∧ i < 2147483648) (hx : cxi X n fX sa ro co cl nu) : xM l y_CX_revert w_CX_revert rm_CX_revert D vwCl [(cA, .int)] [.ref x, .int (iI i)] [cO x 4 [.ref hT, .ref hX, .ref hP, .ref hO, .ref hF, .ref hR], cO hT 0 [.ref aT, .int (iI t)], cR aT cA 96 fT, cO hX 0 [.ref aX, .int (iI n)], cR aX cA 96 fX, cO hO 3 [.ref o1, .ref o2, .ref o3, .ref o4], cR o1 cA 97 sa, cR o2 cA 97 ro, cR o3 cA 96 co, cR o4 cA 97 cl, cO hF 2 [.ref n1, .ref l1], cR n1 cA 97 nu, cR l1 cA 257 li, cO hR 1 [.ref r1, .int (iI lr)], cR r1 cA 97 rc] (fun r w => ∃ (z : Int), ∃ (t' : Int), ∃ (fT' : Int → Int), ∃ (X' : Int → Int), ∃ (n' : Int), ∃ (fX' : Int → Int), ∃ (sa' : Int → Int), ∃ (ro' : Int → Int), ∃ (co' : Int → Int), ∃ (cl' : Int → Int), ∃ (nu' : Int → Int), ∃ (li' : Int → Int), ∃ (lr' : Int), ∃ (rc' : Int → Int), r = iI z ∧ w = [cO x 4 [.ref hT, .ref hX, .ref hP, .ref hO, .ref hF, .ref hR], cO hT 0 [.ref aT, .int (iI t')], cR aT cA 96 fT', cO hX 0 [.ref aX, .int (iI n')], cR aX cA 96 fX', cO hO 3 [.ref o1, .ref o2, .ref o3, .ref o4], cR o1 cA 97 sa', cR o2 cA 97 ro', cR o3 cA 96 co', cR o4 cA 97 cl', cO hF 2 [.ref n1, .ref l1], cR n1 cA 97 nu', cR l1 cA 257 li', cO hR 1 [.ref r1, .int (iI lr')], cR r1 cA 97 rc'] ∧ (cxi X' n' fX' sa' ro' co' cl' nu') ∧ (rvP T t X n i z t' X' n') ∧ (ag fT' T t')) 0 0 := by
  refine xM.ofI (by decide) rfl (Nat.le_of_ble_eq_true rfl) ?_
  intro P0 E0 S0 M0 A0 B0 T0 C0 AA QQ XX hnm ret
  refine g_iload_n XX d_CX_revert_0 rfl 1 rfl ?_
  refine g_if_lt (tgt := 15) XX d_CX_revert_1 (by decide) ⟨by omega, by omega⟩ (fun h1 => ?_) (fun h1 => ?_)
  · -- 1: yes
    refine g_iconst XX d_CX_revert_15 ?_
    exact ret _ _ _ _ [cO x 4 [.ref hT, .ref hX, .ref hP, .ref hO, .ref hF, .ref hR], cO hT 0 [.ref aT, .int (iI t)], cR aT cA 96 fT, cO hX 0 [.ref aX, .int (iI n)], cR aX cA 96 fX, cO hO 3 [.ref o1, .ref o2, .ref o3, .ref o4], cR o1 cA 97 sa, cR o2 cA 97 ro, cR o3 cA 96 co, cR o4 cA 97 cl, cO hF 2 [.ref n1, .ref l1], cR n1 cA 97 nu, cR l1 cA 257 li, cO hR 1 [.ref r1, .int (iI lr)], cR r1 cA 97 rc] [0, 1, 2, 3, 4, 5, 6, 7, 8, 9, 10, 11, 12, 13, 14] d_CX_revert_16 (by decide) rfl (⟨(-1), t, fT, X, n, fX, sa, ro, co, cl, nu, li, lr, rc, rfl, rfl, hx, Or.inl ⟨by omega, rfl, rfl, rfl, rfl⟩, hfT⟩)
  · -- 1: no
    refine g_iload_n XX d_CX_revert_4 rfl 1 rfl ?_
    refine g_aload_n XX d_CX_revert_5 rfl 0 rfl ?_
    refine g_get (C := R_CX) (T := T_CX) (N := 6) XX (tmw win0_CX) 0 rfl rfl 0 (by decide) (tm kw_9) rfl rfl d_CX_revert_6 ?_
    refine g_get (C := R_BR) (T := T_BR) (N := 2) XX (tmw win0_BR) 1 rfl rfl 1 (by decide) (tm kw_33) rfl rfl d_CX_revert_9 ?_
    refine g_icmp_le (tgt := 17) XX d_CX_revert_12 (by decide) ⟨by omega, by omega⟩ ⟨by omega, by omega⟩ (fun h12 => ?_) (fun h12 => ?_)
    · -- 12: yes
      refine g_aload_n XX d_CX_revert_17 rfl 0 rfl ?_
      refine g_get (C := R_CX) (T := T_CX) (N := 6) XX (tmw win0_CX) 0 rfl rfl 5 (by decide) (tm kw_32) rfl rfl d_CX_revert_18 ?_
      refine g_aload_n XX d_CX_revert_21 rfl 0 rfl ?_
      refine g_get (C := R_CX) (T := T_CX) (N := 6) XX (tmw win0_CX) 0 rfl rfl 0 (by decide) (tm kw_9) rfl rfl d_CX_revert_22 ?_
      refine g_iload_n XX d_CX_revert_25 rfl 1 rfl ?_
      refine g_callv (As := [.ref hT, .int (iI i)]) (st := []) (wr := [cO x 4 [.ref hT, .ref hX, .ref hP, .ref hO, .ref hF, .ref hR], cO hX 0 [.ref aX, .int (iI n)], cR aX cA 96 fX, cO hO 3 [.ref o1, .ref o2, .ref o3, .ref o4], cR o1 cA 97 sa, cR o2 cA 97 ro, cR o3 cA 96 co, cR o4 cA 97 cl, cO hF 2 [.ref n1, .ref l1], cR n1 cA 97 nu, cR l1 cA 257 li]) XX (c_CR_take l D cA hR r1 hT aT rc fT T lr t i (by first | assumption | omega) (by first | assumption | omega)) (x_cw 2 XX.2.2.2.2.1 (gi kw_88) rfl rfl (tm kw_28) (tm kw_89) (tm kw_90) (tm kw_91) ⟨by decide +kernel, by decide +kernel, by decide +kernel⟩ ⟨by decide, by decide⟩) [13, 14, 1, 2] [0, 3, 4, 5, 6, 7, 8, 9, 10, 11, 12] rfl rfl (by decide) (by decide) (by decide) 13 1 rfl rfl rfl rfl (Nat.le_of_ble_eq_true rfl) d_CX_revert_26 ⟨by decide, by decide⟩ (fun w_ hq => ?_)
      obtain ⟨rc1, rfl, u26_0⟩ := hq
      show xG P0 l E0 rm_CX_revert S0 M0 A0 B0 T0 C0 QQ 2 D vwCl AA 0 0 [cO x 4 [.ref hT, .ref hX, .ref hP, .ref hO, .ref hF, .ref hR], cO hX 0 [.ref aX, .int (iI n)], cR aX cA 96 fX, cO hO 3 [.ref o1, .ref o2, .ref o3, .ref o4], cR o1 cA 97 sa, cR o2 cA 97 ro, cR o3 cA 96 co, cR o4 cA 97 cl, cO hF 2 [.ref n1, .ref l1], cR n1 cA 97 nu, cR l1 cA 257 li, cO hR 1 [.ref r1, .int (iI t)], cR r1 cA 97 rc1, cO hT 0 [.ref aT, .int (iI t)], cR aT cA 96 fT] 29 [(0, .ref x), (1, .int (iI i))] []
      refine g_aload_n XX d_CX_revert_29 rfl 0 rfl ?_
      refine g_get (C := R_CX) (T := T_CX) (N := 6) XX (tmw win0_CX) 0 rfl rfl 5 (by decide) (tm kw_32) rfl rfl d_CX_revert_30 ?_
      refine g_aload_n XX d_CX_revert_33 rfl 0 rfl ?_
      refine g_get (C := R_CX) (T := T_CX) (N := 6) XX (tmw win0_CX) 0 rfl rfl 0 (by decide) (tm kw_9) rfl rfl d_CX_revert_34 ?_
      refine g_calli (As := [.ref hT]) (st := []) (wr := [cO x 4 [.ref hT, .ref hX, .ref hP, .ref hO, .ref hF, .ref hR], cO hX 0 [.ref aX, .int (iI n)], cR aX cA 96 fX, cO hO 3 [.ref o1, .ref o2, .ref o3, .ref o4], cR o1 cA 97 sa, cR o2 cA 97 ro, cR o3 cA 96 co, cR o4 cA 97 cl, cO hF 2 [.ref n1, .ref l1], cR n1 cA 97 nu, cR l1 cA 257 li]) XX (c_CR_write l D cA hR r1 hT aT rc1 fT (gv T i) t t (by first | assumption | omega) (by first | assumption | omega) (cok_rng (gv_cok hbT (by omega) (by omega)))) (x_cw 1 XX.2.2.2.2.1 (gi kw_92) rfl rfl (tm kw_28) (tm kw_93) (tm kw_94) (tm kw_95) ⟨by decide +kernel, by decide +kernel, by decide +kernel⟩ ⟨by decide, by decide⟩) [11, 12, 13, 14] [0, 1, 2, 3, 4, 5, 6, 7, 8, 9, 10] rfl rfl (by decide) (by decide) (by decide) 11 1 rfl rfl rfl rfl (Nat.le_of_ble_eq_true rfl) d_CX_revert_37 ⟨by decide, by decide⟩ (fun r_ w_ hq => ?_)
      obtain ⟨z1, t1, fT1, rfl, rfl, u37_0⟩ := hq
      show xG P0 l E0 rm_CX_revert S0 M0 A0 B0 T0 C0 QQ 2 D vwCl AA 0 0 [cO x 4 [.ref hT, .ref hX, .ref hP, .ref hO, .ref hF, .ref hR], cO hX 0 [.ref aX, .int (iI n)], cR aX cA 96 fX, cO hO 3 [.ref o1, .ref o2, .ref o3, .ref o4], cR o1 cA 97 sa, cR o2 cA 97 ro, cR o3 cA 96 co, cR o4 cA 97 cl, cO hF 2 [.ref n1, .ref l1], cR n1 cA 97 nu, cR l1 cA 257 li, cO hR 1 [.ref r1, .int (iI t)], cR r1 cA 97 rc1, cO hT 0 [.ref aT, .int (iI t1)], cR aT cA 96 fT1] 40 [(0, .ref x), (1, .int (iI i))] [.int (iI z1)]
      have hzz : z1 = 0 ∨ z1 = 1 := u37_0.elim (fun g => Or.inr g.1) (fun g => Or.inl g.1)
      refine g_if_ne (tgt := 53) XX d_CX_revert_40 (by decide) ⟨by omega, by omega⟩ (fun h40 => ?_) (fun h40 => ?_)
      · -- 40: yes
        obtain ⟨gz, gw, gx, gt⟩ := u37_0.resolve_right (fun g => h40 g.1)
        refine g_aload_n XX d_CX_revert_53 rfl 0 rfl ?_
        refine g_calli (As := []) (st := []) (wr := [cO hR 1 [.ref r1, .int (iI t)], cR r1 cA 97 rc1]) XX (c_CX_build l D cA x hT hX hP hO hF hR aT aX o1 o2 o3 o4 n1 l1 fT1 (xt (gv T i) t) fX sa ro co cl nu li t1 n (by first | assumption | omega) (by rw [gt]; exact gx) (by rw [gt]; exact (wk_col (by omega) (gv_cok hbT (by omega) (by omega)) gw).2.2)) (x_cw 0 XX.2.2.2.2.1 (gi kw_96) rfl rfl (tm kw_49) (tm kw_97) (tm kw_98) (tm kw_99) ⟨by decide +kernel, by decide +kernel, by decide +kernel⟩ ⟨by decide, by decide⟩) [0, 13, 14, 1, 2, 3, 4, 5, 6, 7, 8, 9, 10] [11, 12] rfl rfl (by decide) (by decide) (by decide) 0 4 rfl rfl rfl rfl (Nat.le_of_ble_eq_true rfl) d_CX_revert_54 ⟨by decide, by decide⟩ (fun r_ w_ hq => ?_)
        obtain ⟨fX1, sa1, ro1, co1, cl1, nu1, li1, rfl, rfl, u54_0⟩ := hq
        show xG P0 l E0 rm_CX_revert S0 M0 A0 B0 T0 C0 QQ 2 D vwCl AA 0 0 [cO hR 1 [.ref r1, .int (iI t)], cR r1 cA 97 rc1, cO x 4 [.ref hT, .ref hX, .ref hP, .ref hO, .ref hF, .ref hR], cO hT 0 [.ref aT, .int (iI 0)], cR aT cA 96 fT1, cO hX 0 [.ref aX, .int (iI t1)], cR aX cA 96 fX1, cO hO 3 [.ref o1, .ref o2, .ref o3, .ref o4], cR o1 cA 97 sa1, cR o2 cA 97 ro1, cR o3 cA 96 co1, cR o4 cA 97 cl1, cO hF 2 [.ref n1, .ref l1], cR n1 cA 97 nu1, cR l1 cA 257 li1] 57 [(0, .ref x), (1, .int (iI i))] [.int (iI t1)]
        exact ret _ _ _ _ [cO x 4 [.ref hT, .ref hX, .ref hP, .ref hO, .ref hF, .ref hR], cO hT 0 [.ref aT, .int (iI 0)], cR aT cA 96 fT1, cO hX 0 [.ref aX, .int (iI t1)], cR aX cA 96 fX1, cO hO 3 [.ref o1, .ref o2, .ref o3, .ref o4], cR o1 cA 97 sa1, cR o2 cA 97 ro1, cR o3 cA 96 co1, cR o4 cA 97 cl1, cO hF 2 [.ref n1, .ref l1], cR n1 cA 97 nu1, cR l1 cA 257 li1, cO hR 1 [.ref r1, .int (iI t)], cR r1 cA 97 rc1] [2, 3, 4, 5, 6, 7, 8, 9, 10, 11, 12, 13, 14, 0, 1] d_CX_revert_57 (by decide) rfl (⟨t1, 0, fT1, xt (gv T i) t, t1, fX1, sa1, ro1, co1, cl1, nu1, li1, t, rc1, rfl, rfl, u54_0, Or.inr (Or.inl ⟨by omega, gw, gt, rfl, rfl, gt⟩), ag_0 (by omega)⟩)
      · -- 40: no
        have ng : ¬ wgood (gv T i) t := u37_0.elim (fun g => absurd (g.1.symm.trans h40) (by decide)) (fun g => g.2)
        refine g_aload_n XX d_CX_revert_43 rfl 0 rfl ?_
        refine g_get (C := R_CX) (T := T_CX) (N := 6) XX (tmw win0_CX) 0 rfl rfl 0 (by decide) (tm kw_9) rfl rfl d_CX_revert_44 ?_
        refine g_callv (As := []) (st := []) (wr := [cO x 4 [.ref hT, .ref hX, .ref hP, .ref hO, .ref hF, .ref hR], cO hX 0 [.ref aX, .int (iI n)], cR aX cA 96 fX, cO hO 3 [.ref o1, .ref o2, .ref o3, .ref o4], cR o1 cA 97 sa, cR o2 cA 97 ro, cR o3 cA 96 co, cR o4 cA 97 cl, cO hF 2 [.ref n1, .ref l1], cR n1 cA 97 nu, cR l1 cA 257 li, cO hR 1 [.ref r1, .int (iI t)], cR r1 cA 97 rc1, cR aT cA 96 fT1]) XX (c_BR_clear l D cA hT aT t1 ) (x_cw 0 XX.2.2.2.2.1 (gi kw_42) rfl rfl (tm kw_5) (tm kw_43) (tm kw_44) (tm kw_45) ⟨by decide +kernel, by decide +kernel, by decide +kernel⟩ ⟨by decide, by decide⟩) [13] [0, 1, 2, 3, 4, 5, 6, 7, 8, 9, 10, 11, 12, 14] rfl rfl (by decide) (by decide) (by decide) 13 0 rfl rfl rfl rfl (Nat.le_of_ble_eq_true rfl) d_CX_revert_47 ⟨by decide, by decide⟩ (fun w_ hq => ?_)
        subst hq
        show xG P0 l E0 rm_CX_revert S0 M0 A0 B0 T0 C0 QQ 2 D vwCl AA 0 0 [cO x 4 [.ref hT, .ref hX, .ref hP, .ref hO, .ref hF, .ref hR], cO hX 0 [.ref aX, .int (iI n)], cR aX cA 96 fX, cO hO 3 [.ref o1, .ref o2, .ref o3, .ref o4], cR o1 cA 97 sa, cR o2 cA 97 ro, cR o3 cA 96 co, cR o4 cA 97 cl, cO hF 2 [.ref n1, .ref l1], cR n1 cA 97 nu, cR l1 cA 257 li, cO hR 1 [.ref r1, .int (iI t)], cR r1 cA 97 rc1, cR aT cA 96 fT1, cO hT 0 [.ref aT, .int (iI 0)]] 50 [(0, .ref x), (1, .int (iI i))] []
        refine g_bipush (v := -4) XX d_CX_revert_50 (by decide) ?_
        exact ret _ _ _ _ [cO x 4 [.ref hT, .ref hX, .ref hP, .ref hO, .ref hF, .ref hR], cO hT 0 [.ref aT, .int (iI 0)], cR aT cA 96 fT1, cO hX 0 [.ref aX, .int (iI n)], cR aX cA 96 fX, cO hO 3 [.ref o1, .ref o2, .ref o3, .ref o4], cR o1 cA 97 sa, cR o2 cA 97 ro, cR o3 cA 96 co, cR o4 cA 97 cl, cO hF 2 [.ref n1, .ref l1], cR n1 cA 97 nu, cR l1 cA 257 li, cO hR 1 [.ref r1, .int (iI t)], cR r1 cA 97 rc1] [0, 14, 13, 1, 2, 3, 4, 5, 6, 7, 8, 9, 10, 11, 12] d_CX_revert_52 (by decide) rfl (⟨(-4), 0, fT1, X, n, fX, sa, ro, co, cl, nu, li, t, rc1, rfl, rfl, hx, Or.inr (Or.inr ⟨by omega, ng, rfl, rfl, rfl, rfl⟩), ag_0 (by omega)⟩)
    · -- 12: no
      refine g_iconst XX d_CX_revert_15 ?_
      exact ret _ _ _ _ [cO x 4 [.ref hT, .ref hX, .ref hP, .ref hO, .ref hF, .ref hR], cO hT 0 [.ref aT, .int (iI t)], cR aT cA 96 fT, cO hX 0 [.ref aX, .int (iI n)], cR aX cA 96 fX, cO hO 3 [.ref o1, .ref o2, .ref o3, .ref o4], cR o1 cA 97 sa, cR o2 cA 97 ro, cR o3 cA 96 co, cR o4 cA 97 cl, cO hF 2 [.ref n1, .ref l1], cR n1 cA 97 nu, cR l1 cA 257 li, cO hR 1 [.ref r1, .int (iI lr)], cR r1 cA 97 rc] [0, 1, 2, 3, 4, 5, 6, 7, 8, 9, 10, 11, 12, 13, 14] d_CX_revert_16 (by decide) rfl (⟨(-1), t, fT, X, n, fX, sa, ro, co, cl, nu, li, lr, rc, rfl, rfl, hx, Or.inl ⟨by omega, rfl, rfl, rfl, rfl⟩, hfT⟩)
end
section
abbrev rm_M_type : Room := { frames := 0, cells := 0, slots := 0, locals := 0 }
set_option maxHeartbeats 4000000 in
set_option maxRecDepth 100000 in
theorem c_M_type (l : Launch) (D : va_G) (cA : ClassId) (y b1 b2 b3 b4 b5 b6 b7 : Nat) (f1 T : Int → Int) (bits : Int64) (t n m i : Int) (ht : 0 ≤ t ∧ t ≤ 96) (hfT : ag f1 T t) (hi : -2147483648 ≤ i ∧ i < 2147483648) : xM l y_MO_type w_MO_type rm_M_type D vwCl [(cA, .int)] [.ref y, .long bits, .int (iI i)] [cO y 5 [.int (iI t), .ref b1, .int (iI n), .ref b2, .ref b3, .int (iI m), .ref b4, .ref b5, .ref b6, .ref b7], cR b1 cA 96 f1] (fun r w => ∃ (f1' : Int → Int), r = iI (tyR t i) ∧ w = [cO y 5 [.int (iI (tyN t i)), .ref b1, .int (iI n), .ref b2, .ref b3, .int (iI m), .ref b4, .ref b5, .ref b6, .ref b7], cR b1 cA 96 f1'] ∧ (ag f1' (tyG T t bits i) (tyN t i))) 0 0 := by
  refine xM.ofI (by decide) rfl (Nat.le_of_ble_eq_true rfl) ?_
  intro P0 E0 S0 M0 A0 B0 T0 C0 AA QQ XX hnm ret
  refine g_iload_n XX d_MO_type_0 rfl 2 rfl ?_
  refine g_iconst XX d_MO_type_1 ?_
  refine g_icmp_lt (tgt := 11) XX d_MO_type_2 (by decide) ⟨by omega, by omega⟩ ⟨by omega, by omega⟩ (fun h2 => ?_) (fun h2 => ?_)
  · -- 2: yes
    have hz := ty_bad (t := t) (i := i) (by omega)
    refine g_iconst XX d_MO_type_11 ?_
    exact ret _ _ _ _ [cO y 5 [.int (iI t), .ref b1, .int (iI n), .ref b2, .ref b3, .int (iI m), .ref b4, .ref b5, .ref b6, .ref b7], cR b1 cA 96 f1] [0, 1] d_MO_type_12 (by decide) rfl (⟨f1, by rw [hz.1], by rw [hz.2], by rw [hz.2]; exact tyG_ag hfT⟩)
  · -- 2: no
    refine g_iload_n XX d_MO_type_5 rfl 2 rfl ?_
    refine g_bipush (v := 8) XX d_MO_type_6 (by decide) ?_
    refine g_icmp_le (tgt := 13) XX d_MO_type_8 (by decide) ⟨by omega, by omega⟩ ⟨by omega, by omega⟩ (fun h8 => ?_) (fun h8 => ?_)
    · -- 8: yes
      refine g_aload_n XX d_MO_type_13 rfl 0 rfl ?_
      refine g_get (C := R_MO) (T := T_MO) (N := 10) XX (tmw win0_MO) 0 rfl rfl 0 (by decide) (tm kw_117) rfl rfl d_MO_type_14 ?_
      refine g_iload_n XX d_MO_type_17 rfl 2 rfl ?_
      refine g_iadd XX d_MO_type_18 ?_
      refine g_bipush (v := 96) XX d_MO_type_19 (by decide) ?_
      refine g_icmp_le (tgt := 27) XX d_MO_type_21 (by decide) ⟨by omega, by omega⟩ ⟨by omega, by omega⟩ (fun h21 => ?_) (fun h21 => ?_)
      · -- 21: yes
        have hz := ty_ok (t := t) (i := i) (by omega) (by omega)
        refine g_iload_n XX d_MO_type_27 rfl 2 rfl ?_
        refine g_iconst XX d_MO_type_28 ?_
        refine g_isub XX d_MO_type_29 ?_
        refine g_istore (lv' := [(4, .int (iI (i - 1))), (0, .ref y), (1, .long bits), (3, .int (iI i))]) XX d_MO_type_30 (by decide) rfl ?_
        have L32 : ∀ (k_32 : Nat) (k0 : Int) (L0 : Int) (f12 : Int → Int), (-1 ≤ k0 ∧ k0 ≤ i - 1) → (L0 = t + (i - 1 - k0)) → (ag f12 (tyG T t bits i) L0) → (k0 + 1).toNat = k_32 → xG P0 l E0 rm_M_type S0 M0 A0 B0 T0 C0 QQ 5 D vwCl AA 0 0 [cO y 5 [.int (iI L0), .ref b1, .int (iI n), .ref b2, .ref b3, .int (iI m), .ref b4, .ref b5, .ref b6, .ref b7], cR b1 cA 96 f12] 32 [(4, .int (iI k0)), (0, .ref y), (1, .long bits), (3, .int (iI i))] [] := by
          refine x_ind (fun k_32 ih_32 k0 L0 f12 h1 h2 h3 hk_32 => ?_)
          refine g_iload XX d_MO_type_32 0 rfl ?_
          refine g_if_lt (tgt := 74) XX d_MO_type_34 (by decide) ⟨by omega, by omega⟩ (fun h34 => ?_) (fun h34 => ?_)
          · -- 34: yes
            refine g_aload_n XX d_MO_type_74 rfl 1 rfl ?_
            refine g_get (C := R_MO) (T := T_MO) (N := 10) XX (tmw win0_MO) 0 rfl rfl 0 (by decide) (tm kw_117) rfl rfl d_MO_type_75 ?_
            exact ret _ _ _ _ [cO y 5 [.int (iI L0), .ref b1, .int (iI n), .ref b2, .ref b3, .int (iI m), .ref b4, .ref b5, .ref b6, .ref b7], cR b1 cA 96 f12] [0, 1] d_MO_type_78 (by decide) rfl (⟨f12, by rw [hz.1, show L0 = t + i by omega], by rw [hz.2, show L0 = t + i by omega], by rw [hz.2, show t + i = L0 by omega]; exact h3⟩)
          · -- 34: no
            refine g_aload_n XX d_MO_type_37 rfl 1 rfl ?_
            refine g_get (C := R_MO) (T := T_MO) (N := 10) XX (tmw win0_MO) 0 rfl rfl 1 (by decide) (tm kw_110) rfl rfl d_MO_type_38 ?_
            refine g_aload_n XX d_MO_type_41 rfl 1 rfl ?_
            refine g_get (C := R_MO) (T := T_MO) (N := 10) XX (tmw win0_MO) 0 rfl rfl 0 (by decide) (tm kw_117) rfl rfl d_MO_type_42 ?_
            refine g_lload_n XX d_MO_type_45 rfl 2 rfl ?_
            refine g_bipush (v := 8) XX d_MO_type_46 (by decide) ?_
            refine g_iload XX d_MO_type_48 0 rfl ?_
            refine g_imul XX d_MO_type_50 ?_
            refine g_lshr XX d_MO_type_51 rfl ?_
            refine g_ldc2 (v := 255) XX (tm kw_118) d_MO_type_52 ?_
            refine g_land XX d_MO_type_55 rfl ?_
            refine g_l2i XX d_MO_type_56 (tb_mod bits k0 (by omega)) ?_
            refine g_iast (ws' := [cO y 5 [.int (iI L0), .ref b1, .int (iI n), .ref b2, .ref b3, .int (iI m), .ref b4, .ref b5, .ref b6, .ref b7], cR b1 cA 96 (iup f12 L0 (tb bits k0))]) XX 1 0 rfl rfl ⟨by omega, by omega, by decide⟩ rfl d_MO_type_57 ?_
            refine g_aload_n XX d_MO_type_58 rfl 1 rfl ?_
            refine g_dup XX d_MO_type_59 rfl ?_
            refine g_get (C := R_MO) (T := T_MO) (N := 10) XX (tmw win0_MO) 0 rfl rfl 0 (by decide) (tm kw_117) rfl rfl d_MO_type_60 ?_
            refine g_iconst XX d_MO_type_63 ?_
            refine g_iadd XX d_MO_type_64 ?_
            refine g_put (C := R_MO) (T := T_MO) (N := 10) (ty := (.int)) (ws' := [cO y 5 [.int (iI (L0 + 1)), .ref b1, .int (iI n), .ref b2, .ref b3, .int (iI m), .ref b4, .ref b5, .ref b6, .ref b7], cR b1 cA 96 (iup f12 L0 (tb bits k0))]) XX (tmw win0_MO) ty_MO ok_MO nm_MO 0 rfl rfl 0 (by decide) (tm kw_117) rfl rfl (by decide +kernel) rfl rfl (Nat.le_of_ble_eq_true rfl) rfl d_MO_type_65 ?_
            refine g_iinc (lv' := [(4, .int (iI (k0 + (-1)))), (0, .ref y), (1, .long bits), (3, .int (iI i))]) XX d_MO_type_68 0 rfl (by decide) rfl ?_
            refine g_goto (tgt := 32) XX d_MO_type_71 (by decide) ?_
            exact ih_32 _ (by omega) (k0 + (-1)) (L0 + 1) (iup f12 L0 (tb bits k0)) (by omega) (by omega) (ag_s h3 (by simp only [tyG, if_neg (show ¬ L0 < t by omega)]; rw [show i - 1 - (L0 - t) = k0 by omega])) rfl
        exact L32 _ (i - 1) t f1 (by omega) (by omega) (tyG_ag hfT) rfl
      · -- 21: no
        have hz := ty_full (t := t) (i := i) (by omega) (by omega)
        refine g_bipush (v := -3) XX d_MO_type_24 (by decide) ?_
        exact ret _ _ _ _ [cO y 5 [.int (iI t), .ref b1, .int (iI n), .ref b2, .ref b3, .int (iI m), .ref b4, .ref b5, .ref b6, .ref b7], cR b1 cA 96 f1] [0, 1] d_MO_type_26 (by decide) rfl (⟨f1, by rw [hz.1], by rw [hz.2], by rw [hz.2]; exact tyG_ag hfT⟩)
    · -- 8: no
      have hz := ty_bad (t := t) (i := i) (by omega)
      refine g_iconst XX d_MO_type_11 ?_
      exact ret _ _ _ _ [cO y 5 [.int (iI t), .ref b1, .int (iI n), .ref b2, .ref b3, .int (iI m), .ref b4, .ref b5, .ref b6, .ref b7], cR b1 cA 96 f1] [0, 1] d_MO_type_12 (by decide) rfl (⟨f1, by rw [hz.1], by rw [hz.2], by rw [hz.2]; exact tyG_ag hfT⟩)
abbrev rm_M_alike : Room := { frames := 0, cells := 0, slots := 0, locals := 0 }
set_option maxHeartbeats 4000000 in
set_option maxRecDepth 100000 in
theorem c_M_alike (l : Launch) (D : va_G) (cA : ClassId) (y b1 b2 b3 b4 b5 b6 b7 : Nat) (f2 X : Int → Int) (t n m i j : Int) (hn : 0 ≤ n ∧ n ≤ 96) (hfX : ag f2 X n) (hbX : bt8 X n) (hij : 0 ≤ i ∧ i ≤ n ∧ 0 ≤ j ∧ j ≤ n) : xM l y_MO_alike w_MO_alike rm_M_alike D vwCl [(cA, .int)] [.ref y, .int (iI i), .int (iI j)] [cO y 5 [.int (iI t), .ref b1, .int (iI n), .ref b2, .ref b3, .int (iI m), .ref b4, .ref b5, .ref b6, .ref b7], cR b2 cA 96 f2] (fun r w => r = iI (al X n X n i j) ∧ w = [cO y 5 [.int (iI t), .ref b1, .int (iI n), .ref b2, .ref b3, .int (iI m), .ref b4, .ref b5, .ref b6, .ref b7], cR b2 cA 96 f2]) 0 0 := by
  refine xM.ofI (by decide) rfl (Nat.le_of_ble_eq_true rfl) ?_
  intro P0 E0 S0 M0 A0 B0 T0 C0 AA QQ XX hnm ret
  refine g_iconst XX d_MO_alike_0 ?_
  refine g_istore_n (lv' := [(3, .int (iI 0)), (0, .ref y), (1, .int (iI i)), (2, .int (iI j))]) XX d_MO_alike_1 rfl (by decide) rfl ?_
  have L2 : ∀ (k_2 : Nat) (cc : Int), (0 ≤ cc ∧ i + cc ≤ n ∧ j + cc ≤ n) → (∀ j0, 0 ≤ j0 → j0 < cc → X (i + j0) = X (j + j0)) → (n - i - cc).toNat = k_2 → xG P0 l E0 rm_M_alike S0 M0 A0 B0 T0 C0 QQ 4 D vwCl AA 0 0 [cO y 5 [.int (iI t), .ref b1, .int (iI n), .ref b2, .ref b3, .int (iI m), .ref b4, .ref b5, .ref b6, .ref b7], cR b2 cA 96 f2] 2 [(3, .int (iI cc)), (0, .ref y), (1, .int (iI i)), (2, .int (iI j))] [] := by
    refine x_ind (fun k_2 ih_2 cc hc he hk_2 => ?_)
    refine g_iload_n XX d_MO_alike_2 rfl 2 rfl ?_
    refine g_iload_n XX d_MO_alike_3 rfl 0 rfl ?_
    refine g_iadd XX d_MO_alike_4 ?_
    refine g_aload_n XX d_MO_alike_5 rfl 1 rfl ?_
    refine g_get (C := R_MO) (T := T_MO) (N := 10) XX (tmw win0_MO) 0 rfl rfl 2 (by decide) (tm kw_119) rfl rfl d_MO_alike_6 ?_
    refine g_icmp_ge (tgt := 47) XX d_MO_alike_9 (by decide) ⟨by omega, by omega⟩ ⟨by omega, by omega⟩ (fun h9 => ?_) (fun h9 => ?_)
    · -- 9: yes
      refine g_iload_n XX d_MO_alike_47 rfl 0 rfl ?_
      exact ret _ _ _ _ [cO y 5 [.int (iI t), .ref b1, .int (iI n), .ref b2, .ref b3, .int (iI m), .ref b4, .ref b5, .ref b6, .ref b7], cR b2 cA 96 f2] [0, 1] d_MO_alike_48 (by decide) rfl (⟨congrArg iI (al_eq (show isAl X n X n i j cc from ⟨by omega, by omega, by omega, he, by omega⟩)).symm, rfl⟩)
    · -- 9: no
      refine g_iload_n XX d_MO_alike_12 rfl 3 rfl ?_
      refine g_iload_n XX d_MO_alike_13 rfl 0 rfl ?_
      refine g_iadd XX d_MO_alike_14 ?_
      refine g_aload_n XX d_MO_alike_15 rfl 1 rfl ?_
      refine g_get (C := R_MO) (T := T_MO) (N := 10) XX (tmw win0_MO) 0 rfl rfl 2 (by decide) (tm kw_119) rfl rfl d_MO_alike_16 ?_
      refine g_icmp_ge (tgt := 47) XX d_MO_alike_19 (by decide) ⟨by omega, by omega⟩ ⟨by omega, by omega⟩ (fun h19 => ?_) (fun h19 => ?_)
      · -- 19: yes
        refine g_iload_n XX d_MO_alike_47 rfl 0 rfl ?_
        exact ret _ _ _ _ [cO y 5 [.int (iI t), .ref b1, .int (iI n), .ref b2, .ref b3, .int (iI m), .ref b4, .ref b5, .ref b6, .ref b7], cR b2 cA 96 f2] [0, 1] d_MO_alike_48 (by decide) rfl (⟨congrArg iI (al_eq (show isAl X n X n i j cc from ⟨by omega, by omega, by omega, he, by omega⟩)).symm, rfl⟩)
      · -- 19: no
        refine g_aload_n XX d_MO_alike_22 rfl 1 rfl ?_
        refine g_get (C := R_MO) (T := T_MO) (N := 10) XX (tmw win0_MO) 0 rfl rfl 3 (by decide) (tm kw_111) rfl rfl d_MO_alike_23 ?_
        refine g_iload_n XX d_MO_alike_26 rfl 2 rfl ?_
        refine g_iload_n XX d_MO_alike_27 rfl 0 rfl ?_
        refine g_iadd XX d_MO_alike_28 ?_
        refine g_iald XX 1 0 rfl rfl ⟨by omega, by omega, by decide⟩ d_MO_alike_29 ?_
        refine g_aload_n XX d_MO_alike_30 rfl 1 rfl ?_
        refine g_get (C := R_MO) (T := T_MO) (N := 10) XX (tmw win0_MO) 0 rfl rfl 3 (by decide) (tm kw_111) rfl rfl d_MO_alike_31 ?_
        refine g_iload_n XX d_MO_alike_34 rfl 3 rfl ?_
        refine g_iload_n XX d_MO_alike_35 rfl 0 rfl ?_
        refine g_iadd XX d_MO_alike_36 ?_
        refine g_iald XX 1 0 rfl rfl ⟨by omega, by omega, by decide⟩ d_MO_alike_37 ?_
        have e1 := hfX (i + cc) (by omega) (by omega)
        have e2 := hfX (j + cc) (by omega) (by omega)
        have bb1 := hbX (i + cc) (by omega) (by omega)
        have bb2 := hbX (j + cc) (by omega) (by omega)
        refine g_icmp_ne (tgt := 47) XX d_MO_alike_38 (by decide) ⟨by omega, by omega⟩ ⟨by omega, by omega⟩ (fun h38 => ?_) (fun h38 => ?_)
        · -- 38: yes
          refine g_iload_n XX d_MO_alike_47 rfl 0 rfl ?_
          exact ret _ _ _ _ [cO y 5 [.int (iI t), .ref b1, .int (iI n), .ref b2, .ref b3, .int (iI m), .ref b4, .ref b5, .ref b6, .ref b7], cR b2 cA 96 f2] [0, 1] d_MO_alike_48 (by decide) rfl (⟨congrArg iI (al_eq (show isAl X n X n i j cc from ⟨by omega, by omega, by omega, he, by omega⟩)).symm, rfl⟩)
        · -- 38: no
          refine g_iinc (lv' := [(3, .int (iI (cc + 1))), (0, .ref y), (1, .int (iI i)), (2, .int (iI j))]) XX d_MO_alike_41 0 rfl (by decide) rfl ?_
          refine g_goto (tgt := 2) XX d_MO_alike_44 (by decide) ?_
          exact ih_2 _ (by omega) (cc + 1) (by omega) (all_s he (by show X (i + cc) = X (j + cc); omega)) rfl
  exact L2 _ 0 (by omega) (fun j0 a b => by omega) rfl
abbrev rm_M_isBefore : Room := { frames := 1, cells := 0, slots := 0, locals := 23 }
set_option maxHeartbeats 4000000 in
set_option maxRecDepth 100000 in
theorem c_M_isBefore (l : Launch) (D : va_G) (cA : ClassId) (y b1 b2 b3 b4 b5 b6 b7 : Nat) (f2 X : Int → Int) (t n m i j : Int) (hn : 0 ≤ n ∧ n ≤ 96) (hfX : ag f2 X n) (hbX : bt8 X n) (hij : 0 ≤ i ∧ i ≤ n ∧ 0 ≤ j ∧ j ≤ n) : xM l y_MO_isBefore w_MO_isBefore rm_M_isBefore D vwCl [(cA, .int)] [.ref y, .int (iI i), .int (iI j)] [cO y 5 [.int (iI t), .ref b1, .int (iI n), .ref b2, .ref b3, .int (iI m), .ref b4, .ref b5, .ref b6, .ref b7], cR b2 cA 96 f2] (fun r w => r = iI (if lb X n i j then 1 else 0) ∧ w = [cO y 5 [.int (iI t), .ref b1, .int (iI n), .ref b2, .ref b3, .int (iI m), .ref b4, .ref b5, .ref b6, .ref b7], cR b2 cA 96 f2]) 0 0 := by
  refine xM.ofZ (by decide) rfl (Nat.le_of_ble_eq_true rfl) ?_
  intro P0 E0 S0 M0 A0 B0 T0 C0 AA QQ XX hnm ret
  refine g_aload_n XX d_MO_isBefore_0 rfl 0 rfl ?_
  refine g_iload_n XX d_MO_isBefore_1 rfl 1 rfl ?_
  refine g_iload_n XX d_MO_isBefore_2 rfl 2 rfl ?_
  refine g_calli (As := [.int (iI i), .int (iI j)]) (st := []) (wr := []) XX (c_M_alike l D cA y b1 b2 b3 b4 b5 b6 b7 f2 X t n m i j (by first | assumption | omega) (by first | assumption | omega) (by first | assumption | omega) (by first | assumption | omega)) (x_cw 2 XX.2.2.2.2.1 (gi kw_120) rfl rfl (tm kw_123) (tm kw_121) (tm kw_122) (tm kw_124) ⟨by decide +kernel, by decide +kernel, by decide +kernel⟩ ⟨by decide, by decide⟩) [0, 1] [] rfl rfl (by decide) (by decide) (by decide) 0 5 rfl rfl rfl rfl (Nat.le_of_ble_eq_true rfl) d_MO_isBefore_3 ⟨by decide, by decide⟩ (fun r_ w_ hq => ?_)
  obtain ⟨rfl, rfl⟩ := hq
  show xG P0 l E0 rm_M_isBefore S0 M0 A0 B0 T0 C0 QQ 4 D vwCl AA 0 0 [cO y 5 [.int (iI t), .ref b1, .int (iI n), .ref b2, .ref b3, .int (iI m), .ref b4, .ref b5, .ref b6, .ref b7], cR b2 cA 96 f2] 6 [(0, .ref y), (1, .int (iI i)), (2, .int (iI j))] [.int (iI (al X n X n i j))]
  refine g_istore_n (lv' := [(3, .int (iI (al X n X n i j))), (0, .ref y), (1, .int (iI i)), (2, .int (iI j))]) XX d_MO_isBefore_6 rfl (by decide) rfl ?_
  have g := al_rng (f := X) (n := n) (g := X) (m := n) (p := i) (q := j) (by omega) (by omega)
  refine g_iload_n XX d_MO_isBefore_7 rfl 2 rfl ?_
  refine g_iload_n XX d_MO_isBefore_8 rfl 0 rfl ?_
  refine g_iadd XX d_MO_isBefore_9 ?_
  refine g_aload_n XX d_MO_isBefore_10 rfl 1 rfl ?_
  refine g_get (C := R_MO) (T := T_MO) (N := 10) XX (tmw win0_MO) 0 rfl rfl 2 (by decide) (tm kw_119) rfl rfl d_MO_isBefore_11 ?_
  refine g_icmp_ne (tgt := 35) XX d_MO_isBefore_14 (by decide) ⟨by omega, by omega⟩ ⟨by omega, by omega⟩ (fun h14 => ?_) (fun h14 => ?_)
  · -- 14: yes
    refine g_iload_n XX d_MO_isBefore_35 rfl 3 rfl ?_
    refine g_iload_n XX d_MO_isBefore_36 rfl 0 rfl ?_
    refine g_iadd XX d_MO_isBefore_37 ?_
    refine g_aload_n XX d_MO_isBefore_38 rfl 1 rfl ?_
    refine g_get (C := R_MO) (T := T_MO) (N := 10) XX (tmw win0_MO) 0 rfl rfl 2 (by decide) (tm kw_119) rfl rfl d_MO_isBefore_39 ?_
    refine g_icmp_ge (tgt := 68) XX d_MO_isBefore_42 (by decide) ⟨by omega, by omega⟩ ⟨by omega, by omega⟩ (fun h42 => ?_) (fun h42 => ?_)
    · -- 42: yes
      have hz : lb X n i j = false := by simp only [lb, decide_eq_false_iff_not]; omega
      refine g_iconst XX d_MO_isBefore_68 ?_
      exact ret _ _ _ _ [cO y 5 [.int (iI t), .ref b1, .int (iI n), .ref b2, .ref b3, .int (iI m), .ref b4, .ref b5, .ref b6, .ref b7], cR b2 cA 96 f2] [0, 1] (by first | exact Or.inl rfl | exact Or.inr rfl) d_MO_isBefore_69 (by decide) rfl (⟨by rw [hz]; rfl, rfl⟩)
    · -- 42: no
      refine g_aload_n XX d_MO_isBefore_45 rfl 1 rfl ?_
      refine g_get (C := R_MO) (T := T_MO) (N := 10) XX (tmw win0_MO) 0 rfl rfl 3 (by decide) (tm kw_111) rfl rfl d_MO_isBefore_46 ?_
      refine g_iload_n XX d_MO_isBefore_49 rfl 2 rfl ?_
      refine g_iload_n XX d_MO_isBefore_50 rfl 0 rfl ?_
      refine g_iadd XX d_MO_isBefore_51 ?_
      refine g_iald XX 1 0 rfl rfl ⟨by omega, by omega, by decide⟩ d_MO_isBefore_52 ?_
      refine g_aload_n XX d_MO_isBefore_53 rfl 1 rfl ?_
      refine g_get (C := R_MO) (T := T_MO) (N := 10) XX (tmw win0_MO) 0 rfl rfl 3 (by decide) (tm kw_111) rfl rfl d_MO_isBefore_54 ?_
      refine g_iload_n XX d_MO_isBefore_57 rfl 3 rfl ?_
      refine g_iload_n XX d_MO_isBefore_58 rfl 0 rfl ?_
      refine g_iadd XX d_MO_isBefore_59 ?_
      refine g_iald XX 1 0 rfl rfl ⟨by omega, by omega, by decide⟩ d_MO_isBefore_60 ?_
      have e1 := hfX (i + al X n X n i j) (by omega) (by omega)
      have e2 := hfX (j + al X n X n i j) (by omega) (by omega)
      have bb1 := hbX (i + al X n X n i j) (by omega) (by omega)
      have bb2 := hbX (j + al X n X n i j) (by omega) (by omega)
      refine g_icmp_ge (tgt := 68) XX d_MO_isBefore_61 (by decide) ⟨by omega, by omega⟩ ⟨by omega, by omega⟩ (fun h61 => ?_) (fun h61 => ?_)
      · -- 61: yes
        have hz : lb X n i j = false := by simp only [lb, decide_eq_false_iff_not]; omega
        refine g_iconst XX d_MO_isBefore_68 ?_
        exact ret _ _ _ _ [cO y 5 [.int (iI t), .ref b1, .int (iI n), .ref b2, .ref b3, .int (iI m), .ref b4, .ref b5, .ref b6, .ref b7], cR b2 cA 96 f2] [0, 1] (by first | exact Or.inl rfl | exact Or.inr rfl) d_MO_isBefore_69 (by decide) rfl (⟨by rw [hz]; rfl, rfl⟩)
      · -- 61: no
        have hz : lb X n i j = true := by simp only [lb, decide_eq_true_eq]; omega
        refine g_iconst XX d_MO_isBefore_64 ?_
        refine g_goto (tgt := 69) XX d_MO_isBefore_65 (by decide) ?_
        exact ret _ _ _ _ [cO y 5 [.int (iI t), .ref b1, .int (iI n), .ref b2, .ref b3, .int (iI m), .ref b4, .ref b5, .ref b6, .ref b7], cR b2 cA 96 f2] [0, 1] (by first | exact Or.inl rfl | exact Or.inr rfl) d_MO_isBefore_69 (by decide) rfl (⟨by rw [hz]; rfl, rfl⟩)
  · -- 14: no
    refine g_iload_n XX d_MO_isBefore_17 rfl 3 rfl ?_
    refine g_iload_n XX d_MO_isBefore_18 rfl 0 rfl ?_
    refine g_iadd XX d_MO_isBefore_19 ?_
    refine g_aload_n XX d_MO_isBefore_20 rfl 1 rfl ?_
    refine g_get (C := R_MO) (T := T_MO) (N := 10) XX (tmw win0_MO) 0 rfl rfl 2 (by decide) (tm kw_119) rfl rfl d_MO_isBefore_21 ?_
    refine g_icmp_ge (tgt := 31) XX d_MO_isBefore_24 (by decide) ⟨by omega, by omega⟩ ⟨by omega, by omega⟩ (fun h24 => ?_) (fun h24 => ?_)
    · -- 24: yes
      have hz : lb X n i j = false := by simp only [lb, decide_eq_false_iff_not]; omega
      refine g_iconst XX d_MO_isBefore_31 ?_
      refine g_goto (tgt := 69) XX d_MO_isBefore_32 (by decide) ?_
      exact ret _ _ _ _ [cO y 5 [.int (iI t), .ref b1, .int (iI n), .ref b2, .ref b3, .int (iI m), .ref b4, .ref b5, .ref b6, .ref b7], cR b2 cA 96 f2] [0, 1] (by first | exact Or.inl rfl | exact Or.inr rfl) d_MO_isBefore_69 (by decide) rfl (⟨by rw [hz]; rfl, rfl⟩)
    · -- 24: no
      have hz : lb X n i j = true := by simp only [lb, decide_eq_true_eq]; omega
      refine g_iconst XX d_MO_isBefore_27 ?_
      refine g_goto (tgt := 69) XX d_MO_isBefore_28 (by decide) ?_
      exact ret _ _ _ _ [cO y 5 [.int (iI t), .ref b1, .int (iI n), .ref b2, .ref b3, .int (iI m), .ref b4, .ref b5, .ref b6, .ref b7], cR b2 cA 96 f2] [0, 1] (by first | exact Or.inl rfl | exact Or.inr rfl) d_MO_isBefore_69 (by decide) rfl (⟨by rw [hz]; rfl, rfl⟩)
abbrev rm_M_sort : Room := { frames := 2, cells := 0, slots := 0, locals := 46 }
set_option maxHeartbeats 4000000 in
set_option maxRecDepth 100000 in
theorem c_M_sort (l : Launch) (D : va_G) (cA : ClassId) (y b1 b2 b3 b4 b5 b6 b7 : Nat) (f2 f3 X : Int → Int) (t n m : Int) (hn : 0 ≤ n ∧ n ≤ 96) (hfX : ag f2 X n) (hbX : bt8 X n) : xV l y_MO_sort w_MO_sort rm_M_sort D vwCl [(cA, .int)] [.ref y] [cO y 5 [.int (iI t), .ref b1, .int (iI n), .ref b2, .ref b3, .int (iI m), .ref b4, .ref b5, .ref b6, .ref b7], cR b2 cA 96 f2, cR b3 cA 97 f3] (fun w => ∃ (f3' : Int → Int), w = [cO y 5 [.int (iI t), .ref b1, .int (iI n), .ref b2, .ref b3, .int (iI m), .ref b4, .ref b5, .ref b6, .ref b7], cR b2 cA 96 f2, cR b3 cA 97 f3'] ∧ (ag f3' (og X n) (n + 1))) 0 0 := by
  refine xV.of (by decide) rfl (Nat.le_of_ble_eq_true rfl) ?_
  intro P0 E0 S0 M0 A0 B0 T0 C0 AA QQ XX hnm ret
  refine g_iconst XX d_MO_sort_0 ?_
  refine g_istore_n (lv' := [(1, .int (iI 0)), (0, .ref y)]) XX d_MO_sort_1 rfl (by decide) rfl ?_
  have L2 : ∀ (k_2 : Nat) (p0 : Int) (o1 : Int → Int), (0 ≤ p0 ∧ p0 ≤ n + 1) → (srt X n o1 p0) → (n + 1 - p0).toNat = k_2 → xG P0 l E0 rm_M_sort S0 M0 A0 B0 T0 C0 QQ 3 D vwCl AA 0 0 [cO y 5 [.int (iI t), .ref b1, .int (iI n), .ref b2, .ref b3, .int (iI m), .ref b4, .ref b5, .ref b6, .ref b7], cR b2 cA 96 f2, cR b3 cA 97 o1] 2 [(1, .int (iI p0)), (0, .ref y)] [] := by
    refine x_ind (fun k_2 ih_2 p0 o1 h1 h2 hk_2 => ?_)
    refine g_iload_n XX d_MO_sort_2 rfl 0 rfl ?_
    refine g_aload_n XX d_MO_sort_3 rfl 1 rfl ?_
    refine g_get (C := R_MO) (T := T_MO) (N := 10) XX (tmw win0_MO) 0 rfl rfl 2 (by decide) (tm kw_119) rfl rfl d_MO_sort_4 ?_
    refine g_icmp_gt (tgt := 65) XX d_MO_sort_7 (by decide) ⟨by omega, by omega⟩ ⟨by omega, by omega⟩ (fun h7 => ?_) (fun h7 => ?_)
    · -- 7: yes
      exact ret _ _ _ [cO y 5 [.int (iI t), .ref b1, .int (iI n), .ref b2, .ref b3, .int (iI m), .ref b4, .ref b5, .ref b6, .ref b7], cR b2 cA 96 f2, cR b3 cA 97 o1] [0, 1, 2] d_MO_sort_65 (by decide) rfl (⟨o1, rfl, srt_og (by omega) (by rw [show n + 1 = p0 by omega]; exact h2)⟩)
    · -- 7: no
      refine g_iload_n XX d_MO_sort_10 rfl 0 rfl ?_
      refine g_istore_n (lv' := [(2, .int (iI p0)), (1, .int (iI p0)), (0, .ref y)]) XX d_MO_sort_11 rfl (by decide) rfl ?_
      have L12 : ∀ (k_12 : Nat) (a0 : Int) (cur : Int → Int), (0 ≤ a0 ∧ a0 ≤ p0) → (∀ j, 0 ≤ j → j < a0 → cur j = o1 j) → (∀ j, a0 < j → j ≤ p0 → cur j = o1 (j - 1)) → (∀ j, a0 ≤ j → j < p0 → LT X n p0 (o1 j)) → (a0).toNat = k_12 → xG P0 l E0 rm_M_sort S0 M0 A0 B0 T0 C0 QQ 3 D vwCl AA 0 0 [cO y 5 [.int (iI t), .ref b1, .int (iI n), .ref b2, .ref b3, .int (iI m), .ref b4, .ref b5, .ref b6, .ref b7], cR b2 cA 96 f2, cR b3 cA 97 cur] 12 [(2, .int (iI a0)), (1, .int (iI p0)), (0, .ref y)] [] := by
        refine x_ind (fun k_12 ih_12 a0 cur g1 g2 g3 g4 hk_12 => ?_)
        refine g_iload_n XX d_MO_sort_12 rfl 0 rfl ?_
        refine g_if_le (tgt := 52) XX d_MO_sort_13 (by decide) ⟨by omega, by omega⟩ (fun h13 => ?_) (fun h13 => ?_)
        · -- 13: yes
          have hE : a0 = 0 ∨ ¬ LT X n p0 (o1 (a0 - 1)) := by first | exact Or.inl (by omega) | exact Or.inr (fun z => by have y := (lb_iff (X := X) (n := n) (p := p0) (q := cur (a0 - 1)) (by omega) (by omega)).mpr (by rw [e1]; exact z); rw [z01_0 h29] at y; cases y)
          refine g_aload_n XX d_MO_sort_52 rfl 2 rfl ?_
          refine g_get (C := R_MO) (T := T_MO) (N := 10) XX (tmw win0_MO) 0 rfl rfl 4 (by decide) (tm kw_112) rfl rfl d_MO_sort_53 ?_
          refine g_iload_n XX d_MO_sort_56 rfl 0 rfl ?_
          refine g_iload_n XX d_MO_sort_57 rfl 1 rfl ?_
          refine g_iast (ws' := [cO y 5 [.int (iI t), .ref b1, .int (iI n), .ref b2, .ref b3, .int (iI m), .ref b4, .ref b5, .ref b6, .ref b7], cR b2 cA 96 f2, cR b3 cA 97 (iup cur a0 p0)]) XX 2 0 rfl rfl ⟨by omega, by omega, by decide⟩ rfl d_MO_sort_58 ?_
          refine g_iinc (lv' := [(1, .int (iI (p0 + 1))), (2, .int (iI a0)), (0, .ref y)]) XX d_MO_sort_59 1 rfl (by decide) rfl ?_
          refine g_goto (tgt := 2) XX d_MO_sort_62 (by decide) ?_
          refine g_lv (lv' := [(1, .int (iI (p0 + 1))), (0, .ref y)]) [0, 2] rfl ?_
          exact ih_2 _ (by omega) (p0 + 1) (iup cur a0 p0) (by omega) (srt_s (by omega) (by omega) (by omega) h2 g2 g3 g4 hE) rfl
        · -- 13: no
          refine g_aload_n XX d_MO_sort_16 rfl 2 rfl ?_
          refine g_iload_n XX d_MO_sort_17 rfl 1 rfl ?_
          refine g_aload_n XX d_MO_sort_18 rfl 2 rfl ?_
          refine g_get (C := R_MO) (T := T_MO) (N := 10) XX (tmw win0_MO) 0 rfl rfl 4 (by decide) (tm kw_112) rfl rfl d_MO_sort_19 ?_
          refine g_iload_n XX d_MO_sort_22 rfl 0 rfl ?_
          refine g_iconst XX d_MO_sort_23 ?_
          refine g_isub XX d_MO_sort_24 ?_
          refine g_iald XX 2 0 rfl rfl ⟨by omega, by omega, by decide⟩ d_MO_sort_25 ?_
          have e1 := g2 (a0 - 1) (by omega) (by omega)
          have r1 := h2.1 (a0 - 1) (by omega) (by omega)
          refine g_calli (As := [.int (iI p0), .int (iI (cur (a0 - 1)))]) (st := []) (wr := [cR b3 cA 97 cur]) XX (c_M_isBefore l D cA y b1 b2 b3 b4 b5 b6 b7 f2 X t n m p0 (cur (a0 - 1)) (by first | assumption | omega) (by first | assumption | omega) (by first | assumption | omega) (by first | assumption | omega)) (x_cw 2 XX.2.2.2.2.1 (gi kw_125) rfl rfl (tm kw_123) (tm kw_126) (tm kw_127) (tm kw_128) ⟨by decide +kernel, by decide +kernel, by decide +kernel⟩ ⟨by decide, by decide⟩) [0, 1] [2] rfl rfl (by decide) (by decide) (by decide) 0 5 rfl rfl rfl rfl (Nat.le_of_ble_eq_true rfl) d_MO_sort_26 ⟨by decide, by decide⟩ (fun r_ w_ hq => ?_)
          obtain ⟨rfl, rfl⟩ := hq
          show xG P0 l E0 rm_M_sort S0 M0 A0 B0 T0 C0 QQ 3 D vwCl AA 0 0 [cR b3 cA 97 cur, cO y 5 [.int (iI t), .ref b1, .int (iI n), .ref b2, .ref b3, .int (iI m), .ref b4, .ref b5, .ref b6, .ref b7], cR b2 cA 96 f2] 29 [(2, .int (iI a0)), (1, .int (iI p0)), (0, .ref y)] [.int (iI (if lb X n p0 (cur (a0 - 1)) then 1 else 0))]
          refine g_if_eq (tgt := 52) XX d_MO_sort_29 (by decide) z01 (fun h29 => ?_) (fun h29 => ?_)
          · -- 29: yes
            have hE : a0 = 0 ∨ ¬ LT X n p0 (o1 (a0 - 1)) := by first | exact Or.inl (by omega) | exact Or.inr (fun z => by have y := (lb_iff (X := X) (n := n) (p := p0) (q := cur (a0 - 1)) (by omega) (by omega)).mpr (by rw [e1]; exact z); rw [z01_0 h29] at y; cases y)
            refine g_aload_n XX d_MO_sort_52 rfl 2 rfl ?_
            refine g_get (C := R_MO) (T := T_MO) (N := 10) XX (tmw win0_MO) 1 rfl rfl 4 (by decide) (tm kw_112) rfl rfl d_MO_sort_53 ?_
            refine g_iload_n XX d_MO_sort_56 rfl 0 rfl ?_
            refine g_iload_n XX d_MO_sort_57 rfl 1 rfl ?_
            refine g_iast (ws' := [cR b3 cA 97 (iup cur a0 p0), cO y 5 [.int (iI t), .ref b1, .int (iI n), .ref b2, .ref b3, .int (iI m), .ref b4, .ref b5, .ref b6, .ref b7], cR b2 cA 96 f2]) XX 0 0 rfl rfl ⟨by omega, by omega, by decide⟩ rfl d_MO_sort_58 ?_
            refine g_iinc (lv' := [(1, .int (iI (p0 + 1))), (2, .int (iI a0)), (0, .ref y)]) XX d_MO_sort_59 1 rfl (by decide) rfl ?_
            refine g_goto (tgt := 2) XX d_MO_sort_62 (by decide) ?_
            refine g_lv (lv' := [(1, .int (iI (p0 + 1))), (0, .ref y)]) [0, 2] rfl ?_
            refine g_ws (ws' := [cO y 5 [.int (iI t), .ref b1, .int (iI n), .ref b2, .ref b3, .int (iI m), .ref b4, .ref b5, .ref b6, .ref b7], cR b2 cA 96 f2, cR b3 cA 97 (iup cur a0 p0)]) [1, 2, 0] (by decide) rfl ?_
            exact ih_2 _ (by omega) (p0 + 1) (iup cur a0 p0) (by omega) (srt_s (by omega) (by omega) (by omega) h2 g2 g3 g4 hE) rfl
          · -- 29: no
            refine g_aload_n XX d_MO_sort_32 rfl 2 rfl ?_
            refine g_get (C := R_MO) (T := T_MO) (N := 10) XX (tmw win0_MO) 1 rfl rfl 4 (by decide) (tm kw_112) rfl rfl d_MO_sort_33 ?_
            refine g_iload_n XX d_MO_sort_36 rfl 0 rfl ?_
            refine g_aload_n XX d_MO_sort_37 rfl 2 rfl ?_
            refine g_get (C := R_MO) (T := T_MO) (N := 10) XX (tmw win0_MO) 1 rfl rfl 4 (by decide) (tm kw_112) rfl rfl d_MO_sort_38 ?_
            refine g_iload_n XX d_MO_sort_41 rfl 0 rfl ?_
            refine g_iconst XX d_MO_sort_42 ?_
            refine g_isub XX d_MO_sort_43 ?_
            refine g_iald XX 0 0 rfl rfl ⟨by omega, by omega, by decide⟩ d_MO_sort_44 ?_
            refine g_iast (ws' := [cR b3 cA 97 (iup cur a0 (cur (a0 - 1))), cO y 5 [.int (iI t), .ref b1, .int (iI n), .ref b2, .ref b3, .int (iI m), .ref b4, .ref b5, .ref b6, .ref b7], cR b2 cA 96 f2]) XX 0 0 rfl rfl ⟨by omega, by omega, by decide⟩ rfl d_MO_sort_45 ?_
            refine g_iinc (lv' := [(2, .int (iI (a0 + (-1)))), (1, .int (iI p0)), (0, .ref y)]) XX d_MO_sort_46 0 rfl (by decide) rfl ?_
            refine g_goto (tgt := 12) XX d_MO_sort_49 (by decide) ?_
            refine g_ws (ws' := [cO y 5 [.int (iI t), .ref b1, .int (iI n), .ref b2, .ref b3, .int (iI m), .ref b4, .ref b5, .ref b6, .ref b7], cR b2 cA 96 f2, cR b3 cA 97 (iup cur a0 (cur (a0 - 1)))]) [1, 2, 0] (by decide) rfl ?_
            exact ih_12 _ (by omega) (a0 + (-1)) (iup cur a0 (cur (a0 - 1))) (by omega) (fun j a b => by rw [iup_ne (by omega)]; exact g2 j a (by omega)) (fun j a b => if z : j = a0 then by rw [iup_eq z, e1, z] else by rw [iup_ne z]; exact g3 j (by omega) b) (fun j a b => if z : j = a0 - 1 then by rw [z, ← e1]; exact (lb_iff (by omega) (by omega)).mp (z01_1 h29) else g4 j (by omega) b) rfl
      exact L12 _ p0 o1 (by omega) (fun j a b => rfl) (fun j a b => by omega) (fun j a b => by omega) rfl
  exact L2 _ 0 f3 (by omega) (srt_0) rfl
abbrev rm_M_take : Room := { frames := 3, cells := 0, slots := 0, locals := 68 }
set_option maxHeartbeats 4000000 in
set_option maxRecDepth 100000 in
theorem c_M_take (l : Launch) (D : va_G) (cA : ClassId) (y b1 b2 b3 b4 b5 b6 b7 : Nat) (f1 f2 f3 T : Int → Int) (t n m : Int) (ht : 0 ≤ t ∧ t ≤ 96) (hfT : ag f1 T t) (hbT : bt8 T t) : xV l y_MO_take w_MO_take rm_M_take D vwCl [(cA, .int)] [.ref y] [cO y 5 [.int (iI t), .ref b1, .int (iI n), .ref b2, .ref b3, .int (iI m), .ref b4, .ref b5, .ref b6, .ref b7], cR b1 cA 96 f1, cR b2 cA 96 f2, cR b3 cA 97 f3] (fun w => ∃ (f2' : Int → Int), ∃ (f3' : Int → Int), w = [cO y 5 [.int (iI 0), .ref b1, .int (iI t), .ref b2, .ref b3, .int (iI m), .ref b4, .ref b5, .ref b6, .ref b7], cR b1 cA 96 f1, cR b2 cA 96 f2', cR b3 cA 97 f3'] ∧ (ag f2' T t) ∧ (ag f3' (og T t) (t + 1))) 0 0 := by
  refine xV.of (by decide) rfl (Nat.le_of_ble_eq_true rfl) ?_
  intro P0 E0 S0 M0 A0 B0 T0 C0 AA QQ XX hnm ret
  refine g_iconst XX d_MO_take_0 ?_
  refine g_istore_n (lv' := [(1, .int (iI 0)), (0, .ref y)]) XX d_MO_take_1 rfl (by decide) rfl ?_
  have L2 : ∀ (k_2 : Nat) (k0 : Int) (fc : Int → Int), (0 ≤ k0 ∧ k0 ≤ t) → (ag fc T k0) → (t - k0).toNat = k_2 → xG P0 l E0 rm_M_take S0 M0 A0 B0 T0 C0 QQ 2 D vwCl AA 0 0 [cO y 5 [.int (iI t), .ref b1, .int (iI n), .ref b2, .ref b3, .int (iI m), .ref b4, .ref b5, .ref b6, .ref b7], cR b1 cA 96 f1, cR b2 cA 96 fc, cR b3 cA 97 f3] 2 [(1, .int (iI k0)), (0, .ref y)] [] := by
    refine x_ind (fun k_2 ih_2 k0 fc h1 h2 hk_2 => ?_)
    refine g_iload_n XX d_MO_take_2 rfl 0 rfl ?_
    refine g_aload_n XX d_MO_take_3 rfl 1 rfl ?_
    refine g_get (C := R_MO) (T := T_MO) (N := 10) XX (tmw win0_MO) 0 rfl rfl 0 (by decide) (tm kw_117) rfl rfl d_MO_take_4 ?_
    refine g_icmp_ge (tgt := 28) XX d_MO_take_7 (by decide) ⟨by omega, by omega⟩ ⟨by omega, by omega⟩ (fun h7 => ?_) (fun h7 => ?_)
    · -- 7: yes
      refine g_aload_n XX d_MO_take_28 rfl 1 rfl ?_
      refine g_aload_n XX d_MO_take_29 rfl 1 rfl ?_
      refine g_get (C := R_MO) (T := T_MO) (N := 10) XX (tmw win0_MO) 0 rfl rfl 0 (by decide) (tm kw_117) rfl rfl d_MO_take_30 ?_
      refine g_put (C := R_MO) (T := T_MO) (N := 10) (ty := (.int)) (ws' := [cO y 5 [.int (iI t), .ref b1, .int (iI t), .ref b2, .ref b3, .int (iI m), .ref b4, .ref b5, .ref b6, .ref b7], cR b1 cA 96 f1, cR b2 cA 96 fc, cR b3 cA 97 f3]) XX (tmw win0_MO) ty_MO ok_MO nm_MO 0 rfl rfl 2 (by decide) (tm kw_119) rfl rfl (by decide +kernel) rfl rfl (Nat.le_of_ble_eq_true rfl) rfl d_MO_take_33 ?_
      refine g_aload_n XX d_MO_take_36 rfl 1 rfl ?_
      refine g_iconst XX d_MO_take_37 ?_
      refine g_put (C := R_MO) (T := T_MO) (N := 10) (ty := (.int)) (ws' := [cO y 5 [.int (iI 0), .ref b1, .int (iI t), .ref b2, .ref b3, .int (iI m), .ref b4, .ref b5, .ref b6, .ref b7], cR b1 cA 96 f1, cR b2 cA 96 fc, cR b3 cA 97 f3]) XX (tmw win0_MO) ty_MO ok_MO nm_MO 0 rfl rfl 0 (by decide) (tm kw_117) rfl rfl (by decide +kernel) rfl rfl (Nat.le_of_ble_eq_true rfl) rfl d_MO_take_38 ?_
      refine g_aload_n XX d_MO_take_41 rfl 1 rfl ?_
      refine g_callv (As := []) (st := []) (wr := [cR b1 cA 96 f1]) XX (c_M_sort l D cA y b1 b2 b3 b4 b5 b6 b7 fc f3 T 0 t m (by first | assumption | omega) (ag_le h2 (by omega)) (hbT)) (x_cw 0 XX.2.2.2.2.1 (gi kw_129) rfl rfl (tm kw_123) (tm kw_130) (tm kw_131) (tm kw_132) ⟨by decide +kernel, by decide +kernel, by decide +kernel⟩ ⟨by decide, by decide⟩) [0, 2, 3] [1] rfl rfl (by decide) (by decide) (by decide) 0 5 rfl rfl rfl rfl (Nat.le_of_ble_eq_true rfl) d_MO_take_42 ⟨by decide, by decide⟩ (fun w_ hq => ?_)
      obtain ⟨f3'_42, rfl, u42_0⟩ := hq
      show xG P0 l E0 rm_M_take S0 M0 A0 B0 T0 C0 QQ 2 D vwCl AA 0 0 [cR b1 cA 96 f1, cO y 5 [.int (iI 0), .ref b1, .int (iI t), .ref b2, .ref b3, .int (iI m), .ref b4, .ref b5, .ref b6, .ref b7], cR b2 cA 96 fc, cR b3 cA 97 f3'_42] 45 [(1, .int (iI k0)), (0, .ref y)] []
      exact ret _ _ _ [cO y 5 [.int (iI 0), .ref b1, .int (iI t), .ref b2, .ref b3, .int (iI m), .ref b4, .ref b5, .ref b6, .ref b7], cR b1 cA 96 f1, cR b2 cA 96 fc, cR b3 cA 97 f3'_42] [1, 0, 2, 3] d_MO_take_45 (by decide) rfl (⟨fc, f3'_42, rfl, ag_le h2 (by omega), u42_0⟩)
    · -- 7: no
      refine g_aload_n XX d_MO_take_10 rfl 1 rfl ?_
      refine g_get (C := R_MO) (T := T_MO) (N := 10) XX (tmw win0_MO) 0 rfl rfl 3 (by decide) (tm kw_111) rfl rfl d_MO_take_11 ?_
      refine g_iload_n XX d_MO_take_14 rfl 0 rfl ?_
      refine g_aload_n XX d_MO_take_15 rfl 1 rfl ?_
      refine g_get (C := R_MO) (T := T_MO) (N := 10) XX (tmw win0_MO) 0 rfl rfl 1 (by decide) (tm kw_110) rfl rfl d_MO_take_16 ?_
      refine g_iload_n XX d_MO_take_19 rfl 0 rfl ?_
      refine g_iald XX 1 0 rfl rfl ⟨by omega, by omega, by decide⟩ d_MO_take_20 ?_
      refine g_iast (ws' := [cO y 5 [.int (iI t), .ref b1, .int (iI n), .ref b2, .ref b3, .int (iI m), .ref b4, .ref b5, .ref b6, .ref b7], cR b1 cA 96 f1, cR b2 cA 96 (iup fc k0 (f1 k0)), cR b3 cA 97 f3]) XX 2 0 rfl rfl ⟨by omega, by omega, by decide⟩ rfl d_MO_take_21 ?_
      refine g_iinc (lv' := [(1, .int (iI (k0 + 1))), (0, .ref y)]) XX d_MO_take_22 0 rfl (by decide) rfl ?_
      refine g_goto (tgt := 2) XX d_MO_take_25 (by decide) ?_
      exact ih_2 _ (by omega) (k0 + 1) (iup fc k0 (f1 k0)) (by omega) (ag_s h2 (hfT k0 (by omega) (by omega))) rfl
  exact L2 _ 0 f2 (by omega) (ag_0 (by omega)) rfl
abbrev rm_M_build : Room := { frames := 4, cells := 0, slots := 0, locals := 89 }
set_option maxHeartbeats 4000000 in
set_option maxRecDepth 100000 in
theorem c_M_build (l : Launch) (D : va_G) (cA : ClassId) (y b1 b2 b3 b4 b5 b6 b7 : Nat) (f1 f2 f3 T : Int → Int) (t n m : Int) (ht : 0 ≤ t ∧ t ≤ 96) (hfT : ag f1 T t) (hbT : bt8 T t) : xM l y_MO_build w_MO_build rm_M_build D vwCl [(cA, .int)] [.ref y] [cO y 5 [.int (iI t), .ref b1, .int (iI n), .ref b2, .ref b3, .int (iI m), .ref b4, .ref b5, .ref b6, .ref b7], cR b1 cA 96 f1, cR b2 cA 96 f2, cR b3 cA 97 f3] (fun r w => ∃ (f2' : Int → Int), ∃ (f3' : Int → Int), r = iI t ∧ w = [cO y 5 [.int (iI 0), .ref b1, .int (iI t), .ref b2, .ref b3, .int (iI m), .ref b4, .ref b5, .ref b6, .ref b7], cR b1 cA 96 f1, cR b2 cA 96 f2', cR b3 cA 97 f3'] ∧ (ag f2' T t) ∧ (ag f3' (og T t) (t + 1))) 0 0 := by
  refine xM.ofI (by decide) rfl (Nat.le_of_ble_eq_true rfl) ?_
  intro P0 E0 S0 M0 A0 B0 T0 C0 AA QQ XX hnm ret
  refine g_aload_n XX d_MO_build_0 rfl 0 rfl ?_
  refine g_callv (As := []) (st := []) (wr := []) XX (c_M_take l D cA y b1 b2 b3 b4 b5 b6 b7 f1 f2 f3 T t n m (by first | assumption | omega) (by first | assumption | omega) (by first | assumption | omega)) (x_cw 0 XX.2.2.2.2.1 (gi kw_133) rfl rfl (tm kw_123) (tm kw_134) (tm kw_135) (tm kw_136) ⟨by decide +kernel, by decide +kernel, by decide +kernel⟩ ⟨by decide, by decide⟩) [0, 1, 2, 3] [] rfl rfl (by decide) (by decide) (by decide) 0 5 rfl rfl rfl rfl (Nat.le_of_ble_eq_true rfl) d_MO_build_1 ⟨by decide, by decide⟩ (fun w_ hq => ?_)
  obtain ⟨f2'_1, f3'_1, rfl, u1_0, u1_1⟩ := hq
  show xG P0 l E0 rm_M_build S0 M0 A0 B0 T0 C0 QQ 1 D vwCl AA 0 0 [cO y 5 [.int (iI 0), .ref b1, .int (iI t), .ref b2, .ref b3, .int (iI m), .ref b4, .ref b5, .ref b6, .ref b7], cR b1 cA 96 f1, cR b2 cA 96 f2'_1, cR b3 cA 97 f3'_1] 4 [(0, .ref y)] []
  refine g_aload_n XX d_MO_build_4 rfl 0 rfl ?_
  refine g_get (C := R_MO) (T := T_MO) (N := 10) XX (tmw win0_MO) 0 rfl rfl 2 (by decide) (tm kw_119) rfl rfl d_MO_build_5 ?_
  exact ret _ _ _ _ [cO y 5 [.int (iI 0), .ref b1, .int (iI t), .ref b2, .ref b3, .int (iI m), .ref b4, .ref b5, .ref b6, .ref b7], cR b1 cA 96 f1, cR b2 cA 96 f2'_1, cR b3 cA 97 f3'_1] [0, 1, 2, 3] d_MO_build_8 (by decide) rfl (⟨f2'_1, f3'_1, rfl, rfl, u1_0, u1_1⟩)
abbrev rm_M_size : Room := { frames := 0, cells := 0, slots := 0, locals := 0 }
set_option maxHeartbeats 4000000 in
set_option maxRecDepth 100000 in
theorem c_M_size (l : Launch) (D : va_G) (cA : ClassId) (y b1 b2 b3 b4 b5 b6 b7 : Nat) (t n m : Int)  : xM l y_MO_size w_MO_size rm_M_size D vwCl [(cA, .int)] [.ref y] [cO y 5 [.int (iI t), .ref b1, .int (iI n), .ref b2, .ref b3, .int (iI m), .ref b4, .ref b5, .ref b6, .ref b7]] (fun r w => r = iI n ∧ w = [cO y 5 [.int (iI t), .ref b1, .int (iI n), .ref b2, .ref b3, .int (iI m), .ref b4, .ref b5, .ref b6, .ref b7]]) 0 0 := by
  refine xM.ofI (by decide) rfl (Nat.le_of_ble_eq_true rfl) ?_
  intro P0 E0 S0 M0 A0 B0 T0 C0 AA QQ XX hnm ret
  refine g_aload_n XX d_MO_size_0 rfl 0 rfl ?_
  refine g_get (C := R_MO) (T := T_MO) (N := 10) XX (tmw win0_MO) 0 rfl rfl 2 (by decide) (tm kw_119) rfl rfl d_MO_size_1 ?_
  exact ret _ _ _ _ [cO y 5 [.int (iI t), .ref b1, .int (iI n), .ref b2, .ref b3, .int (iI m), .ref b4, .ref b5, .ref b6, .ref b7]] [0] d_MO_size_4 (by decide) rfl (⟨rfl, rfl⟩)
abbrev rm_M_at : Room := { frames := 0, cells := 0, slots := 0, locals := 0 }
set_option maxHeartbeats 4000000 in
set_option maxRecDepth 100000 in
theorem c_M_at (l : Launch) (D : va_G) (cA : ClassId) (y b1 b2 b3 b4 b5 b6 b7 : Nat) (f2 X : Int → Int) (t n m i : Int) (hn : 0 ≤ n ∧ n ≤ 96) (hi : -2147483648 ≤ i ∧ i < 2147483648) (hfX : ag f2 X n) : xM l y_MO_at w_MO_at rm_M_at D vwCl [(cA, .int)] [.ref y, .int (iI i)] [cO y 5 [.int (iI t), .ref b1, .int (iI n), .ref b2, .ref b3, .int (iI m), .ref b4, .ref b5, .ref b6, .ref b7], cR b2 cA 96 f2] (fun r w => r = iI (if 0 ≤ i ∧ i < n then X i else -1) ∧ w = [cO y 5 [.int (iI t), .ref b1, .int (iI n), .ref b2, .ref b3, .int (iI m), .ref b4, .ref b5, .ref b6, .ref b7], cR b2 cA 96 f2]) 0 0 := by
  refine xM.ofI (by decide) rfl (Nat.le_of_ble_eq_true rfl) ?_
  intro P0 E0 S0 M0 A0 B0 T0 C0 AA QQ XX hnm ret
  refine g_iload_n XX d_MO_at_0 rfl 1 rfl ?_
  refine g_if_lt (tgt := 21) XX d_MO_at_1 (by decide) ⟨by omega, by omega⟩ (fun h1 => ?_) (fun h1 => ?_)
  · -- 1: yes
    have hz : ¬ (0 ≤ i ∧ i < n) := by omega
    refine g_iconst XX d_MO_at_21 ?_
    exact ret _ _ _ _ [cO y 5 [.int (iI t), .ref b1, .int (iI n), .ref b2, .ref b3, .int (iI m), .ref b4, .ref b5, .ref b6, .ref b7], cR b2 cA 96 f2] [0, 1] d_MO_at_22 (by decide) rfl (⟨by first | rw [if_pos hz, e1] | rw [if_neg hz], rfl⟩)
  · -- 1: no
    refine g_iload_n XX d_MO_at_4 rfl 1 rfl ?_
    refine g_aload_n XX d_MO_at_5 rfl 0 rfl ?_
    refine g_get (C := R_MO) (T := T_MO) (N := 10) XX (tmw win0_MO) 0 rfl rfl 2 (by decide) (tm kw_119) rfl rfl d_MO_at_6 ?_
    refine g_icmp_ge (tgt := 21) XX d_MO_at_9 (by decide) ⟨by omega, by omega⟩ ⟨by omega, by omega⟩ (fun h9 => ?_) (fun h9 => ?_)
    · -- 9: yes
      have hz : ¬ (0 ≤ i ∧ i < n) := by omega
      refine g_iconst XX d_MO_at_21 ?_
      exact ret _ _ _ _ [cO y 5 [.int (iI t), .ref b1, .int (iI n), .ref b2, .ref b3, .int (iI m), .ref b4, .ref b5, .ref b6, .ref b7], cR b2 cA 96 f2] [0, 1] d_MO_at_22 (by decide) rfl (⟨by first | rw [if_pos hz, e1] | rw [if_neg hz], rfl⟩)
    · -- 9: no
      refine g_aload_n XX d_MO_at_12 rfl 0 rfl ?_
      refine g_get (C := R_MO) (T := T_MO) (N := 10) XX (tmw win0_MO) 0 rfl rfl 3 (by decide) (tm kw_111) rfl rfl d_MO_at_13 ?_
      refine g_iload_n XX d_MO_at_16 rfl 1 rfl ?_
      refine g_iald XX 1 0 rfl rfl ⟨by omega, by omega, by decide⟩ d_MO_at_17 ?_
      have hz : 0 ≤ i ∧ i < n := by omega
      have e1 := hfX i (by omega) (by omega)
      refine g_goto (tgt := 22) XX d_MO_at_18 (by decide) ?_
      exact ret _ _ _ _ [cO y 5 [.int (iI t), .ref b1, .int (iI n), .ref b2, .ref b3, .int (iI m), .ref b4, .ref b5, .ref b6, .ref b7], cR b2 cA 96 f2] [0, 1] d_MO_at_22 (by decide) rfl (⟨by first | rw [if_pos hz, e1] | rw [if_neg hz], rfl⟩)
abbrev rm_M_suffix : Room := { frames := 0, cells := 0, slots := 0, locals := 0 }
set_option maxHeartbeats 4000000 in
set_option maxRecDepth 100000 in
theorem c_M_suffix (l : Launch) (D : va_G) (cA : ClassId) (y b1 b2 b3 b4 b5 b6 b7 : Nat) (f3 X : Int → Int) (t n m i : Int) (hn : 0 ≤ n ∧ n ≤ 96) (hi : -2147483648 ≤ i ∧ i < 2147483648) (hfO : ag f3 (og X n) (n + 1)) : xM l y_MO_suffix w_MO_suffix rm_M_suffix D vwCl [(cA, .int)] [.ref y, .int (iI i)] [cO y 5 [.int (iI t), .ref b1, .int (iI n), .ref b2, .ref b3, .int (iI m), .ref b4, .ref b5, .ref b6, .ref b7], cR b3 cA 97 f3] (fun r w => r = iI (if 0 ≤ i ∧ i ≤ n then og X n i else -1) ∧ w = [cO y 5 [.int (iI t), .ref b1, .int (iI n), .ref b2, .ref b3, .int (iI m), .ref b4, .ref b5, .ref b6, .ref b7], cR b3 cA 97 f3]) 0 0 := by
  refine xM.ofI (by decide) rfl (Nat.le_of_ble_eq_true rfl) ?_
  intro P0 E0 S0 M0 A0 B0 T0 C0 AA QQ XX hnm ret
  refine g_iload_n XX d_MO_suffix_0 rfl 1 rfl ?_
  refine g_if_lt (tgt := 21) XX d_MO_suffix_1 (by decide) ⟨by omega, by omega⟩ (fun h1 => ?_) (fun h1 => ?_)
  · -- 1: yes
    have hz : ¬ (0 ≤ i ∧ i ≤ n) := by omega
    refine g_iconst XX d_MO_suffix_21 ?_
    exact ret _ _ _ _ [cO y 5 [.int (iI t), .ref b1, .int (iI n), .ref b2, .ref b3, .int (iI m), .ref b4, .ref b5, .ref b6, .ref b7], cR b3 cA 97 f3] [0, 1] d_MO_suffix_22 (by decide) rfl (⟨by first | rw [if_pos hz, e1] | rw [if_neg hz], rfl⟩)
  · -- 1: no
    refine g_iload_n XX d_MO_suffix_4 rfl 1 rfl ?_
    refine g_aload_n XX d_MO_suffix_5 rfl 0 rfl ?_
    refine g_get (C := R_MO) (T := T_MO) (N := 10) XX (tmw win0_MO) 0 rfl rfl 2 (by decide) (tm kw_119) rfl rfl d_MO_suffix_6 ?_
    refine g_icmp_gt (tgt := 21) XX d_MO_suffix_9 (by decide) ⟨by omega, by omega⟩ ⟨by omega, by omega⟩ (fun h9 => ?_) (fun h9 => ?_)
    · -- 9: yes
      have hz : ¬ (0 ≤ i ∧ i ≤ n) := by omega
      refine g_iconst XX d_MO_suffix_21 ?_
      exact ret _ _ _ _ [cO y 5 [.int (iI t), .ref b1, .int (iI n), .ref b2, .ref b3, .int (iI m), .ref b4, .ref b5, .ref b6, .ref b7], cR b3 cA 97 f3] [0, 1] d_MO_suffix_22 (by decide) rfl (⟨by first | rw [if_pos hz, e1] | rw [if_neg hz], rfl⟩)
    · -- 9: no
      refine g_aload_n XX d_MO_suffix_12 rfl 0 rfl ?_
      refine g_get (C := R_MO) (T := T_MO) (N := 10) XX (tmw win0_MO) 0 rfl rfl 4 (by decide) (tm kw_112) rfl rfl d_MO_suffix_13 ?_
      refine g_iload_n XX d_MO_suffix_16 rfl 1 rfl ?_
      refine g_iald XX 1 0 rfl rfl ⟨by omega, by omega, by decide⟩ d_MO_suffix_17 ?_
      have hz : 0 ≤ i ∧ i ≤ n := by omega
      have e1 := hfO i (by omega) (by omega)
      refine g_goto (tgt := 22) XX d_MO_suffix_18 (by decide) ?_
      exact ret _ _ _ _ [cO y 5 [.int (iI t), .ref b1, .int (iI n), .ref b2, .ref b3, .int (iI m), .ref b4, .ref b5, .ref b6, .ref b7], cR b3 cA 97 f3] [0, 1] d_MO_suffix_22 (by decide) rfl (⟨by first | rw [if_pos hz, e1] | rw [if_neg hz], rfl⟩)
abbrev rm_M_rank : Room := { frames := 0, cells := 0, slots := 0, locals := 0 }
set_option maxHeartbeats 4000000 in
set_option maxRecDepth 100000 in
theorem c_M_rank (l : Launch) (D : va_G) (cA : ClassId) (y b1 b2 b3 b4 b5 b6 b7 : Nat) (f3 X : Int → Int) (t n m i : Int) (hn : 0 ≤ n ∧ n ≤ 96) (hi : -2147483648 ≤ i ∧ i < 2147483648) (hfO : ag f3 (og X n) (n + 1)) : xM l y_MO_rank w_MO_rank rm_M_rank D vwCl [(cA, .int)] [.ref y, .int (iI i)] [cO y 5 [.int (iI t), .ref b1, .int (iI n), .ref b2, .ref b3, .int (iI m), .ref b4, .ref b5, .ref b6, .ref b7], cR b3 cA 97 f3] (fun r w => r = iI (if 0 ≤ i ∧ i ≤ n then rk X n i else -1) ∧ w = [cO y 5 [.int (iI t), .ref b1, .int (iI n), .ref b2, .ref b3, .int (iI m), .ref b4, .ref b5, .ref b6, .ref b7], cR b3 cA 97 f3]) 0 0 := by
  refine xM.ofI (by decide) rfl (Nat.le_of_ble_eq_true rfl) ?_
  intro P0 E0 S0 M0 A0 B0 T0 C0 AA QQ XX hnm ret
  refine g_iconst XX d_MO_rank_0 ?_
  refine g_istore_n (lv' := [(2, .int (iI (-1))), (0, .ref y), (1, .int (iI i))]) XX d_MO_rank_1 rfl (by decide) rfl ?_
  refine g_iconst XX d_MO_rank_2 ?_
  refine g_istore_n (lv' := [(3, .int (iI 0)), (2, .int (iI (-1))), (0, .ref y), (1, .int (iI i))]) XX d_MO_rank_3 rfl (by decide) rfl ?_
  have L4 : ∀ (k_4 : Nat) (fo : Int) (r0 : Int), (0 ≤ r0 ∧ r0 ≤ n + 1) → (fo = if 0 ≤ i ∧ i ≤ n ∧ rk X n i < r0 then rk X n i else -1) → (n + 1 - r0).toNat = k_4 → xG P0 l E0 rm_M_rank S0 M0 A0 B0 T0 C0 QQ 4 D vwCl AA 0 0 [cO y 5 [.int (iI t), .ref b1, .int (iI n), .ref b2, .ref b3, .int (iI m), .ref b4, .ref b5, .ref b6, .ref b7], cR b3 cA 97 f3] 4 [(3, .int (iI r0)), (2, .int (iI fo)), (0, .ref y), (1, .int (iI i))] [] := by
    refine x_ind (fun k_4 ih_4 fo r0 h1 h2 hk_4 => ?_)
    refine g_iload_n XX d_MO_rank_4 rfl 0 rfl ?_
    refine g_aload_n XX d_MO_rank_5 rfl 2 rfl ?_
    refine g_get (C := R_MO) (T := T_MO) (N := 10) XX (tmw win0_MO) 0 rfl rfl 2 (by decide) (tm kw_119) rfl rfl d_MO_rank_6 ?_
    refine g_icmp_gt (tgt := 34) XX d_MO_rank_9 (by decide) ⟨by omega, by omega⟩ ⟨by omega, by omega⟩ (fun h9 => ?_) (fun h9 => ?_)
    · -- 9: yes
      refine g_iload_n XX d_MO_rank_34 rfl 1 rfl ?_
      exact ret _ _ _ _ [cO y 5 [.int (iI t), .ref b1, .int (iI n), .ref b2, .ref b3, .int (iI m), .ref b4, .ref b5, .ref b6, .ref b7], cR b3 cA 97 f3] [0, 1] d_MO_rank_35 (by decide) rfl (⟨congrArg iI (rkf_end (by omega) h2), rfl⟩)
    · -- 9: no
      refine g_aload_n XX d_MO_rank_12 rfl 2 rfl ?_
      refine g_get (C := R_MO) (T := T_MO) (N := 10) XX (tmw win0_MO) 0 rfl rfl 4 (by decide) (tm kw_112) rfl rfl d_MO_rank_13 ?_
      refine g_iload_n XX d_MO_rank_16 rfl 0 rfl ?_
      refine g_iald XX 1 0 rfl rfl ⟨by omega, by omega, by decide⟩ d_MO_rank_17 ?_
      refine g_iload_n XX d_MO_rank_18 rfl 3 rfl ?_
      have e1 := hfO r0 (by omega) (by omega)
      have g1 := og_rng (X := X) (n := n) (r := r0) (by omega) (by omega)
      refine g_icmp_ne (tgt := 26) XX d_MO_rank_19 (by decide) ⟨by omega, by omega⟩ ⟨by omega, by omega⟩ (fun h19 => ?_) (fun h19 => ?_)
      · -- 19: yes
        refine g_iload_n XX d_MO_rank_26 rfl 1 rfl ?_
        refine g_istore_n (lv' := [(2, .int (iI fo)), (3, .int (iI r0)), (0, .ref y), (1, .int (iI i))]) XX d_MO_rank_27 rfl (by decide) rfl ?_
        refine g_iinc (lv' := [(3, .int (iI (r0 + 1))), (2, .int (iI fo)), (0, .ref y), (1, .int (iI i))]) XX d_MO_rank_28 1 rfl (by decide) rfl ?_
        refine g_goto (tgt := 4) XX d_MO_rank_31 (by decide) ?_
        exact ih_4 _ (by omega) fo (r0 + 1) (by omega) (by first | exact rkf_put (by omega) (by omega) (by omega) | exact rkf_keep (by omega) (by omega) (by omega) h2) rfl
      · -- 19: no
        refine g_iload_n XX d_MO_rank_22 rfl 0 rfl ?_
        refine g_goto (tgt := 27) XX d_MO_rank_23 (by decide) ?_
        refine g_istore_n (lv' := [(2, .int (iI r0)), (3, .int (iI r0)), (0, .ref y), (1, .int (iI i))]) XX d_MO_rank_27 rfl (by decide) rfl ?_
        refine g_iinc (lv' := [(3, .int (iI (r0 + 1))), (2, .int (iI r0)), (0, .ref y), (1, .int (iI i))]) XX d_MO_rank_28 1 rfl (by decide) rfl ?_
        refine g_goto (tgt := 4) XX d_MO_rank_31 (by decide) ?_
        exact ih_4 _ (by omega) r0 (r0 + 1) (by omega) (by first | exact rkf_put (by omega) (by omega) (by omega) | exact rkf_keep (by omega) (by omega) (by omega) h2) rfl
  exact L4 _ (-1) 0 (by omega) (rkf_0) rfl
abbrev rm_M_bef1 : Room := { frames := 0, cells := 0, slots := 0, locals := 0 }
set_option maxHeartbeats 4000000 in
set_option maxRecDepth 100000 in
theorem c_M_bef1 (l : Launch) (D : va_G) (cA : ClassId) (y b1 b2 b3 b4 b5 b6 b7 : Nat) (f2 f3 X : Int → Int) (t n m i : Int) (hn : 0 ≤ n ∧ n ≤ 96) (hfX : ag f2 X n) (hbX : bt8 X n) (hfO : ag f3 (og X n) (n + 1)) (hi : 0 ≤ i ∧ i ≤ n) : xM l y_MO_before1 w_MO_before1 rm_M_bef1 D vwCl [(cA, .int)] [.ref y, .int (iI i)] [cO y 5 [.int (iI t), .ref b1, .int (iI n), .ref b2, .ref b3, .int (iI m), .ref b4, .ref b5, .ref b6, .ref b7], cR b2 cA 96 f2, cR b3 cA 97 f3] (fun r w => r = iI (ph (cX X n i)) ∧ w = [cO y 5 [.int (iI t), .ref b1, .int (iI n), .ref b2, .ref b3, .int (iI m), .ref b4, .ref b5, .ref b6, .ref b7], cR b2 cA 96 f2, cR b3 cA 97 f3]) 0 0 := by
  refine xM.ofI (by decide) rfl (Nat.le_of_ble_eq_true rfl) ?_
  intro P0 E0 S0 M0 A0 B0 T0 C0 AA QQ XX hnm ret
  refine g_aload_n XX d_MO_before1_0 rfl 0 rfl ?_
  refine g_get (C := R_MO) (T := T_MO) (N := 10) XX (tmw win0_MO) 0 rfl rfl 4 (by decide) (tm kw_112) rfl rfl d_MO_before1_1 ?_
  refine g_iload_n XX d_MO_before1_4 rfl 1 rfl ?_
  refine g_iald XX 2 0 rfl rfl ⟨by omega, by omega, by decide⟩ d_MO_before1_5 ?_
  have e1 := hfO i (by omega) (by omega)
  have g1 := og_rng (X := X) (n := n) (r := i) (by omega) (by omega)
  refine g_if_ne (tgt := 15) XX d_MO_before1_6 (by decide) ⟨by omega, by omega⟩ (fun h6 => ?_) (fun h6 => ?_)
  · -- 6: yes
    refine g_aload_n XX d_MO_before1_15 rfl 0 rfl ?_
    refine g_get (C := R_MO) (T := T_MO) (N := 10) XX (tmw win0_MO) 0 rfl rfl 3 (by decide) (tm kw_111) rfl rfl d_MO_before1_16 ?_
    refine g_aload_n XX d_MO_before1_19 rfl 0 rfl ?_
    refine g_get (C := R_MO) (T := T_MO) (N := 10) XX (tmw win0_MO) 0 rfl rfl 4 (by decide) (tm kw_112) rfl rfl d_MO_before1_20 ?_
    refine g_iload_n XX d_MO_before1_23 rfl 1 rfl ?_
    refine g_iald XX 2 0 rfl rfl ⟨by omega, by omega, by decide⟩ d_MO_before1_24 ?_
    refine g_iconst XX d_MO_before1_25 ?_
    refine g_isub XX d_MO_before1_26 ?_
    refine g_iald XX 1 0 rfl rfl ⟨by omega, by omega, by decide⟩ d_MO_before1_27 ?_
    exact ret _ _ _ _ [cO y 5 [.int (iI t), .ref b1, .int (iI n), .ref b2, .ref b3, .int (iI m), .ref b4, .ref b5, .ref b6, .ref b7], cR b2 cA 96 f2, cR b3 cA 97 f3] [0, 1, 2] d_MO_before1_28 (by decide) rfl (⟨by first | rw [phc_0 (by omega)] | rw [phc_1 hbX hi.1 hi.2 (by omega), e1, hfX (og X n i - 1) (by omega) (by omega)], rfl⟩)
  · -- 6: no
    refine g_sipush (v := 256) XX d_MO_before1_9 (by decide) ?_
    refine g_goto (tgt := 28) XX d_MO_before1_12 (by decide) ?_
    exact ret _ _ _ _ [cO y 5 [.int (iI t), .ref b1, .int (iI n), .ref b2, .ref b3, .int (iI m), .ref b4, .ref b5, .ref b6, .ref b7], cR b2 cA 96 f2, cR b3 cA 97 f3] [0, 1, 2] d_MO_before1_28 (by decide) rfl (⟨by first | rw [phc_0 (by omega)] | rw [phc_1 hbX hi.1 hi.2 (by omega), e1, hfX (og X n i - 1) (by omega) (by omega)], rfl⟩)
abbrev rm_M_column : Room := { frames := 1, cells := 0, slots := 0, locals := 21 }
set_option maxHeartbeats 4000000 in
set_option maxRecDepth 100000 in
theorem c_M_column (l : Launch) (D : va_G) (cA : ClassId) (y b1 b2 b3 b4 b5 b6 b7 : Nat) (f2 f3 X : Int → Int) (t n m i : Int) (hn : 0 ≤ n ∧ n ≤ 96) (hfX : ag f2 X n) (hbX : bt8 X n) (hfO : ag f3 (og X n) (n + 1)) (hi : -2147483648 ≤ i ∧ i < 2147483648) : xM l y_MO_column w_MO_column rm_M_column D vwCl [(cA, .int)] [.ref y, .int (iI i)] [cO y 5 [.int (iI t), .ref b1, .int (iI n), .ref b2, .ref b3, .int (iI m), .ref b4, .ref b5, .ref b6, .ref b7], cR b2 cA 96 f2, cR b3 cA 97 f3] (fun r w => r = iI (if 0 ≤ i ∧ i ≤ n then cX X n i else -1) ∧ w = [cO y 5 [.int (iI t), .ref b1, .int (iI n), .ref b2, .ref b3, .int (iI m), .ref b4, .ref b5, .ref b6, .ref b7], cR b2 cA 96 f2, cR b3 cA 97 f3]) 0 0 := by
  refine xM.ofI (by decide) rfl (Nat.le_of_ble_eq_true rfl) ?_
  intro P0 E0 S0 M0 A0 B0 T0 C0 AA QQ XX hnm ret
  refine g_iload_n XX d_MO_column_0 rfl 1 rfl ?_
  refine g_if_lt (tgt := 12) XX d_MO_column_1 (by decide) ⟨by omega, by omega⟩ (fun h1 => ?_) (fun h1 => ?_)
  · -- 1: yes
    have hz : ¬ (0 ≤ i ∧ i ≤ n) := by omega
    refine g_iconst XX d_MO_column_12 ?_
    exact ret _ _ _ _ [cO y 5 [.int (iI t), .ref b1, .int (iI n), .ref b2, .ref b3, .int (iI m), .ref b4, .ref b5, .ref b6, .ref b7], cR b2 cA 96 f2, cR b3 cA 97 f3] [0, 1, 2] d_MO_column_13 (by decide) rfl (⟨by rw [if_neg hz], rfl⟩)
  · -- 1: no
    refine g_iload_n XX d_MO_column_4 rfl 1 rfl ?_
    refine g_aload_n XX d_MO_column_5 rfl 0 rfl ?_
    refine g_get (C := R_MO) (T := T_MO) (N := 10) XX (tmw win0_MO) 0 rfl rfl 2 (by decide) (tm kw_119) rfl rfl d_MO_column_6 ?_
    refine g_icmp_le (tgt := 14) XX d_MO_column_9 (by decide) ⟨by omega, by omega⟩ ⟨by omega, by omega⟩ (fun h9 => ?_) (fun h9 => ?_)
    · -- 9: yes
      have hz : 0 ≤ i ∧ i ≤ n := by omega
      have hs := cX_sy (X := X) (n := n) (r := i) hbX (by omega) (by omega)
      have hp := ph_rng hs
      refine g_aload_n XX d_MO_column_14 rfl 0 rfl ?_
      refine g_iload_n XX d_MO_column_15 rfl 1 rfl ?_
      refine g_calli (As := [.int (iI i)]) (st := []) (wr := []) XX (c_M_bef1 l D cA y b1 b2 b3 b4 b5 b6 b7 f2 f3 X t n m i (by first | assumption | omega) (by first | assumption | omega) (by first | assumption | omega) (by first | assumption | omega) (by first | assumption | omega)) (x_cw 1 XX.2.2.2.2.1 (gi kw_137) rfl rfl (tm kw_123) (tm kw_138) (tm kw_139) (tm kw_140) ⟨by decide +kernel, by decide +kernel, by decide +kernel⟩ ⟨by decide, by decide⟩) [0, 1, 2] [] rfl rfl (by decide) (by decide) (by decide) 0 5 rfl rfl rfl rfl (Nat.le_of_ble_eq_true rfl) d_MO_column_16 ⟨by decide, by decide⟩ (fun r_ w_ hq => ?_)
      obtain ⟨rfl, rfl⟩ := hq
      show xG P0 l E0 rm_M_column S0 M0 A0 B0 T0 C0 QQ 2 D vwCl AA 0 0 [cO y 5 [.int (iI t), .ref b1, .int (iI n), .ref b2, .ref b3, .int (iI m), .ref b4, .ref b5, .ref b6, .ref b7], cR b2 cA 96 f2, cR b3 cA 97 f3] 19 [(0, .ref y), (1, .int (iI i))] [.int (iI (ph (cX X n i)))]
      refine g_sipush (v := 256) XX d_MO_column_19 (by decide) ?_
      refine g_icmp_ne (tgt := 30) XX d_MO_column_22 (by decide) ⟨by omega, by omega⟩ ⟨by omega, by omega⟩ (fun h22 => ?_) (fun h22 => ?_)
      · -- 22: yes
        refine g_aload_n XX d_MO_column_30 rfl 0 rfl ?_
        refine g_iload_n XX d_MO_column_31 rfl 1 rfl ?_
        refine g_calli (As := [.int (iI i)]) (st := []) (wr := []) XX (c_M_bef1 l D cA y b1 b2 b3 b4 b5 b6 b7 f2 f3 X t n m i (by first | assumption | omega) (by first | assumption | omega) (by first | assumption | omega) (by first | assumption | omega) (by first | assumption | omega)) (x_cw 1 XX.2.2.2.2.1 (gi kw_137) rfl rfl (tm kw_123) (tm kw_138) (tm kw_139) (tm kw_140) ⟨by decide +kernel, by decide +kernel, by decide +kernel⟩ ⟨by decide, by decide⟩) [0, 1, 2] [] rfl rfl (by decide) (by decide) (by decide) 0 5 rfl rfl rfl rfl (Nat.le_of_ble_eq_true rfl) d_MO_column_32 ⟨by decide, by decide⟩ (fun r_ w_ hq => ?_)
        obtain ⟨rfl, rfl⟩ := hq
        show xG P0 l E0 rm_M_column S0 M0 A0 B0 T0 C0 QQ 2 D vwCl AA 0 0 [cO y 5 [.int (iI t), .ref b1, .int (iI n), .ref b2, .ref b3, .int (iI m), .ref b4, .ref b5, .ref b6, .ref b7], cR b2 cA 96 f2, cR b3 cA 97 f3] 35 [(0, .ref y), (1, .int (iI i))] [.int (iI (ph (cX X n i)))]
        exact ret _ _ _ _ [cO y 5 [.int (iI t), .ref b1, .int (iI n), .ref b2, .ref b3, .int (iI m), .ref b4, .ref b5, .ref b6, .ref b7], cR b2 cA 96 f2, cR b3 cA 97 f3] [0, 1, 2] d_MO_column_35 (by decide) rfl (⟨by first | rw [if_pos hz, ph_none hs h22] | rw [if_pos hz, ph_some h22], rfl⟩)
      · -- 22: no
        refine g_bipush (v := -2) XX d_MO_column_25 (by decide) ?_
        refine g_goto (tgt := 35) XX d_MO_column_27 (by decide) ?_
        exact ret _ _ _ _ [cO y 5 [.int (iI t), .ref b1, .int (iI n), .ref b2, .ref b3, .int (iI m), .ref b4, .ref b5, .ref b6, .ref b7], cR b2 cA 96 f2, cR b3 cA 97 f3] [0, 1, 2] d_MO_column_35 (by decide) rfl (⟨by first | rw [if_pos hz, ph_none hs h22] | rw [if_pos hz, ph_some h22], rfl⟩)
    · -- 9: no
      have hz : ¬ (0 ≤ i ∧ i ≤ n) := by omega
      refine g_iconst XX d_MO_column_12 ?_
      exact ret _ _ _ _ [cO y 5 [.int (iI t), .ref b1, .int (iI n), .ref b2, .ref b3, .int (iI m), .ref b4, .ref b5, .ref b6, .ref b7], cR b2 cA 96 f2, cR b3 cA 97 f3] [0, 1, 2] d_MO_column_13 (by decide) rfl (⟨by rw [if_neg hz], rfl⟩)
abbrev rm_M_common : Room := { frames := 1, cells := 0, slots := 0, locals := 23 }
set_option maxHeartbeats 4000000 in
set_option maxRecDepth 100000 in
theorem c_M_common (l : Launch) (D : va_G) (cA : ClassId) (y b1 b2 b3 b4 b5 b6 b7 : Nat) (f2 f3 X : Int → Int) (t n m i : Int) (hn : 0 ≤ n ∧ n ≤ 96) (hfX : ag f2 X n) (hbX : bt8 X n) (hfO : ag f3 (og X n) (n + 1)) (hi : -2147483648 ≤ i ∧ i < 2147483648) : xM l y_MO_common w_MO_common rm_M_common D vwCl [(cA, .int)] [.ref y, .int (iI i)] [cO y 5 [.int (iI t), .ref b1, .int (iI n), .ref b2, .ref b3, .int (iI m), .ref b4, .ref b5, .ref b6, .ref b7], cR b2 cA 96 f2, cR b3 cA 97 f3] (fun r w => r = iI (if 0 ≤ i ∧ i < n then cm X n i else -1) ∧ w = [cO y 5 [.int (iI t), .ref b1, .int (iI n), .ref b2, .ref b3, .int (iI m), .ref b4, .ref b5, .ref b6, .ref b7], cR b2 cA 96 f2, cR b3 cA 97 f3]) 0 0 := by
  refine xM.ofI (by decide) rfl (Nat.le_of_ble_eq_true rfl) ?_
  intro P0 E0 S0 M0 A0 B0 T0 C0 AA QQ XX hnm ret
  refine g_iload_n XX d_MO_common_0 rfl 1 rfl ?_
  refine g_if_lt (tgt := 33) XX d_MO_common_1 (by decide) ⟨by omega, by omega⟩ (fun h1 => ?_) (fun h1 => ?_)
  · -- 1: yes
    have hz : ¬ (0 ≤ i ∧ i < n) := by omega
    refine g_iconst XX d_MO_common_33 ?_
    exact ret _ _ _ _ [cO y 5 [.int (iI t), .ref b1, .int (iI n), .ref b2, .ref b3, .int (iI m), .ref b4, .ref b5, .ref b6, .ref b7], cR b2 cA 96 f2, cR b3 cA 97 f3] [0, 1, 2] d_MO_common_34 (by decide) rfl (⟨by first | (rw [if_pos hz, e1, e2]; rfl) | rw [if_neg hz], rfl⟩)
  · -- 1: no
    refine g_iload_n XX d_MO_common_4 rfl 1 rfl ?_
    refine g_aload_n XX d_MO_common_5 rfl 0 rfl ?_
    refine g_get (C := R_MO) (T := T_MO) (N := 10) XX (tmw win0_MO) 0 rfl rfl 2 (by decide) (tm kw_119) rfl rfl d_MO_common_6 ?_
    refine g_icmp_ge (tgt := 33) XX d_MO_common_9 (by decide) ⟨by omega, by omega⟩ ⟨by omega, by omega⟩ (fun h9 => ?_) (fun h9 => ?_)
    · -- 9: yes
      have hz : ¬ (0 ≤ i ∧ i < n) := by omega
      refine g_iconst XX d_MO_common_33 ?_
      exact ret _ _ _ _ [cO y 5 [.int (iI t), .ref b1, .int (iI n), .ref b2, .ref b3, .int (iI m), .ref b4, .ref b5, .ref b6, .ref b7], cR b2 cA 96 f2, cR b3 cA 97 f3] [0, 1, 2] d_MO_common_34 (by decide) rfl (⟨by first | (rw [if_pos hz, e1, e2]; rfl) | rw [if_neg hz], rfl⟩)
    · -- 9: no
      refine g_aload_n XX d_MO_common_12 rfl 0 rfl ?_
      refine g_aload_n XX d_MO_common_13 rfl 0 rfl ?_
      refine g_get (C := R_MO) (T := T_MO) (N := 10) XX (tmw win0_MO) 0 rfl rfl 4 (by decide) (tm kw_112) rfl rfl d_MO_common_14 ?_
      refine g_iload_n XX d_MO_common_17 rfl 1 rfl ?_
      refine g_iald XX 2 0 rfl rfl ⟨by omega, by omega, by decide⟩ d_MO_common_18 ?_
      refine g_aload_n XX d_MO_common_19 rfl 0 rfl ?_
      refine g_get (C := R_MO) (T := T_MO) (N := 10) XX (tmw win0_MO) 0 rfl rfl 4 (by decide) (tm kw_112) rfl rfl d_MO_common_20 ?_
      refine g_iload_n XX d_MO_common_23 rfl 1 rfl ?_
      refine g_iconst XX d_MO_common_24 ?_
      refine g_iadd XX d_MO_common_25 ?_
      refine g_iald XX 2 0 rfl rfl ⟨by omega, by omega, by decide⟩ d_MO_common_26 ?_
      have e1 := hfO i (by omega) (by omega)
      have e2 := hfO (i + 1) (by omega) (by omega)
      have g1 := og_rng (X := X) (n := n) (r := i) (by omega) (by omega)
      have g2 := og_rng (X := X) (n := n) (r := i + 1) (by omega) (by omega)
      have hz : 0 ≤ i ∧ i < n := by omega
      refine g_calli (As := [.int (iI (f3 i)), .int (iI (f3 (i + 1)))]) (st := []) (wr := [cR b3 cA 97 f3]) XX (c_M_alike l D cA y b1 b2 b3 b4 b5 b6 b7 f2 X t n m (f3 i) (f3 (i + 1)) (by first | assumption | omega) (by first | assumption | omega) (by first | assumption | omega) (by first | assumption | omega)) (x_cw 2 XX.2.2.2.2.1 (gi kw_120) rfl rfl (tm kw_123) (tm kw_121) (tm kw_122) (tm kw_124) ⟨by decide +kernel, by decide +kernel, by decide +kernel⟩ ⟨by decide, by decide⟩) [0, 1] [2] rfl rfl (by decide) (by decide) (by decide) 0 5 rfl rfl rfl rfl (Nat.le_of_ble_eq_true rfl) d_MO_common_27 ⟨by decide, by decide⟩ (fun r_ w_ hq => ?_)
      obtain ⟨rfl, rfl⟩ := hq
      show xG P0 l E0 rm_M_common S0 M0 A0 B0 T0 C0 QQ 2 D vwCl AA 0 0 [cR b3 cA 97 f3, cO y 5 [.int (iI t), .ref b1, .int (iI n), .ref b2, .ref b3, .int (iI m), .ref b4, .ref b5, .ref b6, .ref b7], cR b2 cA 96 f2] 30 [(0, .ref y), (1, .int (iI i))] [.int (iI (al X n X n (f3 i) (f3 (i + 1))))]
      refine g_goto (tgt := 34) XX d_MO_common_30 (by decide) ?_
      exact ret _ _ _ _ [cO y 5 [.int (iI t), .ref b1, .int (iI n), .ref b2, .ref b3, .int (iI m), .ref b4, .ref b5, .ref b6, .ref b7], cR b2 cA 96 f2, cR b3 cA 97 f3] [1, 2, 0] d_MO_common_34 (by decide) rfl (⟨by first | (rw [if_pos hz, e1, e2]; rfl) | rw [if_neg hz], rfl⟩)
end
section
abbrev rm_M_moved : Room := { frames := 1, cells := 0, slots := 0, locals := 21 }
set_option maxHeartbeats 4000000 in
set_option maxRecDepth 100000 in
theorem c_M_moved (l : Launch) (D : va_G) (cA : ClassId) (y b1 b2 b3 b4 b5 b6 b7 : Nat) (f2 f3 f5 X : Int → Int) (t n m i : Int) (hn : 0 ≤ n ∧ n ≤ 96) (hfX : ag f2 X n) (hbX : bt8 X n) (hfO : ag f3 (og X n) (n + 1)) (hi : -2147483648 ≤ i ∧ i < 2147483648) : xM l y_MO_moved w_MO_moved rm_M_moved D vwCl [(cA, .int)] [.ref y, .int (iI i)] [cO y 5 [.int (iI t), .ref b1, .int (iI n), .ref b2, .ref b3, .int (iI m), .ref b4, .ref b5, .ref b6, .ref b7], cR b2 cA 96 f2, cR b3 cA 97 f3, cR b5 cA 257 f5] (fun r w => ∃ (f5' : Int → Int), r = iI (if 0 ≤ i ∧ i ≤ n then mN (cX X n) i else -1) ∧ w = [cO y 5 [.int (iI t), .ref b1, .int (iI n), .ref b2, .ref b3, .int (iI m), .ref b4, .ref b5, .ref b6, .ref b7], cR b2 cA 96 f2, cR b3 cA 97 f3, cR b5 cA 257 f5'] ∧ (True)) 0 0 := by
  refine xM.ofI (by decide) rfl (Nat.le_of_ble_eq_true rfl) ?_
  intro P0 E0 S0 M0 A0 B0 T0 C0 AA QQ XX hnm ret
  refine g_iload_n XX d_MO_moved_0 rfl 1 rfl ?_
  refine g_if_lt (tgt := 12) XX d_MO_moved_1 (by decide) ⟨by omega, by omega⟩ (fun h1 => ?_) (fun h1 => ?_)
  · -- 1: yes
    have hz : ¬ (0 ≤ i ∧ i ≤ n) := by omega
    refine g_iconst XX d_MO_moved_12 ?_
    exact ret _ _ _ _ [cO y 5 [.int (iI t), .ref b1, .int (iI n), .ref b2, .ref b3, .int (iI m), .ref b4, .ref b5, .ref b6, .ref b7], cR b2 cA 96 f2, cR b3 cA 97 f3, cR b5 cA 257 f5] [0, 1, 2, 3] d_MO_moved_13 (by decide) rfl (⟨f5, by rw [if_neg hz], rfl, trivial⟩)
  · -- 1: no
    refine g_iload_n XX d_MO_moved_4 rfl 1 rfl ?_
    refine g_aload_n XX d_MO_moved_5 rfl 0 rfl ?_
    refine g_get (C := R_MO) (T := T_MO) (N := 10) XX (tmw win0_MO) 0 rfl rfl 2 (by decide) (tm kw_119) rfl rfl d_MO_moved_6 ?_
    refine g_icmp_le (tgt := 14) XX d_MO_moved_9 (by decide) ⟨by omega, by omega⟩ ⟨by omega, by omega⟩ (fun h9 => ?_) (fun h9 => ?_)
    · -- 9: yes
      have hz : 0 ≤ i ∧ i ≤ n := by omega
      refine g_aload_n XX d_MO_moved_14 rfl 0 rfl ?_
      refine g_get (C := R_MO) (T := T_MO) (N := 10) XX (tmw win0_MO) 0 rfl rfl 7 (by decide) (tm kw_114) rfl rfl d_MO_moved_15 ?_
      refine g_iconst XX d_MO_moved_18 ?_
      refine g_sipush (v := 256) XX d_MO_moved_19 (by decide) ?_
      refine g_iast (ws' := [cO y 5 [.int (iI t), .ref b1, .int (iI n), .ref b2, .ref b3, .int (iI m), .ref b4, .ref b5, .ref b6, .ref b7], cR b2 cA 96 f2, cR b3 cA 97 f3, cR b5 cA 257 (iup f5 0 256)]) XX 3 0 rfl rfl ⟨by omega, by omega, by decide⟩ rfl d_MO_moved_22 ?_
      refine g_iconst XX d_MO_moved_23 ?_
      refine g_istore_n (lv' := [(2, .int (iI 0)), (0, .ref y), (1, .int (iI i))]) XX d_MO_moved_24 rfl (by decide) rfl ?_
      have L25 : ∀ (k_25 : Nat) (b0 : Int) (f52 : Int → Int), (0 ≤ b0 ∧ b0 ≤ 256) → (ag f52 (fun j => ph (mL0 j)) (b0 + 1)) → (256 - b0).toNat = k_25 → xG P0 l E0 rm_M_moved S0 M0 A0 B0 T0 C0 QQ 6 D vwCl AA 0 0 [cO y 5 [.int (iI t), .ref b1, .int (iI n), .ref b2, .ref b3, .int (iI m), .ref b4, .ref b5, .ref b6, .ref b7], cR b2 cA 96 f2, cR b3 cA 97 f3, cR b5 cA 257 f52] 25 [(2, .int (iI b0)), (0, .ref y), (1, .int (iI i))] [] := by
        refine x_ind (fun k_25 ih_25 b0 f52 h1 h2 hk_25 => ?_)
        refine g_iload_n XX d_MO_moved_25 rfl 0 rfl ?_
        refine g_sipush (v := 256) XX d_MO_moved_26 (by decide) ?_
        refine g_icmp_ge (tgt := 47) XX d_MO_moved_29 (by decide) ⟨by omega, by omega⟩ ⟨by omega, by omega⟩ (fun h29 => ?_) (fun h29 => ?_)
        · -- 29: yes
          refine g_iconst XX d_MO_moved_47 ?_
          refine g_istore_n (lv' := [(2, .int (iI 0)), (0, .ref y), (1, .int (iI i))]) XX d_MO_moved_48 rfl (by decide) rfl ?_
          refine g_iconst XX d_MO_moved_49 ?_
          refine g_istore_n (lv' := [(3, .int (iI 0)), (2, .int (iI 0)), (0, .ref y), (1, .int (iI i))]) XX d_MO_moved_50 rfl (by decide) rfl ?_
          have L51 : ∀ (k_51 : Nat) (nu0 : Int) (r0 : Int) (f53 : Int → Int), (0 ≤ r0 ∧ r0 ≤ i + 1) → (ag f53 (fun j => ph (mS (cX X n) r0 j)) 257) → (r0 = 0 ∨ nu0 = mN (cX X n) (r0 - 1)) → (i + 1 - r0).toNat = k_51 → xG P0 l E0 rm_M_moved S0 M0 A0 B0 T0 C0 QQ 6 D vwCl AA 0 0 [cO y 5 [.int (iI t), .ref b1, .int (iI n), .ref b2, .ref b3, .int (iI m), .ref b4, .ref b5, .ref b6, .ref b7], cR b2 cA 96 f2, cR b3 cA 97 f3, cR b5 cA 257 f53] 51 [(3, .int (iI r0)), (2, .int (iI nu0)), (0, .ref y), (1, .int (iI i))] [] := by
            refine x_ind (fun k_51 ih_51 nu0 r0 f53 k1 k2 k3 hk_51 => ?_)
            refine g_iload_n XX d_MO_moved_51 rfl 0 rfl ?_
            refine g_iload_n XX d_MO_moved_52 rfl 3 rfl ?_
            refine g_icmp_gt (tgt := 126) XX d_MO_moved_53 (by decide) ⟨by omega, by omega⟩ ⟨by omega, by omega⟩ (fun h53 => ?_) (fun h53 => ?_)
            · -- 53: yes
              refine g_iload_n XX d_MO_moved_126 rfl 1 rfl ?_
              exact ret _ _ _ _ [cO y 5 [.int (iI t), .ref b1, .int (iI n), .ref b2, .ref b3, .int (iI m), .ref b4, .ref b5, .ref b6, .ref b7], cR b2 cA 96 f2, cR b3 cA 97 f3, cR b5 cA 257 f53] [0, 1, 2, 3] d_MO_moved_127 (by decide) rfl (⟨f53, congrArg iI (by rw [if_pos hz]; exact (k3.resolve_left (by omega)).trans (by rw [show r0 - 1 = i by omega])), rfl, trivial⟩)
            · -- 53: no
              refine g_aload_n XX d_MO_moved_56 rfl 2 rfl ?_
              refine g_iload_n XX d_MO_moved_57 rfl 0 rfl ?_
              refine g_calli (As := [.int (iI r0)]) (st := []) (wr := [cR b5 cA 257 f53]) XX (c_M_bef1 l D cA y b1 b2 b3 b4 b5 b6 b7 f2 f3 X t n m r0 (by first | assumption | omega) (by first | assumption | omega) (by first | assumption | omega) (by first | assumption | omega) (by first | assumption | omega)) (x_cw 1 XX.2.2.2.2.1 (gi kw_137) rfl rfl (tm kw_123) (tm kw_138) (tm kw_139) (tm kw_140) ⟨by decide +kernel, by decide +kernel, by decide +kernel⟩ ⟨by decide, by decide⟩) [0, 1, 2] [3] rfl rfl (by decide) (by decide) (by decide) 0 5 rfl rfl rfl rfl (Nat.le_of_ble_eq_true rfl) d_MO_moved_58 ⟨by decide, by decide⟩ (fun r_ w_ hq => ?_)
              obtain ⟨rfl, rfl⟩ := hq
              show xG P0 l E0 rm_M_moved S0 M0 A0 B0 T0 C0 QQ 6 D vwCl AA 0 0 [cR b5 cA 257 f53, cO y 5 [.int (iI t), .ref b1, .int (iI n), .ref b2, .ref b3, .int (iI m), .ref b4, .ref b5, .ref b6, .ref b7], cR b2 cA 96 f2, cR b3 cA 97 f3] 61 [(3, .int (iI r0)), (2, .int (iI nu0)), (0, .ref y), (1, .int (iI i))] [.int (iI (ph (cX X n r0)))]
              refine g_istore (lv' := [(4, .int (iI (ph (cX X n r0)))), (3, .int (iI r0)), (2, .int (iI nu0)), (0, .ref y), (1, .int (iI i))]) XX d_MO_moved_61 (by decide) rfl ?_
              have hm := mok_S (col := cX X n) (n := n + 1) (fun j a b => cX_sy hbX a (by omega)) r0 (by omega) (by omega)
              have hs := cX_sy (X := X) (n := n) (r := r0) hbX (by omega) (by omega)
              have mp := mpos_spec hm hs
              refine g_iconst XX d_MO_moved_63 ?_
              refine g_istore_n (lv' := [(2, .int (iI 0)), (4, .int (iI (ph (cX X n r0)))), (3, .int (iI r0)), (0, .ref y), (1, .int (iI i))]) XX d_MO_moved_64 rfl (by decide) rfl ?_
              have L65 : ∀ (k_65 : Nat) (q0 : Int), (0 ≤ q0 ∧ q0 ≤ mpos (mS (cX X n) r0) (cX X n r0)) → (257 - q0).toNat = k_65 → xG P0 l E0 rm_M_moved S0 M0 A0 B0 T0 C0 QQ 6 D vwCl AA 0 0 [cR b5 cA 257 f53, cO y 5 [.int (iI t), .ref b1, .int (iI n), .ref b2, .ref b3, .int (iI m), .ref b4, .ref b5, .ref b6, .ref b7], cR b2 cA 96 f2, cR b3 cA 97 f3] 65 [(2, .int (iI q0)), (4, .int (iI (ph (cX X n r0)))), (3, .int (iI r0)), (0, .ref y), (1, .int (iI i))] [] := by
                refine x_ind (fun k_65 ih_65 q0 g1 hk_65 => ?_)
                refine g_aload_n XX d_MO_moved_65 rfl 3 rfl ?_
                refine g_get (C := R_MO) (T := T_MO) (N := 10) XX (tmw win0_MO) 1 rfl rfl 7 (by decide) (tm kw_114) rfl rfl d_MO_moved_66 ?_
                refine g_iload_n XX d_MO_moved_69 rfl 0 rfl ?_
                refine g_iald XX 0 0 rfl rfl ⟨by omega, by omega, by decide⟩ d_MO_moved_70 ?_
                refine g_iload XX d_MO_moved_71 1 rfl ?_
                have e1 : f53 q0 = ph (mS (cX X n) r0 q0) := k2 q0 (by omega) (by omega)
                have s1 := hm.1 q0 (by omega) (by omega)
                have p1 := ph_rng s1
                have p2 := ph_rng hs
                have p3 := ph_inj s1 hs
                refine g_icmp_eq (tgt := 82) XX d_MO_moved_73 (by decide) ⟨by omega, by omega⟩ ⟨by omega, by omega⟩ (fun h73 => ?_) (fun h73 => ?_)
                · -- 73: yes
                  have hq : q0 = mpos (mS (cX X n) r0) (cX X n r0) := Classical.byContradiction fun z => mp.2.2.2 q0 (by omega) (by omega) (p3.mp (e1.symm.trans h73))
                  refine g_iload_n XX d_MO_moved_82 rfl 0 rfl ?_
                  refine g_istore (lv' := [(5, .int (iI q0)), (2, .int (iI q0)), (4, .int (iI (ph (cX X n r0)))), (3, .int (iI r0)), (0, .ref y), (1, .int (iI i))]) XX d_MO_moved_83 (by decide) rfl ?_
                  have L85 : ∀ (k_85 : Nat) (c5 : Int) (f54 : Int → Int), (0 ≤ c5 ∧ c5 ≤ q0) → (∀ j, 0 ≤ j → j ≤ c5 → f54 j = f53 j) → (∀ j, c5 < j → j ≤ q0 → f54 j = f53 (j - 1)) → (∀ j, q0 < j → j < 257 → f54 j = f53 j) → (c5).toNat = k_85 → xG P0 l E0 rm_M_moved S0 M0 A0 B0 T0 C0 QQ 6 D vwCl AA 0 0 [cR b5 cA 257 f54, cO y 5 [.int (iI t), .ref b1, .int (iI n), .ref b2, .ref b3, .int (iI m), .ref b4, .ref b5, .ref b6, .ref b7], cR b2 cA 96 f2, cR b3 cA 97 f3] 85 [(5, .int (iI c5)), (2, .int (iI q0)), (4, .int (iI (ph (cX X n r0)))), (3, .int (iI r0)), (0, .ref y), (1, .int (iI i))] [] := by
                    refine x_ind (fun k_85 ih_85 c5 f54 d1 d2 d3 d4 hk_85 => ?_)
                    refine g_iload XX d_MO_moved_85 0 rfl ?_
                    refine g_if_le (tgt := 112) XX d_MO_moved_87 (by decide) ⟨by omega, by omega⟩ (fun h87 => ?_) (fun h87 => ?_)
                    · -- 87: yes
                      refine g_aload_n XX d_MO_moved_112 rfl 4 rfl ?_
                      refine g_get (C := R_MO) (T := T_MO) (N := 10) XX (tmw win0_MO) 1 rfl rfl 7 (by decide) (tm kw_114) rfl rfl d_MO_moved_113 ?_
                      refine g_iconst XX d_MO_moved_116 ?_
                      refine g_iload XX d_MO_moved_117 2 rfl ?_
                      refine g_iast (ws' := [cR b5 cA 257 (iup f54 0 (ph (cX X n r0))), cO y 5 [.int (iI t), .ref b1, .int (iI n), .ref b2, .ref b3, .int (iI m), .ref b4, .ref b5, .ref b6, .ref b7], cR b2 cA 96 f2, cR b3 cA 97 f3]) XX 0 0 rfl rfl ⟨by omega, by omega, by decide⟩ rfl d_MO_moved_119 ?_
                      refine g_iinc (lv' := [(3, .int (iI (r0 + 1))), (5, .int (iI c5)), (2, .int (iI q0)), (4, .int (iI (ph (cX X n r0)))), (0, .ref y), (1, .int (iI i))]) XX d_MO_moved_120 3 rfl (by decide) rfl ?_
                      refine g_goto (tgt := 51) XX d_MO_moved_123 (by decide) ?_
                      refine g_lv (lv' := [(3, .int (iI (r0 + 1))), (2, .int (iI q0)), (0, .ref y), (1, .int (iI i))]) [0, 2, 4, 5] rfl ?_
                      refine g_ws (ws' := [cO y 5 [.int (iI t), .ref b1, .int (iI n), .ref b2, .ref b3, .int (iI m), .ref b4, .ref b5, .ref b6, .ref b7], cR b2 cA 96 f2, cR b3 cA 97 f3, cR b5 cA 257 (iup f54 0 (ph (cX X n r0)))]) [1, 2, 3, 0] (by decide) rfl ?_
                      exact ih_51 _ (by omega) q0 (r0 + 1) (iup f54 0 (ph (cX X n r0))) (by omega) (by rw [mS_s (by omega)]; exact mshift k2 (fun j a b => d3 j (by omega) b) d4 hq.symm (by omega)) (Or.inr (by rw [show r0 + 1 - 1 = r0 by omega]; exact hq)) rfl
                    · -- 87: no
                      refine g_aload_n XX d_MO_moved_90 rfl 4 rfl ?_
                      refine g_get (C := R_MO) (T := T_MO) (N := 10) XX (tmw win0_MO) 1 rfl rfl 7 (by decide) (tm kw_114) rfl rfl d_MO_moved_91 ?_
                      refine g_iload XX d_MO_moved_94 0 rfl ?_
                      refine g_aload_n XX d_MO_moved_96 rfl 4 rfl ?_
                      refine g_get (C := R_MO) (T := T_MO) (N := 10) XX (tmw win0_MO) 1 rfl rfl 7 (by decide) (tm kw_114) rfl rfl d_MO_moved_97 ?_
                      refine g_iload XX d_MO_moved_100 0 rfl ?_
                      refine g_iconst XX d_MO_moved_102 ?_
                      refine g_isub XX d_MO_moved_103 ?_
                      refine g_iald XX 0 0 rfl rfl ⟨by omega, by omega, by decide⟩ d_MO_moved_104 ?_
                      refine g_iast (ws' := [cR b5 cA 257 (iup f54 c5 (f54 (c5 - 1))), cO y 5 [.int (iI t), .ref b1, .int (iI n), .ref b2, .ref b3, .int (iI m), .ref b4, .ref b5, .ref b6, .ref b7], cR b2 cA 96 f2, cR b3 cA 97 f3]) XX 0 0 rfl rfl ⟨by omega, by omega, by decide⟩ rfl d_MO_moved_105 ?_
                      refine g_iinc (lv' := [(5, .int (iI (c5 + (-1)))), (2, .int (iI q0)), (4, .int (iI (ph (cX X n r0)))), (3, .int (iI r0)), (0, .ref y), (1, .int (iI i))]) XX d_MO_moved_106 0 rfl (by decide) rfl ?_
                      refine g_goto (tgt := 85) XX d_MO_moved_109 (by decide) ?_
                      exact ih_85 _ (by omega) (c5 + (-1)) (iup f54 c5 (f54 (c5 - 1))) (by omega) (fun j a b => by rw [iup_ne (by omega)]; exact d2 j a (by omega)) (fun j a b => if z : j = c5 then by rw [iup_eq z, z]; exact d2 (c5 - 1) (by omega) (by omega) else by rw [iup_ne z]; exact d3 j (by omega) b) (fun j a b => by rw [iup_ne (by omega)]; exact d4 j a b) rfl
                  exact L85 _ q0 f53 (by omega) (fun j a b => rfl) (fun j a b => by omega) (fun j a b => rfl) rfl
                · -- 73: no
                  refine g_iinc (lv' := [(2, .int (iI (q0 + 1))), (4, .int (iI (ph (cX X n r0)))), (3, .int (iI r0)), (0, .ref y), (1, .int (iI i))]) XX d_MO_moved_76 0 rfl (by decide) rfl ?_
                  refine g_goto (tgt := 65) XX d_MO_moved_79 (by decide) ?_
                  exact ih_65 _ (by omega) (q0 + 1) (by have y : q0 ≠ mpos (mS (cX X n) r0) (cX X n r0) := fun z => h73 (by rw [e1, z, mp.2.2.1]); omega) rfl
              exact L65 _ 0 (by omega) rfl
          exact L51 _ 0 0 f52 (by omega) (ag_le h2 (by omega)) (Or.inl rfl) rfl
        · -- 29: no
          refine g_aload_n XX d_MO_moved_32 rfl 1 rfl ?_
          refine g_get (C := R_MO) (T := T_MO) (N := 10) XX (tmw win0_MO) 0 rfl rfl 7 (by decide) (tm kw_114) rfl rfl d_MO_moved_33 ?_
          refine g_iload_n XX d_MO_moved_36 rfl 0 rfl ?_
          refine g_iconst XX d_MO_moved_37 ?_
          refine g_iadd XX d_MO_moved_38 ?_
          refine g_iload_n XX d_MO_moved_39 rfl 0 rfl ?_
          refine g_iast (ws' := [cO y 5 [.int (iI t), .ref b1, .int (iI n), .ref b2, .ref b3, .int (iI m), .ref b4, .ref b5, .ref b6, .ref b7], cR b2 cA 96 f2, cR b3 cA 97 f3, cR b5 cA 257 (iup f52 (b0 + 1) b0)]) XX 3 0 rfl rfl ⟨by omega, by omega, by decide⟩ rfl d_MO_moved_40 ?_
          refine g_iinc (lv' := [(2, .int (iI (b0 + 1))), (0, .ref y), (1, .int (iI i))]) XX d_MO_moved_41 0 rfl (by decide) rfl ?_
          refine g_goto (tgt := 25) XX d_MO_moved_44 (by decide) ?_
          exact ih_25 _ (by omega) (b0 + 1) (iup f52 (b0 + 1) b0) (by omega) (ag_s h2 (by show b0 = ph (mL0 (b0 + 1)); simp only [mL0, ph, if_neg (show ¬ b0 + 1 = 0 by omega)]; rw [if_neg (by omega)]; omega)) rfl
      exact L25 _ 0 (iup f5 0 256) (by omega) (ag_s (ag_0 (by omega)) (by decide)) rfl
    · -- 9: no
      have hz : ¬ (0 ≤ i ∧ i ≤ n) := by omega
      refine g_iconst XX d_MO_moved_12 ?_
      exact ret _ _ _ _ [cO y 5 [.int (iI t), .ref b1, .int (iI n), .ref b2, .ref b3, .int (iI m), .ref b4, .ref b5, .ref b6, .ref b7], cR b2 cA 96 f2, cR b3 cA 97 f3, cR b5 cA 257 f5] [0, 1, 2, 3] d_MO_moved_13 (by decide) rfl (⟨f5, by rw [if_neg hz], rfl, trivial⟩)
abbrev rm_M_distinct : Room := { frames := 1, cells := 0, slots := 0, locals := 23 }
set_option maxHeartbeats 4000000 in
set_option maxRecDepth 100000 in
theorem c_M_distinct (l : Launch) (D : va_G) (cA : ClassId) (y b1 b2 b3 b4 b5 b6 b7 : Nat) (f2 f3 X : Int → Int) (t n m : Int) (hn : 0 ≤ n ∧ n ≤ 96) (hfX : ag f2 X n) (hbX : bt8 X n) (hfO : ag f3 (og X n) (n + 1)) : xM l y_MO_distinct w_MO_distinct rm_M_distinct D vwCl [(cA, .int)] [.ref y] [cO y 5 [.int (iI t), .ref b1, .int (iI n), .ref b2, .ref b3, .int (iI m), .ref b4, .ref b5, .ref b6, .ref b7], cR b2 cA 96 f2, cR b3 cA 97 f3] (fun r w => r = iI (sm (fun r => n - og X n (r + 1) - cm X n r) n) ∧ w = [cO y 5 [.int (iI t), .ref b1, .int (iI n), .ref b2, .ref b3, .int (iI m), .ref b4, .ref b5, .ref b6, .ref b7], cR b2 cA 96 f2, cR b3 cA 97 f3]) 0 0 := by
  refine xM.ofI (by decide) rfl (Nat.le_of_ble_eq_true rfl) ?_
  intro P0 E0 S0 M0 A0 B0 T0 C0 AA QQ XX hnm ret
  refine g_iconst XX d_MO_distinct_0 ?_
  refine g_istore_n (lv' := [(1, .int (iI 0)), (0, .ref y)]) XX d_MO_distinct_1 rfl (by decide) rfl ?_
  refine g_iconst XX d_MO_distinct_2 ?_
  refine g_istore_n (lv' := [(2, .int (iI 0)), (1, .int (iI 0)), (0, .ref y)]) XX d_MO_distinct_3 rfl (by decide) rfl ?_
  have L4 : ∀ (k_4 : Nat) (c0 : Int) (r0 : Int), (0 ≤ r0 ∧ r0 ≤ n + 1) → (c0 = sm (fun r => n - og X n r - (if 0 < r then al X n X n (og X n (r - 1)) (og X n r) else 0)) r0) → (n + 1 - r0).toNat = k_4 → xG P0 l E0 rm_M_distinct S0 M0 A0 B0 T0 C0 QQ 3 D vwCl AA 0 0 [cO y 5 [.int (iI t), .ref b1, .int (iI n), .ref b2, .ref b3, .int (iI m), .ref b4, .ref b5, .ref b6, .ref b7], cR b2 cA 96 f2, cR b3 cA 97 f3] 4 [(2, .int (iI r0)), (1, .int (iI c0)), (0, .ref y)] [] := by
    refine x_ind (fun k_4 ih_4 c0 r0 h1 h2 hk_4 => ?_)
    refine g_iload_n XX d_MO_distinct_4 rfl 0 rfl ?_
    refine g_aload_n XX d_MO_distinct_5 rfl 2 rfl ?_
    refine g_get (C := R_MO) (T := T_MO) (N := 10) XX (tmw win0_MO) 0 rfl rfl 2 (by decide) (tm kw_119) rfl rfl d_MO_distinct_6 ?_
    refine g_icmp_gt (tgt := 59) XX d_MO_distinct_9 (by decide) ⟨by omega, by omega⟩ ⟨by omega, by omega⟩ (fun h9 => ?_) (fun h9 => ?_)
    · -- 9: yes
      refine g_iload_n XX d_MO_distinct_59 rfl 1 rfl ?_
      exact ret _ _ _ _ [cO y 5 [.int (iI t), .ref b1, .int (iI n), .ref b2, .ref b3, .int (iI m), .ref b4, .ref b5, .ref b6, .ref b7], cR b2 cA 96 f2, cR b3 cA 97 f3] [0, 1, 2] d_MO_distinct_60 (by decide) rfl (⟨by rw [h2, show r0 = n + 1 by omega, dst_eq (by omega)], rfl⟩)
    · -- 9: no
      refine g_iload_n XX d_MO_distinct_12 rfl 1 rfl ?_
      refine g_aload_n XX d_MO_distinct_13 rfl 2 rfl ?_
      refine g_get (C := R_MO) (T := T_MO) (N := 10) XX (tmw win0_MO) 0 rfl rfl 2 (by decide) (tm kw_119) rfl rfl d_MO_distinct_14 ?_
      refine g_aload_n XX d_MO_distinct_17 rfl 2 rfl ?_
      refine g_get (C := R_MO) (T := T_MO) (N := 10) XX (tmw win0_MO) 0 rfl rfl 4 (by decide) (tm kw_112) rfl rfl d_MO_distinct_18 ?_
      refine g_iload_n XX d_MO_distinct_21 rfl 0 rfl ?_
      have e1 := hfO r0 (by omega) (by omega)
      have g1 := og_rng (X := X) (n := n) (r := r0) (by omega) (by omega)
      refine g_iald XX 2 0 rfl rfl ⟨by omega, by omega, by decide⟩ d_MO_distinct_22 ?_
      refine g_isub XX d_MO_distinct_23 ?_
      refine g_iload_n XX d_MO_distinct_24 rfl 0 rfl ?_
      refine g_if_le (tgt := 49) XX d_MO_distinct_25 (by decide) ⟨by omega, by omega⟩ (fun h25 => ?_) (fun h25 => ?_)
      · -- 25: yes
        refine g_iconst XX d_MO_distinct_49 ?_
        refine g_isub XX d_MO_distinct_50 ?_
        refine g_iadd XX d_MO_distinct_51 ?_
        refine g_istore_n (lv' := [(1, .int (iI (c0 + ((n - (f3 r0)) - 0)))), (2, .int (iI r0)), (0, .ref y)]) XX d_MO_distinct_52 rfl (by decide) rfl ?_
        refine g_iinc (lv' := [(2, .int (iI (r0 + 1))), (1, .int (iI (c0 + ((n - (f3 r0)) - 0)))), (0, .ref y)]) XX d_MO_distinct_53 1 rfl (by decide) rfl ?_
        refine g_goto (tgt := 4) XX d_MO_distinct_56 (by decide) ?_
        exact ih_4 _ (by omega) (c0 + ((n - (f3 r0)) - 0)) (r0 + 1) (by omega) (by rw [sm_s (by omega), ← h2]; first | (show _ = c0 + (n - og X n r0 - (if 0 < r0 then al X n X n (og X n (r0 - 1)) (og X n r0) else 0)); rw [if_neg (by omega), e1]; done) | (show _ = c0 + (n - og X n r0 - (if 0 < r0 then al X n X n (og X n (r0 - 1)) (og X n r0) else 0)); rw [if_pos (by omega), e0, e1]; done)) rfl
      · -- 25: no
        refine g_aload_n XX d_MO_distinct_28 rfl 2 rfl ?_
        refine g_aload_n XX d_MO_distinct_29 rfl 2 rfl ?_
        refine g_get (C := R_MO) (T := T_MO) (N := 10) XX (tmw win0_MO) 0 rfl rfl 4 (by decide) (tm kw_112) rfl rfl d_MO_distinct_30 ?_
        refine g_iload_n XX d_MO_distinct_33 rfl 0 rfl ?_
        refine g_iconst XX d_MO_distinct_34 ?_
        refine g_isub XX d_MO_distinct_35 ?_
        refine g_iald XX 2 0 rfl rfl ⟨by omega, by omega, by decide⟩ d_MO_distinct_36 ?_
        refine g_aload_n XX d_MO_distinct_37 rfl 2 rfl ?_
        refine g_get (C := R_MO) (T := T_MO) (N := 10) XX (tmw win0_MO) 0 rfl rfl 4 (by decide) (tm kw_112) rfl rfl d_MO_distinct_38 ?_
        refine g_iload_n XX d_MO_distinct_41 rfl 0 rfl ?_
        refine g_iald XX 2 0 rfl rfl ⟨by omega, by omega, by decide⟩ d_MO_distinct_42 ?_
        have e0 := hfO (r0 - 1) (by omega) (by omega)
        have g0 := og_rng (X := X) (n := n) (r := r0 - 1) (by omega) (by omega)
        refine g_calli (As := [.int (iI (f3 (r0 - 1))), .int (iI (f3 r0))]) (st := [.int (iI (n - (f3 r0))), .int (iI c0)]) (wr := [cR b3 cA 97 f3]) XX (c_M_alike l D cA y b1 b2 b3 b4 b5 b6 b7 f2 X t n m (f3 (r0 - 1)) (f3 r0) (by first | assumption | omega) (by first | assumption | omega) (by first | assumption | omega) (by first | assumption | omega)) (x_cw 2 XX.2.2.2.2.1 (gi kw_120) rfl rfl (tm kw_123) (tm kw_121) (tm kw_122) (tm kw_124) ⟨by decide +kernel, by decide +kernel, by decide +kernel⟩ ⟨by decide, by decide⟩) [0, 1] [2] rfl rfl (by decide) (by decide) (by decide) 0 5 rfl rfl rfl rfl (Nat.le_of_ble_eq_true rfl) d_MO_distinct_43 ⟨by decide, by decide⟩ (fun r_ w_ hq => ?_)
        obtain ⟨rfl, rfl⟩ := hq
        show xG P0 l E0 rm_M_distinct S0 M0 A0 B0 T0 C0 QQ 3 D vwCl AA 0 0 [cR b3 cA 97 f3, cO y 5 [.int (iI t), .ref b1, .int (iI n), .ref b2, .ref b3, .int (iI m), .ref b4, .ref b5, .ref b6, .ref b7], cR b2 cA 96 f2] 46 [(2, .int (iI r0)), (1, .int (iI c0)), (0, .ref y)] [.int (iI (al X n X n (f3 (r0 - 1)) (f3 r0))), .int (iI (n - (f3 r0))), .int (iI c0)]
        refine g_goto (tgt := 50) XX d_MO_distinct_46 (by decide) ?_
        refine g_isub XX d_MO_distinct_50 ?_
        refine g_iadd XX d_MO_distinct_51 ?_
        refine g_istore_n (lv' := [(1, .int (iI (c0 + ((n - (f3 r0)) - (al X n X n (f3 (r0 - 1)) (f3 r0)))))), (2, .int (iI r0)), (0, .ref y)]) XX d_MO_distinct_52 rfl (by decide) rfl ?_
        refine g_iinc (lv' := [(2, .int (iI (r0 + 1))), (1, .int (iI (c0 + ((n - (f3 r0)) - (al X n X n (f3 (r0 - 1)) (f3 r0)))))), (0, .ref y)]) XX d_MO_distinct_53 1 rfl (by decide) rfl ?_
        refine g_goto (tgt := 4) XX d_MO_distinct_56 (by decide) ?_
        refine g_ws (ws' := [cO y 5 [.int (iI t), .ref b1, .int (iI n), .ref b2, .ref b3, .int (iI m), .ref b4, .ref b5, .ref b6, .ref b7], cR b2 cA 96 f2, cR b3 cA 97 f3]) [1, 2, 0] (by decide) rfl ?_
        exact ih_4 _ (by omega) (c0 + ((n - (f3 r0)) - (al X n X n (f3 (r0 - 1)) (f3 r0)))) (r0 + 1) (by omega) (by rw [sm_s (by omega), ← h2]; first | (show _ = c0 + (n - og X n r0 - (if 0 < r0 then al X n X n (og X n (r0 - 1)) (og X n r0) else 0)); rw [if_neg (by omega), e1]; done) | (show _ = c0 + (n - og X n r0 - (if 0 < r0 then al X n X n (og X n (r0 - 1)) (og X n r0) else 0)); rw [if_pos (by omega), e0, e1]; done)) rfl
  exact L4 _ 0 0 (by omega) (rfl) rfl
abbrev rm_M_repeat : Room := { frames := 1, cells := 0, slots := 0, locals := 23 }
set_option maxHeartbeats 4000000 in
set_option maxRecDepth 100000 in
theorem c_M_repeat (l : Launch) (D : va_G) (cA : ClassId) (y b1 b2 b3 b4 b5 b6 b7 : Nat) (f2 f3 X : Int → Int) (t n m : Int) (hn : 0 ≤ n ∧ n ≤ 96) (hfX : ag f2 X n) (hbX : bt8 X n) (hfO : ag f3 (og X n) (n + 1)) : xM l y_MO_repeat w_MO_repeat rm_M_repeat D vwCl [(cA, .int)] [.ref y] [cO y 5 [.int (iI t), .ref b1, .int (iI n), .ref b2, .ref b3, .int (iI m), .ref b4, .ref b5, .ref b6, .ref b7], cR b2 cA 96 f2, cR b3 cA 97 f3] (fun r w => r = iI (rpt X n) ∧ w = [cO y 5 [.int (iI t), .ref b1, .int (iI n), .ref b2, .ref b3, .int (iI m), .ref b4, .ref b5, .ref b6, .ref b7], cR b2 cA 96 f2, cR b3 cA 97 f3]) 0 0 := by
  refine xM.ofI (by decide) rfl (Nat.le_of_ble_eq_true rfl) ?_
  intro P0 E0 S0 M0 A0 B0 T0 C0 AA QQ XX hnm ret
  refine g_iconst XX d_MO_repeat_0 ?_
  refine g_istore_n (lv' := [(1, .int (iI 0)), (0, .ref y)]) XX d_MO_repeat_1 rfl (by decide) rfl ?_
  refine g_iconst XX d_MO_repeat_2 ?_
  refine g_istore_n (lv' := [(2, .int (iI 0)), (1, .int (iI 0)), (0, .ref y)]) XX d_MO_repeat_3 rfl (by decide) rfl ?_
  refine g_iconst XX d_MO_repeat_4 ?_
  refine g_istore_n (lv' := [(3, .int (iI 0)), (2, .int (iI 0)), (1, .int (iI 0)), (0, .ref y)]) XX d_MO_repeat_5 rfl (by decide) rfl ?_
  have L6 : ∀ (k_6 : Nat) (b0 : Int) (l0 : Int) (r0 : Int), (0 ≤ r0 ∧ r0 ≤ n) → ((b0, l0) = rb (cm X n) (fun r => min (og X n r) (og X n (r + 1))) r0) → (n - r0).toNat = k_6 → xG P0 l E0 rm_M_repeat S0 M0 A0 B0 T0 C0 QQ 6 D vwCl AA 0 0 [cO y 5 [.int (iI t), .ref b1, .int (iI n), .ref b2, .ref b3, .int (iI m), .ref b4, .ref b5, .ref b6, .ref b7], cR b2 cA 96 f2, cR b3 cA 97 f3] 6 [(3, .int (iI r0)), (2, .int (iI l0)), (1, .int (iI b0)), (0, .ref y)] [] := by
    refine x_ind (fun k_6 ih_6 b0 l0 r0 h1 h2 hk_6 => ?_)
    have rr := rpt_rng hn h1.1 h1.2 h2
    refine g_iload_n XX d_MO_repeat_6 rfl 0 rfl ?_
    refine g_aload_n XX d_MO_repeat_7 rfl 3 rfl ?_
    refine g_get (C := R_MO) (T := T_MO) (N := 10) XX (tmw win0_MO) 0 rfl rfl 2 (by decide) (tm kw_119) rfl rfl d_MO_repeat_8 ?_
    refine g_icmp_ge (tgt := 100) XX d_MO_repeat_11 (by decide) ⟨by omega, by omega⟩ ⟨by omega, by omega⟩ (fun h11 => ?_) (fun h11 => ?_)
    · -- 11: yes
      have hb : rb (cm X n) (fun r => min (og X n r) (og X n (r + 1))) n = (b0, l0) := by rw [h2, show r0 = n by omega]
      refine g_iload_n XX d_MO_repeat_100 rfl 2 rfl ?_
      refine g_if_ne (tgt := 108) XX d_MO_repeat_101 (by decide) ⟨by omega, by omega⟩ (fun h101 => ?_) (fun h101 => ?_)
      · -- 101: yes
        refine g_sipush (v := 128) XX d_MO_repeat_108 (by decide) ?_
        refine g_iload_n XX d_MO_repeat_111 rfl 2 rfl ?_
        refine g_imul XX d_MO_repeat_112 ?_
        refine g_iload_n XX d_MO_repeat_113 rfl 1 rfl ?_
        refine g_iadd XX d_MO_repeat_114 ?_
        exact ret _ _ _ _ [cO y 5 [.int (iI t), .ref b1, .int (iI n), .ref b2, .ref b3, .int (iI m), .ref b4, .ref b5, .ref b6, .ref b7], cR b2 cA 96 f2, cR b3 cA 97 f3] [0, 1, 2] d_MO_repeat_115 (by decide) rfl (⟨by first | rw [rpt_0 hb h101] | rw [rpt_1 hb h101], rfl⟩)
      · -- 101: no
        refine g_iconst XX d_MO_repeat_104 ?_
        refine g_goto (tgt := 115) XX d_MO_repeat_105 (by decide) ?_
        exact ret _ _ _ _ [cO y 5 [.int (iI t), .ref b1, .int (iI n), .ref b2, .ref b3, .int (iI m), .ref b4, .ref b5, .ref b6, .ref b7], cR b2 cA 96 f2, cR b3 cA 97 f3] [0, 1, 2] d_MO_repeat_115 (by decide) rfl (⟨by first | rw [rpt_0 hb h101] | rw [rpt_1 hb h101], rfl⟩)
    · -- 11: no
      have e2 := hfO r0 (by omega) (by omega)
      have e3 := hfO (r0 + 1) (by omega) (by omega)
      have g1 := cm_rng (X := X) (n := n) (r := r0) (by omega) (by omega)
      have g2 := og_rng (X := X) (n := n) (r := r0) (by omega) (by omega)
      have g3 := og_rng (X := X) (n := n) (r := r0 + 1) (by omega) (by omega)
      have ec : al X n X n (f3 r0) (f3 (r0 + 1)) = cm X n r0 := by rw [e2, e3]; rfl
      refine g_aload_n XX d_MO_repeat_14 rfl 3 rfl ?_
      refine g_aload_n XX d_MO_repeat_15 rfl 3 rfl ?_
      refine g_get (C := R_MO) (T := T_MO) (N := 10) XX (tmw win0_MO) 0 rfl rfl 4 (by decide) (tm kw_112) rfl rfl d_MO_repeat_16 ?_
      refine g_iload_n XX d_MO_repeat_19 rfl 0 rfl ?_
      refine g_iald XX 2 0 rfl rfl ⟨by omega, by omega, by decide⟩ d_MO_repeat_20 ?_
      refine g_aload_n XX d_MO_repeat_21 rfl 3 rfl ?_
      refine g_get (C := R_MO) (T := T_MO) (N := 10) XX (tmw win0_MO) 0 rfl rfl 4 (by decide) (tm kw_112) rfl rfl d_MO_repeat_22 ?_
      refine g_iload_n XX d_MO_repeat_25 rfl 0 rfl ?_
      refine g_iconst XX d_MO_repeat_26 ?_
      refine g_iadd XX d_MO_repeat_27 ?_
      refine g_iald XX 2 0 rfl rfl ⟨by omega, by omega, by decide⟩ d_MO_repeat_28 ?_
      refine g_calli (As := [.int (iI (f3 r0)), .int (iI (f3 (r0 + 1)))]) (st := []) (wr := [cR b3 cA 97 f3]) XX (c_M_alike l D cA y b1 b2 b3 b4 b5 b6 b7 f2 X t n m (f3 r0) (f3 (r0 + 1)) (by first | assumption | omega) (by first | assumption | omega) (by first | assumption | omega) (by first | assumption | omega)) (x_cw 2 XX.2.2.2.2.1 (gi kw_120) rfl rfl (tm kw_123) (tm kw_121) (tm kw_122) (tm kw_124) ⟨by decide +kernel, by decide +kernel, by decide +kernel⟩ ⟨by decide, by decide⟩) [0, 1] [2] rfl rfl (by decide) (by decide) (by decide) 0 5 rfl rfl rfl rfl (Nat.le_of_ble_eq_true rfl) d_MO_repeat_29 ⟨by decide, by decide⟩ (fun r_ w_ hq => ?_)
      obtain ⟨rfl, rfl⟩ := hq
      show xG P0 l E0 rm_M_repeat S0 M0 A0 B0 T0 C0 QQ 6 D vwCl AA 0 0 [cR b3 cA 97 f3, cO y 5 [.int (iI t), .ref b1, .int (iI n), .ref b2, .ref b3, .int (iI m), .ref b4, .ref b5, .ref b6, .ref b7], cR b2 cA 96 f2] 32 [(3, .int (iI r0)), (2, .int (iI l0)), (1, .int (iI b0)), (0, .ref y)] [.int (iI (al X n X n (f3 r0) (f3 (r0 + 1))))]
      refine g_istore (lv' := [(4, .int (iI (al X n X n (f3 r0) (f3 (r0 + 1))))), (3, .int (iI r0)), (2, .int (iI l0)), (1, .int (iI b0)), (0, .ref y)]) XX d_MO_repeat_32 (by decide) rfl ?_
      refine g_aload_n XX d_MO_repeat_34 rfl 4 rfl ?_
      refine g_get (C := R_MO) (T := T_MO) (N := 10) XX (tmw win0_MO) 1 rfl rfl 4 (by decide) (tm kw_112) rfl rfl d_MO_repeat_35 ?_
      refine g_iload_n XX d_MO_repeat_38 rfl 1 rfl ?_
      refine g_iald XX 0 0 rfl rfl ⟨by omega, by omega, by decide⟩ d_MO_repeat_39 ?_
      refine g_aload_n XX d_MO_repeat_40 rfl 4 rfl ?_
      refine g_get (C := R_MO) (T := T_MO) (N := 10) XX (tmw win0_MO) 1 rfl rfl 4 (by decide) (tm kw_112) rfl rfl d_MO_repeat_41 ?_
      refine g_iload_n XX d_MO_repeat_44 rfl 1 rfl ?_
      refine g_iconst XX d_MO_repeat_45 ?_
      refine g_iadd XX d_MO_repeat_46 ?_
      refine g_iald XX 0 0 rfl rfl ⟨by omega, by omega, by decide⟩ d_MO_repeat_47 ?_
      refine g_icmp_ge (tgt := 60) XX d_MO_repeat_48 (by decide) ⟨by omega, by omega⟩ ⟨by omega, by omega⟩ (fun h48 => ?_) (fun h48 => ?_)
      · -- 48: yes
        refine g_aload_n XX d_MO_repeat_60 rfl 4 rfl ?_
        refine g_get (C := R_MO) (T := T_MO) (N := 10) XX (tmw win0_MO) 1 rfl rfl 4 (by decide) (tm kw_112) rfl rfl d_MO_repeat_61 ?_
        refine g_iload_n XX d_MO_repeat_64 rfl 1 rfl ?_
        refine g_iconst XX d_MO_repeat_65 ?_
        refine g_iadd XX d_MO_repeat_66 ?_
        refine g_iald XX 0 0 rfl rfl ⟨by omega, by omega, by decide⟩ d_MO_repeat_67 ?_
        refine g_istore (lv' := [(5, .int (iI (f3 (r0 + 1)))), (4, .int (iI (al X n X n (f3 r0) (f3 (r0 + 1))))), (3, .int (iI r0)), (2, .int (iI l0)), (1, .int (iI b0)), (0, .ref y)]) XX d_MO_repeat_68 (by decide) rfl ?_
        refine g_iload XX d_MO_repeat_70 1 rfl ?_
        refine g_iload_n XX d_MO_repeat_72 rfl 4 rfl ?_
        refine g_icmp_gt (tgt := 88) XX d_MO_repeat_73 (by decide) ⟨by omega, by omega⟩ ⟨by omega, by omega⟩ (fun h73 => ?_) (fun h73 => ?_)
        · -- 73: yes
          refine g_iload XX d_MO_repeat_88 1 rfl ?_
          refine g_istore_n (lv' := [(1, .int (iI (al X n X n (f3 r0) (f3 (r0 + 1))))), (5, .int (iI (f3 (r0 + 1)))), (4, .int (iI (al X n X n (f3 r0) (f3 (r0 + 1))))), (3, .int (iI r0)), (2, .int (iI l0)), (0, .ref y)]) XX d_MO_repeat_90 rfl (by decide) rfl ?_
          refine g_iload XX d_MO_repeat_91 1 rfl ?_
          refine g_istore_n (lv' := [(2, .int (iI (f3 (r0 + 1)))), (1, .int (iI (al X n X n (f3 r0) (f3 (r0 + 1))))), (5, .int (iI (f3 (r0 + 1)))), (4, .int (iI (al X n X n (f3 r0) (f3 (r0 + 1))))), (3, .int (iI r0)), (0, .ref y)]) XX d_MO_repeat_93 rfl (by decide) rfl ?_
          refine g_iinc (lv' := [(3, .int (iI (r0 + 1))), (2, .int (iI (f3 (r0 + 1)))), (1, .int (iI (al X n X n (f3 r0) (f3 (r0 + 1))))), (5, .int (iI (f3 (r0 + 1)))), (4, .int (iI (al X n X n (f3 r0) (f3 (r0 + 1))))), (0, .ref y)]) XX d_MO_repeat_94 4 rfl (by decide) rfl ?_
          refine g_goto (tgt := 6) XX d_MO_repeat_97 (by decide) ?_
          refine g_lv (lv' := [(3, .int (iI (r0 + 1))), (2, .int (iI (f3 (r0 + 1)))), (1, .int (iI (al X n X n (f3 r0) (f3 (r0 + 1))))), (0, .ref y)]) [0, 1, 2, 5] rfl ?_
          refine g_ws (ws' := [cO y 5 [.int (iI t), .ref b1, .int (iI n), .ref b2, .ref b3, .int (iI m), .ref b4, .ref b5, .ref b6, .ref b7], cR b2 cA 96 f2, cR b3 cA 97 f3]) [1, 2, 0] (by decide) rfl ?_
          exact ih_6 _ (by omega) (al X n X n (f3 r0) (f3 (r0 + 1))) (f3 (r0 + 1)) (r0 + 1) (by omega) (by first | exact rb_put (by omega) h2 ec (show f3 (r0 + 1) = min (og X n r0) (og X n (r0 + 1)) by omega) (by omega) | exact rb_put (by omega) h2 ec (show f3 r0 = min (og X n r0) (og X n (r0 + 1)) by omega) (by omega) | exact rb_keep (by omega) h2 ec (show f3 (r0 + 1) = min (og X n r0) (og X n (r0 + 1)) by omega) (by omega) | exact rb_keep (by omega) h2 ec (show f3 r0 = min (og X n r0) (og X n (r0 + 1)) by omega) (by omega)) rfl
        · -- 73: no
          refine g_iload XX d_MO_repeat_76 1 rfl ?_
          refine g_iload_n XX d_MO_repeat_78 rfl 4 rfl ?_
          refine g_icmp_ne (tgt := 94) XX d_MO_repeat_79 (by decide) ⟨by omega, by omega⟩ ⟨by omega, by omega⟩ (fun h79 => ?_) (fun h79 => ?_)
          · -- 79: yes
            refine g_iinc (lv' := [(3, .int (iI (r0 + 1))), (5, .int (iI (f3 (r0 + 1)))), (4, .int (iI (al X n X n (f3 r0) (f3 (r0 + 1))))), (2, .int (iI l0)), (1, .int (iI b0)), (0, .ref y)]) XX d_MO_repeat_94 2 rfl (by decide) rfl ?_
            refine g_goto (tgt := 6) XX d_MO_repeat_97 (by decide) ?_
            refine g_lv (lv' := [(3, .int (iI (r0 + 1))), (2, .int (iI l0)), (1, .int (iI b0)), (0, .ref y)]) [0, 3, 4, 5] rfl ?_
            refine g_ws (ws' := [cO y 5 [.int (iI t), .ref b1, .int (iI n), .ref b2, .ref b3, .int (iI m), .ref b4, .ref b5, .ref b6, .ref b7], cR b2 cA 96 f2, cR b3 cA 97 f3]) [1, 2, 0] (by decide) rfl ?_
            exact ih_6 _ (by omega) b0 l0 (r0 + 1) (by omega) (by first | exact rb_put (by omega) h2 ec (show f3 (r0 + 1) = min (og X n r0) (og X n (r0 + 1)) by omega) (by omega) | exact rb_put (by omega) h2 ec (show f3 r0 = min (og X n r0) (og X n (r0 + 1)) by omega) (by omega) | exact rb_keep (by omega) h2 ec (show f3 (r0 + 1) = min (og X n r0) (og X n (r0 + 1)) by omega) (by omega) | exact rb_keep (by omega) h2 ec (show f3 r0 = min (og X n r0) (og X n (r0 + 1)) by omega) (by omega)) rfl
          · -- 79: no
            refine g_iload XX d_MO_repeat_82 0 rfl ?_
            refine g_iload_n XX d_MO_repeat_84 rfl 3 rfl ?_
            refine g_icmp_ge (tgt := 94) XX d_MO_repeat_85 (by decide) ⟨by omega, by omega⟩ ⟨by omega, by omega⟩ (fun h85 => ?_) (fun h85 => ?_)
            · -- 85: yes
              refine g_iinc (lv' := [(3, .int (iI (r0 + 1))), (5, .int (iI (f3 (r0 + 1)))), (4, .int (iI (al X n X n (f3 r0) (f3 (r0 + 1))))), (2, .int (iI l0)), (1, .int (iI b0)), (0, .ref y)]) XX d_MO_repeat_94 2 rfl (by decide) rfl ?_
              refine g_goto (tgt := 6) XX d_MO_repeat_97 (by decide) ?_
              refine g_lv (lv' := [(3, .int (iI (r0 + 1))), (2, .int (iI l0)), (1, .int (iI b0)), (0, .ref y)]) [0, 3, 4, 5] rfl ?_
              refine g_ws (ws' := [cO y 5 [.int (iI t), .ref b1, .int (iI n), .ref b2, .ref b3, .int (iI m), .ref b4, .ref b5, .ref b6, .ref b7], cR b2 cA 96 f2, cR b3 cA 97 f3]) [1, 2, 0] (by decide) rfl ?_
              exact ih_6 _ (by omega) b0 l0 (r0 + 1) (by omega) (by first | exact rb_put (by omega) h2 ec (show f3 (r0 + 1) = min (og X n r0) (og X n (r0 + 1)) by omega) (by omega) | exact rb_put (by omega) h2 ec (show f3 r0 = min (og X n r0) (og X n (r0 + 1)) by omega) (by omega) | exact rb_keep (by omega) h2 ec (show f3 (r0 + 1) = min (og X n r0) (og X n (r0 + 1)) by omega) (by omega) | exact rb_keep (by omega) h2 ec (show f3 r0 = min (og X n r0) (og X n (r0 + 1)) by omega) (by omega)) rfl
            · -- 85: no
              refine g_iload XX d_MO_repeat_88 1 rfl ?_
              refine g_istore_n (lv' := [(1, .int (iI (al X n X n (f3 r0) (f3 (r0 + 1))))), (5, .int (iI (f3 (r0 + 1)))), (4, .int (iI (al X n X n (f3 r0) (f3 (r0 + 1))))), (3, .int (iI r0)), (2, .int (iI l0)), (0, .ref y)]) XX d_MO_repeat_90 rfl (by decide) rfl ?_
              refine g_iload XX d_MO_repeat_91 1 rfl ?_
              refine g_istore_n (lv' := [(2, .int (iI (f3 (r0 + 1)))), (1, .int (iI (al X n X n (f3 r0) (f3 (r0 + 1))))), (5, .int (iI (f3 (r0 + 1)))), (4, .int (iI (al X n X n (f3 r0) (f3 (r0 + 1))))), (3, .int (iI r0)), (0, .ref y)]) XX d_MO_repeat_93 rfl (by decide) rfl ?_
              refine g_iinc (lv' := [(3, .int (iI (r0 + 1))), (2, .int (iI (f3 (r0 + 1)))), (1, .int (iI (al X n X n (f3 r0) (f3 (r0 + 1))))), (5, .int (iI (f3 (r0 + 1)))), (4, .int (iI (al X n X n (f3 r0) (f3 (r0 + 1))))), (0, .ref y)]) XX d_MO_repeat_94 4 rfl (by decide) rfl ?_
              refine g_goto (tgt := 6) XX d_MO_repeat_97 (by decide) ?_
              refine g_lv (lv' := [(3, .int (iI (r0 + 1))), (2, .int (iI (f3 (r0 + 1)))), (1, .int (iI (al X n X n (f3 r0) (f3 (r0 + 1))))), (0, .ref y)]) [0, 1, 2, 5] rfl ?_
              refine g_ws (ws' := [cO y 5 [.int (iI t), .ref b1, .int (iI n), .ref b2, .ref b3, .int (iI m), .ref b4, .ref b5, .ref b6, .ref b7], cR b2 cA 96 f2, cR b3 cA 97 f3]) [1, 2, 0] (by decide) rfl ?_
              exact ih_6 _ (by omega) (al X n X n (f3 r0) (f3 (r0 + 1))) (f3 (r0 + 1)) (r0 + 1) (by omega) (by first | exact rb_put (by omega) h2 ec (show f3 (r0 + 1) = min (og X n r0) (og X n (r0 + 1)) by omega) (by omega) | exact rb_put (by omega) h2 ec (show f3 r0 = min (og X n r0) (og X n (r0 + 1)) by omega) (by omega) | exact rb_keep (by omega) h2 ec (show f3 (r0 + 1) = min (og X n r0) (og X n (r0 + 1)) by omega) (by omega) | exact rb_keep (by omega) h2 ec (show f3 r0 = min (og X n r0) (og X n (r0 + 1)) by omega) (by omega)) rfl
      · -- 48: no
        refine g_aload_n XX d_MO_repeat_51 rfl 4 rfl ?_
        refine g_get (C := R_MO) (T := T_MO) (N := 10) XX (tmw win0_MO) 1 rfl rfl 4 (by decide) (tm kw_112) rfl rfl d_MO_repeat_52 ?_
        refine g_iload_n XX d_MO_repeat_55 rfl 1 rfl ?_
        refine g_iald XX 0 0 rfl rfl ⟨by omega, by omega, by decide⟩ d_MO_repeat_56 ?_
        refine g_goto (tgt := 68) XX d_MO_repeat_57 (by decide) ?_
        refine g_istore (lv' := [(5, .int (iI (f3 r0))), (4, .int (iI (al X n X n (f3 r0) (f3 (r0 + 1))))), (3, .int (iI r0)), (2, .int (iI l0)), (1, .int (iI b0)), (0, .ref y)]) XX d_MO_repeat_68 (by decide) rfl ?_
        refine g_iload XX d_MO_repeat_70 1 rfl ?_
        refine g_iload_n XX d_MO_repeat_72 rfl 4 rfl ?_
        refine g_icmp_gt (tgt := 88) XX d_MO_repeat_73 (by decide) ⟨by omega, by omega⟩ ⟨by omega, by omega⟩ (fun h73 => ?_) (fun h73 => ?_)
        · -- 73: yes
          refine g_iload XX d_MO_repeat_88 1 rfl ?_
          refine g_istore_n (lv' := [(1, .int (iI (al X n X n (f3 r0) (f3 (r0 + 1))))), (5, .int (iI (f3 r0))), (4, .int (iI (al X n X n (f3 r0) (f3 (r0 + 1))))), (3, .int (iI r0)), (2, .int (iI l0)), (0, .ref y)]) XX d_MO_repeat_90 rfl (by decide) rfl ?_
          refine g_iload XX d_MO_repeat_91 1 rfl ?_
          refine g_istore_n (lv' := [(2, .int (iI (f3 r0))), (1, .int (iI (al X n X n (f3 r0) (f3 (r0 + 1))))), (5, .int (iI (f3 r0))), (4, .int (iI (al X n X n (f3 r0) (f3 (r0 + 1))))), (3, .int (iI r0)), (0, .ref y)]) XX d_MO_repeat_93 rfl (by decide) rfl ?_
          refine g_iinc (lv' := [(3, .int (iI (r0 + 1))), (2, .int (iI (f3 r0))), (1, .int (iI (al X n X n (f3 r0) (f3 (r0 + 1))))), (5, .int (iI (f3 r0))), (4, .int (iI (al X n X n (f3 r0) (f3 (r0 + 1))))), (0, .ref y)]) XX d_MO_repeat_94 4 rfl (by decide) rfl ?_
          refine g_goto (tgt := 6) XX d_MO_repeat_97 (by decide) ?_
          refine g_lv (lv' := [(3, .int (iI (r0 + 1))), (2, .int (iI (f3 r0))), (1, .int (iI (al X n X n (f3 r0) (f3 (r0 + 1))))), (0, .ref y)]) [0, 1, 2, 5] rfl ?_
          refine g_ws (ws' := [cO y 5 [.int (iI t), .ref b1, .int (iI n), .ref b2, .ref b3, .int (iI m), .ref b4, .ref b5, .ref b6, .ref b7], cR b2 cA 96 f2, cR b3 cA 97 f3]) [1, 2, 0] (by decide) rfl ?_
          exact ih_6 _ (by omega) (al X n X n (f3 r0) (f3 (r0 + 1))) (f3 r0) (r0 + 1) (by omega) (by first | exact rb_put (by omega) h2 ec (show f3 (r0 + 1) = min (og X n r0) (og X n (r0 + 1)) by omega) (by omega) | exact rb_put (by omega) h2 ec (show f3 r0 = min (og X n r0) (og X n (r0 + 1)) by omega) (by omega) | exact rb_keep (by omega) h2 ec (show f3 (r0 + 1) = min (og X n r0) (og X n (r0 + 1)) by omega) (by omega) | exact rb_keep (by omega) h2 ec (show f3 r0 = min (og X n r0) (og X n (r0 + 1)) by omega) (by omega)) rfl
        · -- 73: no
          refine g_iload XX d_MO_repeat_76 1 rfl ?_
          refine g_iload_n XX d_MO_repeat_78 rfl 4 rfl ?_
          refine g_icmp_ne (tgt := 94) XX d_MO_repeat_79 (by decide) ⟨by omega, by omega⟩ ⟨by omega, by omega⟩ (fun h79 => ?_) (fun h79 => ?_)
          · -- 79: yes
            refine g_iinc (lv' := [(3, .int (iI (r0 + 1))), (5, .int (iI (f3 r0))), (4, .int (iI (al X n X n (f3 r0) (f3 (r0 + 1))))), (2, .int (iI l0)), (1, .int (iI b0)), (0, .ref y)]) XX d_MO_repeat_94 2 rfl (by decide) rfl ?_
            refine g_goto (tgt := 6) XX d_MO_repeat_97 (by decide) ?_
            refine g_lv (lv' := [(3, .int (iI (r0 + 1))), (2, .int (iI l0)), (1, .int (iI b0)), (0, .ref y)]) [0, 3, 4, 5] rfl ?_
            refine g_ws (ws' := [cO y 5 [.int (iI t), .ref b1, .int (iI n), .ref b2, .ref b3, .int (iI m), .ref b4, .ref b5, .ref b6, .ref b7], cR b2 cA 96 f2, cR b3 cA 97 f3]) [1, 2, 0] (by decide) rfl ?_
            exact ih_6 _ (by omega) b0 l0 (r0 + 1) (by omega) (by first | exact rb_put (by omega) h2 ec (show f3 (r0 + 1) = min (og X n r0) (og X n (r0 + 1)) by omega) (by omega) | exact rb_put (by omega) h2 ec (show f3 r0 = min (og X n r0) (og X n (r0 + 1)) by omega) (by omega) | exact rb_keep (by omega) h2 ec (show f3 (r0 + 1) = min (og X n r0) (og X n (r0 + 1)) by omega) (by omega) | exact rb_keep (by omega) h2 ec (show f3 r0 = min (og X n r0) (og X n (r0 + 1)) by omega) (by omega)) rfl
          · -- 79: no
            refine g_iload XX d_MO_repeat_82 0 rfl ?_
            refine g_iload_n XX d_MO_repeat_84 rfl 3 rfl ?_
            refine g_icmp_ge (tgt := 94) XX d_MO_repeat_85 (by decide) ⟨by omega, by omega⟩ ⟨by omega, by omega⟩ (fun h85 => ?_) (fun h85 => ?_)
            · -- 85: yes
              refine g_iinc (lv' := [(3, .int (iI (r0 + 1))), (5, .int (iI (f3 r0))), (4, .int (iI (al X n X n (f3 r0) (f3 (r0 + 1))))), (2, .int (iI l0)), (1, .int (iI b0)), (0, .ref y)]) XX d_MO_repeat_94 2 rfl (by decide) rfl ?_
              refine g_goto (tgt := 6) XX d_MO_repeat_97 (by decide) ?_
              refine g_lv (lv' := [(3, .int (iI (r0 + 1))), (2, .int (iI l0)), (1, .int (iI b0)), (0, .ref y)]) [0, 3, 4, 5] rfl ?_
              refine g_ws (ws' := [cO y 5 [.int (iI t), .ref b1, .int (iI n), .ref b2, .ref b3, .int (iI m), .ref b4, .ref b5, .ref b6, .ref b7], cR b2 cA 96 f2, cR b3 cA 97 f3]) [1, 2, 0] (by decide) rfl ?_
              exact ih_6 _ (by omega) b0 l0 (r0 + 1) (by omega) (by first | exact rb_put (by omega) h2 ec (show f3 (r0 + 1) = min (og X n r0) (og X n (r0 + 1)) by omega) (by omega) | exact rb_put (by omega) h2 ec (show f3 r0 = min (og X n r0) (og X n (r0 + 1)) by omega) (by omega) | exact rb_keep (by omega) h2 ec (show f3 (r0 + 1) = min (og X n r0) (og X n (r0 + 1)) by omega) (by omega) | exact rb_keep (by omega) h2 ec (show f3 r0 = min (og X n r0) (og X n (r0 + 1)) by omega) (by omega)) rfl
            · -- 85: no
              refine g_iload XX d_MO_repeat_88 1 rfl ?_
              refine g_istore_n (lv' := [(1, .int (iI (al X n X n (f3 r0) (f3 (r0 + 1))))), (5, .int (iI (f3 r0))), (4, .int (iI (al X n X n (f3 r0) (f3 (r0 + 1))))), (3, .int (iI r0)), (2, .int (iI l0)), (0, .ref y)]) XX d_MO_repeat_90 rfl (by decide) rfl ?_
              refine g_iload XX d_MO_repeat_91 1 rfl ?_
              refine g_istore_n (lv' := [(2, .int (iI (f3 r0))), (1, .int (iI (al X n X n (f3 r0) (f3 (r0 + 1))))), (5, .int (iI (f3 r0))), (4, .int (iI (al X n X n (f3 r0) (f3 (r0 + 1))))), (3, .int (iI r0)), (0, .ref y)]) XX d_MO_repeat_93 rfl (by decide) rfl ?_
              refine g_iinc (lv' := [(3, .int (iI (r0 + 1))), (2, .int (iI (f3 r0))), (1, .int (iI (al X n X n (f3 r0) (f3 (r0 + 1))))), (5, .int (iI (f3 r0))), (4, .int (iI (al X n X n (f3 r0) (f3 (r0 + 1))))), (0, .ref y)]) XX d_MO_repeat_94 4 rfl (by decide) rfl ?_
              refine g_goto (tgt := 6) XX d_MO_repeat_97 (by decide) ?_
              refine g_lv (lv' := [(3, .int (iI (r0 + 1))), (2, .int (iI (f3 r0))), (1, .int (iI (al X n X n (f3 r0) (f3 (r0 + 1))))), (0, .ref y)]) [0, 1, 2, 5] rfl ?_
              refine g_ws (ws' := [cO y 5 [.int (iI t), .ref b1, .int (iI n), .ref b2, .ref b3, .int (iI m), .ref b4, .ref b5, .ref b6, .ref b7], cR b2 cA 96 f2, cR b3 cA 97 f3]) [1, 2, 0] (by decide) rfl ?_
              exact ih_6 _ (by omega) (al X n X n (f3 r0) (f3 (r0 + 1))) (f3 r0) (r0 + 1) (by omega) (by first | exact rb_put (by omega) h2 ec (show f3 (r0 + 1) = min (og X n r0) (og X n (r0 + 1)) by omega) (by omega) | exact rb_put (by omega) h2 ec (show f3 r0 = min (og X n r0) (og X n (r0 + 1)) by omega) (by omega) | exact rb_keep (by omega) h2 ec (show f3 (r0 + 1) = min (og X n r0) (og X n (r0 + 1)) by omega) (by omega) | exact rb_keep (by omega) h2 ec (show f3 r0 = min (og X n r0) (og X n (r0 + 1)) by omega) (by omega)) rfl
  exact L6 _ 0 0 0 (by omega) (rfl) rfl
abbrev rm_M_fits : Room := { frames := 0, cells := 0, slots := 0, locals := 0 }
set_option maxHeartbeats 4000000 in
set_option maxRecDepth 100000 in
theorem c_M_fits (l : Launch) (D : va_G) (cA : ClassId) (y b1 b2 b3 b4 b5 b6 b7 : Nat) (f2 X f4 Pt : Int → Int) (t n m i j : Int) (hn : 0 ≤ n ∧ n ≤ 96) (hm : 0 ≤ m ∧ m ≤ 96) (hfX : ag f2 X n) (hbX : bt8 X n) (hfP : ag f4 Pt m) (hbP : bt8 Pt m) (hij : 0 ≤ i ∧ i ≤ n ∧ 0 ≤ j ∧ j ≤ m) : xM l y_MO_fits w_MO_fits rm_M_fits D vwCl [(cA, .int)] [.ref y, .int (iI i), .int (iI j)] [cO y 5 [.int (iI t), .ref b1, .int (iI n), .ref b2, .ref b3, .int (iI m), .ref b4, .ref b5, .ref b6, .ref b7], cR b2 cA 96 f2, cR b4 cA 96 f4] (fun r w => r = iI (al Pt m X n j i) ∧ w = [cO y 5 [.int (iI t), .ref b1, .int (iI n), .ref b2, .ref b3, .int (iI m), .ref b4, .ref b5, .ref b6, .ref b7], cR b2 cA 96 f2, cR b4 cA 96 f4]) 0 0 := by
  refine xM.ofI (by decide) rfl (Nat.le_of_ble_eq_true rfl) ?_
  intro P0 E0 S0 M0 A0 B0 T0 C0 AA QQ XX hnm ret
  refine g_iconst XX d_MO_fits_0 ?_
  refine g_istore_n (lv' := [(3, .int (iI 0)), (0, .ref y), (1, .int (iI i)), (2, .int (iI j))]) XX d_MO_fits_1 rfl (by decide) rfl ?_
  have L2 : ∀ (k_2 : Nat) (cc : Int), (0 ≤ cc ∧ i + cc ≤ n ∧ j + cc ≤ m) → (∀ j0, 0 ≤ j0 → j0 < cc → Pt (j + j0) = X (i + j0)) → (n - i - cc).toNat = k_2 → xG P0 l E0 rm_M_fits S0 M0 A0 B0 T0 C0 QQ 4 D vwCl AA 0 0 [cO y 5 [.int (iI t), .ref b1, .int (iI n), .ref b2, .ref b3, .int (iI m), .ref b4, .ref b5, .ref b6, .ref b7], cR b2 cA 96 f2, cR b4 cA 96 f4] 2 [(3, .int (iI cc)), (0, .ref y), (1, .int (iI i)), (2, .int (iI j))] [] := by
    refine x_ind (fun k_2 ih_2 cc hc he hk_2 => ?_)
    refine g_iload_n XX d_MO_fits_2 rfl 2 rfl ?_
    refine g_iload_n XX d_MO_fits_3 rfl 0 rfl ?_
    refine g_iadd XX d_MO_fits_4 ?_
    refine g_aload_n XX d_MO_fits_5 rfl 1 rfl ?_
    refine g_get (C := R_MO) (T := T_MO) (N := 10) XX (tmw win0_MO) 0 rfl rfl 2 (by decide) (tm kw_119) rfl rfl d_MO_fits_6 ?_
    refine g_icmp_ge (tgt := 47) XX d_MO_fits_9 (by decide) ⟨by omega, by omega⟩ ⟨by omega, by omega⟩ (fun h9 => ?_) (fun h9 => ?_)
    · -- 9: yes
      refine g_iload_n XX d_MO_fits_47 rfl 0 rfl ?_
      exact ret _ _ _ _ [cO y 5 [.int (iI t), .ref b1, .int (iI n), .ref b2, .ref b3, .int (iI m), .ref b4, .ref b5, .ref b6, .ref b7], cR b2 cA 96 f2, cR b4 cA 96 f4] [0, 1, 2] d_MO_fits_48 (by decide) rfl (⟨congrArg iI (al_eq (show isAl Pt m X n j i cc from ⟨by omega, by omega, by omega, he, by omega⟩)).symm, rfl⟩)
    · -- 9: no
      refine g_iload_n XX d_MO_fits_12 rfl 3 rfl ?_
      refine g_iload_n XX d_MO_fits_13 rfl 0 rfl ?_
      refine g_iadd XX d_MO_fits_14 ?_
      refine g_aload_n XX d_MO_fits_15 rfl 1 rfl ?_
      refine g_get (C := R_MO) (T := T_MO) (N := 10) XX (tmw win0_MO) 0 rfl rfl 5 (by decide) (tm kw_141) rfl rfl d_MO_fits_16 ?_
      refine g_icmp_ge (tgt := 47) XX d_MO_fits_19 (by decide) ⟨by omega, by omega⟩ ⟨by omega, by omega⟩ (fun h19 => ?_) (fun h19 => ?_)
      · -- 19: yes
        refine g_iload_n XX d_MO_fits_47 rfl 0 rfl ?_
        exact ret _ _ _ _ [cO y 5 [.int (iI t), .ref b1, .int (iI n), .ref b2, .ref b3, .int (iI m), .ref b4, .ref b5, .ref b6, .ref b7], cR b2 cA 96 f2, cR b4 cA 96 f4] [0, 1, 2] d_MO_fits_48 (by decide) rfl (⟨congrArg iI (al_eq (show isAl Pt m X n j i cc from ⟨by omega, by omega, by omega, he, by omega⟩)).symm, rfl⟩)
      · -- 19: no
        refine g_aload_n XX d_MO_fits_22 rfl 1 rfl ?_
        refine g_get (C := R_MO) (T := T_MO) (N := 10) XX (tmw win0_MO) 0 rfl rfl 3 (by decide) (tm kw_111) rfl rfl d_MO_fits_23 ?_
        refine g_iload_n XX d_MO_fits_26 rfl 2 rfl ?_
        refine g_iload_n XX d_MO_fits_27 rfl 0 rfl ?_
        refine g_iadd XX d_MO_fits_28 ?_
        refine g_iald XX 1 0 rfl rfl ⟨by omega, by omega, by decide⟩ d_MO_fits_29 ?_
        refine g_aload_n XX d_MO_fits_30 rfl 1 rfl ?_
        refine g_get (C := R_MO) (T := T_MO) (N := 10) XX (tmw win0_MO) 0 rfl rfl 6 (by decide) (tm kw_113) rfl rfl d_MO_fits_31 ?_
        refine g_iload_n XX d_MO_fits_34 rfl 3 rfl ?_
        refine g_iload_n XX d_MO_fits_35 rfl 0 rfl ?_
        refine g_iadd XX d_MO_fits_36 ?_
        refine g_iald XX 2 0 rfl rfl ⟨by omega, by omega, by decide⟩ d_MO_fits_37 ?_
        have e1 := hfX (i + cc) (by omega) (by omega)
        have e2 := hfP (j + cc) (by omega) (by omega)
        have bb1 := hbX (i + cc) (by omega) (by omega)
        have bb2 := hbP (j + cc) (by omega) (by omega)
        refine g_icmp_ne (tgt := 47) XX d_MO_fits_38 (by decide) ⟨by omega, by omega⟩ ⟨by omega, by omega⟩ (fun h38 => ?_) (fun h38 => ?_)
        · -- 38: yes
          refine g_iload_n XX d_MO_fits_47 rfl 0 rfl ?_
          exact ret _ _ _ _ [cO y 5 [.int (iI t), .ref b1, .int (iI n), .ref b2, .ref b3, .int (iI m), .ref b4, .ref b5, .ref b6, .ref b7], cR b2 cA 96 f2, cR b4 cA 96 f4] [0, 1, 2] d_MO_fits_48 (by decide) rfl (⟨congrArg iI (al_eq (show isAl Pt m X n j i cc from ⟨by omega, by omega, by omega, he, by omega⟩)).symm, rfl⟩)
        · -- 38: no
          refine g_iinc (lv' := [(3, .int (iI (cc + 1))), (0, .ref y), (1, .int (iI i)), (2, .int (iI j))]) XX d_MO_fits_41 0 rfl (by decide) rfl ?_
          refine g_goto (tgt := 2) XX d_MO_fits_44 (by decide) ?_
          exact ih_2 _ (by omega) (cc + 1) (by omega) (all_s he (by show Pt (j + cc) = X (i + cc); omega)) rfl
  exact L2 _ 0 (by omega) (fun j0 a b => by omega) rfl
abbrev rm_M_hits : Room := { frames := 1, cells := 0, slots := 0, locals := 23 }
set_option maxHeartbeats 4000000 in
set_option maxRecDepth 100000 in
theorem c_M_hits (l : Launch) (D : va_G) (cA : ClassId) (y b1 b2 b3 b4 b5 b6 b7 : Nat) (f2 X f4 Pt : Int → Int) (t n m : Int) (hn : 0 ≤ n ∧ n ≤ 96) (hm : 0 ≤ m ∧ m ≤ 96) (hfX : ag f2 X n) (hbX : bt8 X n) (hfP : ag f4 Pt m) (hbP : bt8 Pt m) : xM l y_MO_hits w_MO_hits rm_M_hits D vwCl [(cA, .int)] [.ref y] [cO y 5 [.int (iI t), .ref b1, .int (iI n), .ref b2, .ref b3, .int (iI m), .ref b4, .ref b5, .ref b6, .ref b7], cR b2 cA 96 f2, cR b4 cA 96 f4] (fun r w => r = iI (cnt (htb Pt m X n) (n + 1)) ∧ w = [cO y 5 [.int (iI t), .ref b1, .int (iI n), .ref b2, .ref b3, .int (iI m), .ref b4, .ref b5, .ref b6, .ref b7], cR b2 cA 96 f2, cR b4 cA 96 f4]) 0 0 := by
  refine xM.ofI (by decide) rfl (Nat.le_of_ble_eq_true rfl) ?_
  intro P0 E0 S0 M0 A0 B0 T0 C0 AA QQ XX hnm ret
  refine g_iconst XX d_MO_hits_0 ?_
  refine g_istore_n (lv' := [(1, .int (iI 0)), (0, .ref y)]) XX d_MO_hits_1 rfl (by decide) rfl ?_
  refine g_iconst XX d_MO_hits_2 ?_
  refine g_istore_n (lv' := [(2, .int (iI 0)), (1, .int (iI 0)), (0, .ref y)]) XX d_MO_hits_3 rfl (by decide) rfl ?_
  have L4 : ∀ (k_4 : Nat) (c0 : Int) (p0 : Int), (0 ≤ p0 ∧ p0 ≤ n + 1) → (c0 = cnt (htb Pt m X n) p0) → (n + 1 - p0).toNat = k_4 → xG P0 l E0 rm_M_hits S0 M0 A0 B0 T0 C0 QQ 3 D vwCl AA 0 0 [cO y 5 [.int (iI t), .ref b1, .int (iI n), .ref b2, .ref b3, .int (iI m), .ref b4, .ref b5, .ref b6, .ref b7], cR b2 cA 96 f2, cR b4 cA 96 f4] 4 [(2, .int (iI p0)), (1, .int (iI c0)), (0, .ref y)] [] := by
    refine x_ind (fun k_4 ih_4 c0 p0 h1 h2 hk_4 => ?_)
    refine g_iload_n XX d_MO_hits_4 rfl 0 rfl ?_
    refine g_aload_n XX d_MO_hits_5 rfl 2 rfl ?_
    refine g_get (C := R_MO) (T := T_MO) (N := 10) XX (tmw win0_MO) 0 rfl rfl 2 (by decide) (tm kw_119) rfl rfl d_MO_hits_6 ?_
    refine g_icmp_gt (tgt := 39) XX d_MO_hits_9 (by decide) ⟨by omega, by omega⟩ ⟨by omega, by omega⟩ (fun h9 => ?_) (fun h9 => ?_)
    · -- 9: yes
      refine g_iload_n XX d_MO_hits_39 rfl 1 rfl ?_
      exact ret _ _ _ _ [cO y 5 [.int (iI t), .ref b1, .int (iI n), .ref b2, .ref b3, .int (iI m), .ref b4, .ref b5, .ref b6, .ref b7], cR b2 cA 96 f2, cR b4 cA 96 f4] [0, 1, 2] d_MO_hits_40 (by decide) rfl (⟨by rw [h2, show p0 = n + 1 by omega], rfl⟩)
    · -- 9: no
      refine g_iload_n XX d_MO_hits_12 rfl 1 rfl ?_
      refine g_aload_n XX d_MO_hits_13 rfl 2 rfl ?_
      refine g_iload_n XX d_MO_hits_14 rfl 0 rfl ?_
      refine g_iconst XX d_MO_hits_15 ?_
      refine g_calli (As := [.int (iI p0), .int (iI 0)]) (st := [.int (iI c0)]) (wr := []) XX (c_M_fits l D cA y b1 b2 b3 b4 b5 b6 b7 f2 X f4 Pt t n m p0 0 (by first | assumption | omega) (by first | assumption | omega) (by first | assumption | omega) (by first | assumption | omega) (by first | assumption | omega) (by first | assumption | omega) (by first | assumption | omega)) (x_cw 2 XX.2.2.2.2.1 (gi kw_142) rfl rfl (tm kw_123) (tm kw_143) (tm kw_144) (tm kw_145) ⟨by decide +kernel, by decide +kernel, by decide +kernel⟩ ⟨by decide, by decide⟩) [0, 1, 2] [] rfl rfl (by decide) (by decide) (by decide) 0 5 rfl rfl rfl rfl (Nat.le_of_ble_eq_true rfl) d_MO_hits_16 ⟨by decide, by decide⟩ (fun r_ w_ hq => ?_)
      obtain ⟨rfl, rfl⟩ := hq
      show xG P0 l E0 rm_M_hits S0 M0 A0 B0 T0 C0 QQ 3 D vwCl AA 0 0 [cO y 5 [.int (iI t), .ref b1, .int (iI n), .ref b2, .ref b3, .int (iI m), .ref b4, .ref b5, .ref b6, .ref b7], cR b2 cA 96 f2, cR b4 cA 96 f4] 19 [(2, .int (iI p0)), (1, .int (iI c0)), (0, .ref y)] [.int (iI (al Pt m X n 0 p0)), .int (iI c0)]
      refine g_aload_n XX d_MO_hits_19 rfl 2 rfl ?_
      refine g_get (C := R_MO) (T := T_MO) (N := 10) XX (tmw win0_MO) 0 rfl rfl 5 (by decide) (tm kw_141) rfl rfl d_MO_hits_20 ?_
      have g := al_rng (f := Pt) (n := m) (g := X) (m := n) (p := 0) (q := p0) (by omega) (by omega)
      refine g_icmp_ne (tgt := 30) XX d_MO_hits_23 (by decide) ⟨by omega, by omega⟩ ⟨by omega, by omega⟩ (fun h23 => ?_) (fun h23 => ?_)
      · -- 23: yes
        have hz : htb Pt m X n p0 = false := by simp only [htb, decide_eq_false_iff_not]; omega
        refine g_iconst XX d_MO_hits_30 ?_
        refine g_iadd XX d_MO_hits_31 ?_
        refine g_istore_n (lv' := [(1, .int (iI (c0 + 0))), (2, .int (iI p0)), (0, .ref y)]) XX d_MO_hits_32 rfl (by decide) rfl ?_
        refine g_iinc (lv' := [(2, .int (iI (p0 + 1))), (1, .int (iI (c0 + 0))), (0, .ref y)]) XX d_MO_hits_33 1 rfl (by decide) rfl ?_
        refine g_goto (tgt := 4) XX d_MO_hits_36 (by decide) ?_
        exact ih_4 _ (by omega) (c0 + 0) (p0 + 1) (by omega) (by first | (rw [h2, cnt_y (by omega) hz]; done) | (rw [cnt_n (by omega) hz, Int.add_zero]; exact h2)) rfl
      · -- 23: no
        have hz : htb Pt m X n p0 = true := by simp only [htb, decide_eq_true_eq]; omega
        refine g_iconst XX d_MO_hits_26 ?_
        refine g_goto (tgt := 31) XX d_MO_hits_27 (by decide) ?_
        refine g_iadd XX d_MO_hits_31 ?_
        refine g_istore_n (lv' := [(1, .int (iI (c0 + 1))), (2, .int (iI p0)), (0, .ref y)]) XX d_MO_hits_32 rfl (by decide) rfl ?_
        refine g_iinc (lv' := [(2, .int (iI (p0 + 1))), (1, .int (iI (c0 + 1))), (0, .ref y)]) XX d_MO_hits_33 1 rfl (by decide) rfl ?_
        refine g_goto (tgt := 4) XX d_MO_hits_36 (by decide) ?_
        exact ih_4 _ (by omega) (c0 + 1) (p0 + 1) (by omega) (by first | (rw [h2, cnt_y (by omega) hz]; done) | (rw [cnt_n (by omega) hz, Int.add_zero]; exact h2)) rfl
  exact L4 _ 0 0 (by omega) ((cnt_0 (by omega)).symm) rfl
abbrev rm_M_seek : Room := { frames := 2, cells := 0, slots := 0, locals := 45 }
set_option maxHeartbeats 4000000 in
set_option maxRecDepth 100000 in
theorem c_M_seek (l : Launch) (D : va_G) (cA : ClassId) (y b1 b2 b3 b4 b5 b6 b7 : Nat) (f1 T f2 X f4 : Int → Int) (t n m : Int) (ht : 0 ≤ t ∧ t ≤ 96) (hn : 0 ≤ n ∧ n ≤ 96) (hfT : ag f1 T t) (hbT : bt8 T t) (hfX : ag f2 X n) (hbX : bt8 X n) : xM l y_MO_seek w_MO_seek rm_M_seek D vwCl [(cA, .int)] [.ref y] [cO y 5 [.int (iI t), .ref b1, .int (iI n), .ref b2, .ref b3, .int (iI m), .ref b4, .ref b5, .ref b6, .ref b7], cR b1 cA 96 f1, cR b2 cA 96 f2, cR b4 cA 96 f4] (fun r w => ∃ (f4' : Int → Int), r = iI (cnt (htb T t X n) (n + 1)) ∧ w = [cO y 5 [.int (iI 0), .ref b1, .int (iI n), .ref b2, .ref b3, .int (iI t), .ref b4, .ref b5, .ref b6, .ref b7], cR b1 cA 96 f1, cR b2 cA 96 f2, cR b4 cA 96 f4'] ∧ (ag f4' T t)) 0 0 := by
  refine xM.ofI (by decide) rfl (Nat.le_of_ble_eq_true rfl) ?_
  intro P0 E0 S0 M0 A0 B0 T0 C0 AA QQ XX hnm ret
  refine g_iconst XX d_MO_seek_0 ?_
  refine g_istore_n (lv' := [(1, .int (iI 0)), (0, .ref y)]) XX d_MO_seek_1 rfl (by decide) rfl ?_
  have L2 : ∀ (k_2 : Nat) (k0 : Int) (fc : Int → Int), (0 ≤ k0 ∧ k0 ≤ t) → (ag fc T k0) → (t - k0).toNat = k_2 → xG P0 l E0 rm_M_seek S0 M0 A0 B0 T0 C0 QQ 2 D vwCl AA 0 0 [cO y 5 [.int (iI t), .ref b1, .int (iI n), .ref b2, .ref b3, .int (iI m), .ref b4, .ref b5, .ref b6, .ref b7], cR b1 cA 96 f1, cR b2 cA 96 f2, cR b4 cA 96 fc] 2 [(1, .int (iI k0)), (0, .ref y)] [] := by
    refine x_ind (fun k_2 ih_2 k0 fc h1 h2 hk_2 => ?_)
    refine g_iload_n XX d_MO_seek_2 rfl 0 rfl ?_
    refine g_aload_n XX d_MO_seek_3 rfl 1 rfl ?_
    refine g_get (C := R_MO) (T := T_MO) (N := 10) XX (tmw win0_MO) 0 rfl rfl 0 (by decide) (tm kw_117) rfl rfl d_MO_seek_4 ?_
    refine g_icmp_ge (tgt := 28) XX d_MO_seek_7 (by decide) ⟨by omega, by omega⟩ ⟨by omega, by omega⟩ (fun h7 => ?_) (fun h7 => ?_)
    · -- 7: yes
      refine g_aload_n XX d_MO_seek_28 rfl 1 rfl ?_
      refine g_aload_n XX d_MO_seek_29 rfl 1 rfl ?_
      refine g_get (C := R_MO) (T := T_MO) (N := 10) XX (tmw win0_MO) 0 rfl rfl 0 (by decide) (tm kw_117) rfl rfl d_MO_seek_30 ?_
      refine g_put (C := R_MO) (T := T_MO) (N := 10) (ty := (.int)) (ws' := [cO y 5 [.int (iI t), .ref b1, .int (iI n), .ref b2, .ref b3, .int (iI t), .ref b4, .ref b5, .ref b6, .ref b7], cR b1 cA 96 f1, cR b2 cA 96 f2, cR b4 cA 96 fc]) XX (tmw win0_MO) ty_MO ok_MO nm_MO 0 rfl rfl 5 (by decide) (tm kw_141) rfl rfl (by decide +kernel) rfl rfl (Nat.le_of_ble_eq_true rfl) rfl d_MO_seek_33 ?_
      refine g_aload_n XX d_MO_seek_36 rfl 1 rfl ?_
      refine g_iconst XX d_MO_seek_37 ?_
      refine g_put (C := R_MO) (T := T_MO) (N := 10) (ty := (.int)) (ws' := [cO y 5 [.int (iI 0), .ref b1, .int (iI n), .ref b2, .ref b3, .int (iI t), .ref b4, .ref b5, .ref b6, .ref b7], cR b1 cA 96 f1, cR b2 cA 96 f2, cR b4 cA 96 fc]) XX (tmw win0_MO) ty_MO ok_MO nm_MO 0 rfl rfl 0 (by decide) (tm kw_117) rfl rfl (by decide +kernel) rfl rfl (Nat.le_of_ble_eq_true rfl) rfl d_MO_seek_38 ?_
      refine g_aload_n XX d_MO_seek_41 rfl 1 rfl ?_
      refine g_calli (As := []) (st := []) (wr := [cR b1 cA 96 f1]) XX (c_M_hits l D cA y b1 b2 b3 b4 b5 b6 b7 f2 X fc T 0 n t (by first | assumption | omega) (by first | assumption | omega) (by first | assumption | omega) (by first | assumption | omega) (ag_le h2 (by omega)) (hbT)) (x_cw 0 XX.2.2.2.2.1 (gi kw_146) rfl rfl (tm kw_123) (tm kw_147) (tm kw_148) (tm kw_149) ⟨by decide +kernel, by decide +kernel, by decide +kernel⟩ ⟨by decide, by decide⟩) [0, 2, 3] [1] rfl rfl (by decide) (by decide) (by decide) 0 5 rfl rfl rfl rfl (Nat.le_of_ble_eq_true rfl) d_MO_seek_42 ⟨by decide, by decide⟩ (fun r_ w_ hq => ?_)
      obtain ⟨rfl, rfl⟩ := hq
      show xG P0 l E0 rm_M_seek S0 M0 A0 B0 T0 C0 QQ 2 D vwCl AA 0 0 [cR b1 cA 96 f1, cO y 5 [.int (iI 0), .ref b1, .int (iI n), .ref b2, .ref b3, .int (iI t), .ref b4, .ref b5, .ref b6, .ref b7], cR b2 cA 96 f2, cR b4 cA 96 fc] 45 [(1, .int (iI k0)), (0, .ref y)] [.int (iI (cnt (htb T t X n) (n + 1)))]
      exact ret _ _ _ _ [cO y 5 [.int (iI 0), .ref b1, .int (iI n), .ref b2, .ref b3, .int (iI t), .ref b4, .ref b5, .ref b6, .ref b7], cR b1 cA 96 f1, cR b2 cA 96 f2, cR b4 cA 96 fc] [1, 0, 2, 3] d_MO_seek_45 (by decide) rfl (⟨fc, rfl, rfl, ag_le h2 (by omega)⟩)
    · -- 7: no
      refine g_aload_n XX d_MO_seek_10 rfl 1 rfl ?_
      refine g_get (C := R_MO) (T := T_MO) (N := 10) XX (tmw win0_MO) 0 rfl rfl 6 (by decide) (tm kw_113) rfl rfl d_MO_seek_11 ?_
      refine g_iload_n XX d_MO_seek_14 rfl 0 rfl ?_
      refine g_aload_n XX d_MO_seek_15 rfl 1 rfl ?_
      refine g_get (C := R_MO) (T := T_MO) (N := 10) XX (tmw win0_MO) 0 rfl rfl 1 (by decide) (tm kw_110) rfl rfl d_MO_seek_16 ?_
      refine g_iload_n XX d_MO_seek_19 rfl 0 rfl ?_
      refine g_iald XX 1 0 rfl rfl ⟨by omega, by omega, by decide⟩ d_MO_seek_20 ?_
      refine g_iast (ws' := [cO y 5 [.int (iI t), .ref b1, .int (iI n), .ref b2, .ref b3, .int (iI m), .ref b4, .ref b5, .ref b6, .ref b7], cR b1 cA 96 f1, cR b2 cA 96 f2, cR b4 cA 96 (iup fc k0 (f1 k0))]) XX 3 0 rfl rfl ⟨by omega, by omega, by decide⟩ rfl d_MO_seek_21 ?_
      refine g_iinc (lv' := [(1, .int (iI (k0 + 1))), (0, .ref y)]) XX d_MO_seek_22 0 rfl (by decide) rfl ?_
      refine g_goto (tgt := 2) XX d_MO_seek_25 (by decide) ?_
      exact ih_2 _ (by omega) (k0 + 1) (iup fc k0 (f1 k0)) (by omega) (ag_s h2 (hfT k0 (by omega) (by omega))) rfl
  exact L2 _ 0 f4 (by omega) (ag_0 (by omega)) rfl
abbrev rm_M_extend : Room := { frames := 2, cells := 0, slots := 0, locals := 45 }
set_option maxHeartbeats 4000000 in
set_option maxRecDepth 100000 in
theorem c_M_extend (l : Launch) (D : va_G) (cA : ClassId) (y b1 b2 b3 b4 b5 b6 b7 : Nat) (f2 X f4 Pt : Int → Int) (t n m i : Int) (hn : 0 ≤ n ∧ n ≤ 96) (hm : 0 ≤ m ∧ m ≤ 96) (hfX : ag f2 X n) (hbX : bt8 X n) (hfP : ag f4 Pt m) (hbP : bt8 Pt m) (hi : -2147483648 ≤ i ∧ i < 2147483648) : xM l y_MO_extend w_MO_extend rm_M_extend D vwCl [(cA, .int)] [.ref y, .int (iI i)] [cO y 5 [.int (iI t), .ref b1, .int (iI n), .ref b2, .ref b3, .int (iI m), .ref b4, .ref b5, .ref b6, .ref b7], cR b2 cA 96 f2, cR b4 cA 96 f4] (fun r w => ∃ (f4' : Int → Int), r = iI (if exR m i = 0 then cnt (htb (exG Pt m i) (exN m i) X n) (n + 1) else exR m i) ∧ w = [cO y 5 [.int (iI t), .ref b1, .int (iI n), .ref b2, .ref b3, .int (iI (exN m i)), .ref b4, .ref b5, .ref b6, .ref b7], cR b2 cA 96 f2, cR b4 cA 96 f4'] ∧ (ag f4' (exG Pt m i) (exN m i))) 0 0 := by
  refine xM.ofI (by decide) rfl (Nat.le_of_ble_eq_true rfl) ?_
  intro P0 E0 S0 M0 A0 B0 T0 C0 AA QQ XX hnm ret
  refine g_iload_n XX d_MO_extend_0 rfl 1 rfl ?_
  refine g_if_lt (tgt := 11) XX d_MO_extend_1 (by decide) ⟨by omega, by omega⟩ (fun h1 => ?_) (fun h1 => ?_)
  · -- 1: yes
    have hz : exR m i = -1 := exR_bad (by omega)
    refine g_iconst XX d_MO_extend_11 ?_
    exact ret _ _ _ _ [cO y 5 [.int (iI t), .ref b1, .int (iI n), .ref b2, .ref b3, .int (iI m), .ref b4, .ref b5, .ref b6, .ref b7], cR b2 cA 96 f2, cR b4 cA 96 f4] [0, 1, 2] d_MO_extend_12 (by decide) rfl (⟨f4, by rw [if_neg (by omega), hz], by rw [exN_bad (by omega)], by rw [exN_bad (by omega), exG_bad (by omega)]; exact hfP⟩)
  · -- 1: no
    refine g_iload_n XX d_MO_extend_4 rfl 1 rfl ?_
    refine g_sipush (v := 255) XX d_MO_extend_5 (by decide) ?_
    refine g_icmp_le (tgt := 13) XX d_MO_extend_8 (by decide) ⟨by omega, by omega⟩ ⟨by omega, by omega⟩ (fun h8 => ?_) (fun h8 => ?_)
    · -- 8: yes
      refine g_aload_n XX d_MO_extend_13 rfl 0 rfl ?_
      refine g_get (C := R_MO) (T := T_MO) (N := 10) XX (tmw win0_MO) 0 rfl rfl 5 (by decide) (tm kw_141) rfl rfl d_MO_extend_14 ?_
      refine g_bipush (v := 96) XX d_MO_extend_17 (by decide) ?_
      refine g_icmp_ne (tgt := 25) XX d_MO_extend_19 (by decide) ⟨by omega, by omega⟩ ⟨by omega, by omega⟩ (fun h19 => ?_) (fun h19 => ?_)
      · -- 19: yes
        have hz : exR m i = 0 := exR_ok (by omega) (by omega)
        refine g_aload_n XX d_MO_extend_25 rfl 0 rfl ?_
        refine g_get (C := R_MO) (T := T_MO) (N := 10) XX (tmw win0_MO) 0 rfl rfl 5 (by decide) (tm kw_141) rfl rfl d_MO_extend_26 ?_
        refine g_istore_n (lv' := [(2, .int (iI m)), (0, .ref y), (1, .int (iI i))]) XX d_MO_extend_29 rfl (by decide) rfl ?_
        have L30 : ∀ (k_30 : Nat) (k0 : Int) (f42 : Int → Int), (0 ≤ k0 ∧ k0 ≤ m) → (∀ j, 0 ≤ j → j ≤ k0 → f42 j = f4 j) → (∀ j, k0 < j → j ≤ m → f42 j = f4 (j - 1)) → (k0).toNat = k_30 → xG P0 l E0 rm_M_extend S0 M0 A0 B0 T0 C0 QQ 3 D vwCl AA 0 0 [cO y 5 [.int (iI t), .ref b1, .int (iI n), .ref b2, .ref b3, .int (iI m), .ref b4, .ref b5, .ref b6, .ref b7], cR b2 cA 96 f2, cR b4 cA 96 f42] 30 [(2, .int (iI k0)), (0, .ref y), (1, .int (iI i))] [] := by
          refine x_ind (fun k_30 ih_30 k0 f42 d1 d2 d3 hk_30 => ?_)
          refine g_iload_n XX d_MO_extend_30 rfl 0 rfl ?_
          refine g_if_le (tgt := 54) XX d_MO_extend_31 (by decide) ⟨by omega, by omega⟩ (fun h31 => ?_) (fun h31 => ?_)
          · -- 31: yes
            have hag := exs_ag (g := f42) hz hfP (fun j a b => d3 j (by omega) b)
            refine g_aload_n XX d_MO_extend_54 rfl 1 rfl ?_
            refine g_get (C := R_MO) (T := T_MO) (N := 10) XX (tmw win0_MO) 0 rfl rfl 6 (by decide) (tm kw_113) rfl rfl d_MO_extend_55 ?_
            refine g_iconst XX d_MO_extend_58 ?_
            refine g_iload_n XX d_MO_extend_59 rfl 2 rfl ?_
            refine g_iast (ws' := [cO y 5 [.int (iI t), .ref b1, .int (iI n), .ref b2, .ref b3, .int (iI m), .ref b4, .ref b5, .ref b6, .ref b7], cR b2 cA 96 f2, cR b4 cA 96 (iup f42 0 i)]) XX 2 0 rfl rfl ⟨by omega, by omega, by decide⟩ rfl d_MO_extend_60 ?_
            refine g_aload_n XX d_MO_extend_61 rfl 1 rfl ?_
            refine g_dup XX d_MO_extend_62 rfl ?_
            refine g_get (C := R_MO) (T := T_MO) (N := 10) XX (tmw win0_MO) 0 rfl rfl 5 (by decide) (tm kw_141) rfl rfl d_MO_extend_63 ?_
            refine g_iconst XX d_MO_extend_66 ?_
            refine g_iadd XX d_MO_extend_67 ?_
            refine g_put (C := R_MO) (T := T_MO) (N := 10) (ty := (.int)) (ws' := [cO y 5 [.int (iI t), .ref b1, .int (iI n), .ref b2, .ref b3, .int (iI (m + 1)), .ref b4, .ref b5, .ref b6, .ref b7], cR b2 cA 96 f2, cR b4 cA 96 (iup f42 0 i)]) XX (tmw win0_MO) ty_MO ok_MO nm_MO 0 rfl rfl 5 (by decide) (tm kw_141) rfl rfl (by decide +kernel) rfl rfl (Nat.le_of_ble_eq_true rfl) rfl d_MO_extend_68 ?_
            refine g_aload_n XX d_MO_extend_71 rfl 1 rfl ?_
            refine g_calli (As := []) (st := []) (wr := []) XX (c_M_hits l D cA y b1 b2 b3 b4 b5 b6 b7 f2 X (iup f42 0 i) (exG Pt m i) t n (m + 1) (by first | assumption | omega) (by first | assumption | omega) (by first | assumption | omega) (by first | assumption | omega) (hag) (by have := exG_bt (b := i) hbP; rwa [exN_ok hz] at this)) (x_cw 0 XX.2.2.2.2.1 (gi kw_146) rfl rfl (tm kw_123) (tm kw_147) (tm kw_148) (tm kw_149) ⟨by decide +kernel, by decide +kernel, by decide +kernel⟩ ⟨by decide, by decide⟩) [0, 1, 2] [] rfl rfl (by decide) (by decide) (by decide) 0 5 rfl rfl rfl rfl (Nat.le_of_ble_eq_true rfl) d_MO_extend_72 ⟨by decide, by decide⟩ (fun r_ w_ hq => ?_)
            obtain ⟨rfl, rfl⟩ := hq
            show xG P0 l E0 rm_M_extend S0 M0 A0 B0 T0 C0 QQ 3 D vwCl AA 0 0 [cO y 5 [.int (iI t), .ref b1, .int (iI n), .ref b2, .ref b3, .int (iI (m + 1)), .ref b4, .ref b5, .ref b6, .ref b7], cR b2 cA 96 f2, cR b4 cA 96 (iup f42 0 i)] 75 [(2, .int (iI k0)), (0, .ref y), (1, .int (iI i))] [.int (iI (cnt (htb (exG Pt m i) (m + 1) X n) (n + 1)))]
            exact ret _ _ _ _ [cO y 5 [.int (iI t), .ref b1, .int (iI n), .ref b2, .ref b3, .int (iI (m + 1)), .ref b4, .ref b5, .ref b6, .ref b7], cR b2 cA 96 f2, cR b4 cA 96 (iup f42 0 i)] [0, 1, 2] d_MO_extend_75 (by decide) rfl (⟨iup f42 0 i, by rw [if_pos hz, exN_ok hz], by rw [exN_ok hz], by rw [exN_ok hz]; exact hag⟩)
          · -- 31: no
            refine g_aload_n XX d_MO_extend_34 rfl 1 rfl ?_
            refine g_get (C := R_MO) (T := T_MO) (N := 10) XX (tmw win0_MO) 0 rfl rfl 6 (by decide) (tm kw_113) rfl rfl d_MO_extend_35 ?_
            refine g_iload_n XX d_MO_extend_38 rfl 0 rfl ?_
            refine g_aload_n XX d_MO_extend_39 rfl 1 rfl ?_
            refine g_get (C := R_MO) (T := T_MO) (N := 10) XX (tmw win0_MO) 0 rfl rfl 6 (by decide) (tm kw_113) rfl rfl d_MO_extend_40 ?_
            refine g_iload_n XX d_MO_extend_43 rfl 0 rfl ?_
            refine g_iconst XX d_MO_extend_44 ?_
            refine g_isub XX d_MO_extend_45 ?_
            refine g_iald XX 2 0 rfl rfl ⟨by omega, by omega, by decide⟩ d_MO_extend_46 ?_
            refine g_iast (ws' := [cO y 5 [.int (iI t), .ref b1, .int (iI n), .ref b2, .ref b3, .int (iI m), .ref b4, .ref b5, .ref b6, .ref b7], cR b2 cA 96 f2, cR b4 cA 96 (iup f42 k0 (f42 (k0 - 1)))]) XX 2 0 rfl rfl ⟨by omega, by omega, by decide⟩ rfl d_MO_extend_47 ?_
            refine g_iinc (lv' := [(2, .int (iI (k0 + (-1)))), (0, .ref y), (1, .int (iI i))]) XX d_MO_extend_48 0 rfl (by decide) rfl ?_
            refine g_goto (tgt := 30) XX d_MO_extend_51 (by decide) ?_
            exact ih_30 _ (by omega) (k0 + (-1)) (iup f42 k0 (f42 (k0 - 1))) (by omega) (fun j a b => by rw [iup_ne (by omega)]; exact d2 j a (by omega)) (fun j a b => if z : j = k0 then by rw [iup_eq z, z]; exact d2 (k0 - 1) (by omega) (by omega) else by rw [iup_ne z]; exact d3 j (by omega) b) rfl
        exact L30 _ m f4 (by omega) (fun j a b => rfl) (fun j a b => by omega) rfl
      · -- 19: no
        have hz : exR m i = -3 := exR_full (by omega) (by omega)
        refine g_bipush (v := -3) XX d_MO_extend_22 (by decide) ?_
        exact ret _ _ _ _ [cO y 5 [.int (iI t), .ref b1, .int (iI n), .ref b2, .ref b3, .int (iI m), .ref b4, .ref b5, .ref b6, .ref b7], cR b2 cA 96 f2, cR b4 cA 96 f4] [0, 1, 2] d_MO_extend_24 (by decide) rfl (⟨f4, by rw [if_neg (by omega), hz], by rw [exN_bad (by omega)], by rw [exN_bad (by omega), exG_bad (by omega)]; exact hfP⟩)
    · -- 8: no
      have hz : exR m i = -1 := exR_bad (by omega)
      refine g_iconst XX d_MO_extend_11 ?_
      exact ret _ _ _ _ [cO y 5 [.int (iI t), .ref b1, .int (iI n), .ref b2, .ref b3, .int (iI m), .ref b4, .ref b5, .ref b6, .ref b7], cR b2 cA 96 f2, cR b4 cA 96 f4] [0, 1, 2] d_MO_extend_12 (by decide) rfl (⟨f4, by rw [if_neg (by omega), hz], by rw [exN_bad (by omega)], by rw [exN_bad (by omega), exG_bad (by omega)]; exact hfP⟩)
abbrev rm_M_before : Room := { frames := 1, cells := 0, slots := 0, locals := 23 }
set_option maxHeartbeats 4000000 in
set_option maxRecDepth 100000 in
theorem c_M_before (l : Launch) (D : va_G) (cA : ClassId) (y b1 b2 b3 b4 b5 b6 b7 : Nat) (f2 X f4 Pt : Int → Int) (t n m : Int) (hn : 0 ≤ n ∧ n ≤ 96) (hm : 0 ≤ m ∧ m ≤ 96) (hfX : ag f2 X n) (hbX : bt8 X n) (hfP : ag f4 Pt m) (hbP : bt8 Pt m) : xM l y_MO_before w_MO_before rm_M_before D vwCl [(cA, .int)] [.ref y] [cO y 5 [.int (iI t), .ref b1, .int (iI n), .ref b2, .ref b3, .int (iI m), .ref b4, .ref b5, .ref b6, .ref b7], cR b2 cA 96 f2, cR b4 cA 96 f4] (fun r w => r = iI (cnt (bfb Pt m X n) (n + 1)) ∧ w = [cO y 5 [.int (iI t), .ref b1, .int (iI n), .ref b2, .ref b3, .int (iI m), .ref b4, .ref b5, .ref b6, .ref b7], cR b2 cA 96 f2, cR b4 cA 96 f4]) 0 0 := by
  refine xM.ofI (by decide) rfl (Nat.le_of_ble_eq_true rfl) ?_
  intro P0 E0 S0 M0 A0 B0 T0 C0 AA QQ XX hnm ret
  refine g_iconst XX d_MO_before_0 ?_
  refine g_istore_n (lv' := [(1, .int (iI 0)), (0, .ref y)]) XX d_MO_before_1 rfl (by decide) rfl ?_
  refine g_iconst XX d_MO_before_2 ?_
  refine g_istore_n (lv' := [(2, .int (iI 0)), (1, .int (iI 0)), (0, .ref y)]) XX d_MO_before_3 rfl (by decide) rfl ?_
  have L4 : ∀ (k_4 : Nat) (c0 : Int) (p0 : Int), (0 ≤ p0 ∧ p0 ≤ n + 1) → (c0 = cnt (bfb Pt m X n) p0) → (n + 1 - p0).toNat = k_4 → xG P0 l E0 rm_M_before S0 M0 A0 B0 T0 C0 QQ 4 D vwCl AA 0 0 [cO y 5 [.int (iI t), .ref b1, .int (iI n), .ref b2, .ref b3, .int (iI m), .ref b4, .ref b5, .ref b6, .ref b7], cR b2 cA 96 f2, cR b4 cA 96 f4] 4 [(2, .int (iI p0)), (1, .int (iI c0)), (0, .ref y)] [] := by
    refine x_ind (fun k_4 ih_4 c0 p0 h1 h2 hk_4 => ?_)
    refine g_iload_n XX d_MO_before_4 rfl 0 rfl ?_
    refine g_aload_n XX d_MO_before_5 rfl 2 rfl ?_
    refine g_get (C := R_MO) (T := T_MO) (N := 10) XX (tmw win0_MO) 0 rfl rfl 2 (by decide) (tm kw_119) rfl rfl d_MO_before_6 ?_
    refine g_icmp_gt (tgt := 68) XX d_MO_before_9 (by decide) ⟨by omega, by omega⟩ ⟨by omega, by omega⟩ (fun h9 => ?_) (fun h9 => ?_)
    · -- 9: yes
      refine g_iload_n XX d_MO_before_68 rfl 1 rfl ?_
      exact ret _ _ _ _ [cO y 5 [.int (iI t), .ref b1, .int (iI n), .ref b2, .ref b3, .int (iI m), .ref b4, .ref b5, .ref b6, .ref b7], cR b2 cA 96 f2, cR b4 cA 96 f4] [0, 1, 2] d_MO_before_69 (by decide) rfl (⟨by rw [h2, show p0 = n + 1 by omega], rfl⟩)
    · -- 9: no
      refine g_aload_n XX d_MO_before_12 rfl 2 rfl ?_
      refine g_iload_n XX d_MO_before_13 rfl 0 rfl ?_
      refine g_iconst XX d_MO_before_14 ?_
      refine g_calli (As := [.int (iI p0), .int (iI 0)]) (st := []) (wr := []) XX (c_M_fits l D cA y b1 b2 b3 b4 b5 b6 b7 f2 X f4 Pt t n m p0 0 (by first | assumption | omega) (by first | assumption | omega) (by first | assumption | omega) (by first | assumption | omega) (by first | assumption | omega) (by first | assumption | omega) (by first | assumption | omega)) (x_cw 2 XX.2.2.2.2.1 (gi kw_142) rfl rfl (tm kw_123) (tm kw_143) (tm kw_144) (tm kw_145) ⟨by decide +kernel, by decide +kernel, by decide +kernel⟩ ⟨by decide, by decide⟩) [0, 1, 2] [] rfl rfl (by decide) (by decide) (by decide) 0 5 rfl rfl rfl rfl (Nat.le_of_ble_eq_true rfl) d_MO_before_15 ⟨by decide, by decide⟩ (fun r_ w_ hq => ?_)
      obtain ⟨rfl, rfl⟩ := hq
      show xG P0 l E0 rm_M_before S0 M0 A0 B0 T0 C0 QQ 4 D vwCl AA 0 0 [cO y 5 [.int (iI t), .ref b1, .int (iI n), .ref b2, .ref b3, .int (iI m), .ref b4, .ref b5, .ref b6, .ref b7], cR b2 cA 96 f2, cR b4 cA 96 f4] 18 [(2, .int (iI p0)), (1, .int (iI c0)), (0, .ref y)] [.int (iI (al Pt m X n 0 p0))]
      refine g_istore_n (lv' := [(3, .int (iI (al Pt m X n 0 p0))), (2, .int (iI p0)), (1, .int (iI c0)), (0, .ref y)]) XX d_MO_before_18 rfl (by decide) rfl ?_
      have g := al_rng (f := Pt) (n := m) (g := X) (m := n) (p := 0) (q := p0) (by omega) (by omega)
      refine g_iload_n XX d_MO_before_19 rfl 2 rfl ?_
      refine g_iload_n XX d_MO_before_20 rfl 0 rfl ?_
      refine g_aload_n XX d_MO_before_21 rfl 3 rfl ?_
      refine g_get (C := R_MO) (T := T_MO) (N := 10) XX (tmw win0_MO) 0 rfl rfl 5 (by decide) (tm kw_141) rfl rfl d_MO_before_22 ?_
      refine g_icmp_ge (tgt := 59) XX d_MO_before_25 (by decide) ⟨by omega, by omega⟩ ⟨by omega, by omega⟩ (fun h25 => ?_) (fun h25 => ?_)
      · -- 25: yes
        have hz : bfb Pt m X n p0 = false := by simp only [bfb, decide_eq_false_iff_not]; omega
        refine g_iconst XX d_MO_before_59 ?_
        refine g_iadd XX d_MO_before_60 ?_
        refine g_istore_n (lv' := [(1, .int (iI (c0 + 0))), (3, .int (iI (al Pt m X n 0 p0))), (2, .int (iI p0)), (0, .ref y)]) XX d_MO_before_61 rfl (by decide) rfl ?_
        refine g_iinc (lv' := [(2, .int (iI (p0 + 1))), (1, .int (iI (c0 + 0))), (3, .int (iI (al Pt m X n 0 p0))), (0, .ref y)]) XX d_MO_before_62 2 rfl (by decide) rfl ?_
        refine g_goto (tgt := 4) XX d_MO_before_65 (by decide) ?_
        refine g_lv (lv' := [(2, .int (iI (p0 + 1))), (1, .int (iI (c0 + 0))), (0, .ref y)]) [0, 1, 3] rfl ?_
        exact ih_4 _ (by omega) (c0 + 0) (p0 + 1) (by omega) (by first | (rw [h2, cnt_y (by omega) hz]; done) | (rw [cnt_n (by omega) hz, Int.add_zero]; exact h2)) rfl
      · -- 25: no
        refine g_iload_n XX d_MO_before_28 rfl 1 rfl ?_
        refine g_iload_n XX d_MO_before_29 rfl 0 rfl ?_
        refine g_iadd XX d_MO_before_30 ?_
        refine g_aload_n XX d_MO_before_31 rfl 3 rfl ?_
        refine g_get (C := R_MO) (T := T_MO) (N := 10) XX (tmw win0_MO) 0 rfl rfl 2 (by decide) (tm kw_119) rfl rfl d_MO_before_32 ?_
        refine g_icmp_eq (tgt := 55) XX d_MO_before_35 (by decide) ⟨by omega, by omega⟩ ⟨by omega, by omega⟩ (fun h35 => ?_) (fun h35 => ?_)
        · -- 35: yes
          have hz : bfb Pt m X n p0 = true := by simp only [bfb, decide_eq_true_eq]; omega
          refine g_iconst XX d_MO_before_55 ?_
          refine g_goto (tgt := 60) XX d_MO_before_56 (by decide) ?_
          refine g_iadd XX d_MO_before_60 ?_
          refine g_istore_n (lv' := [(1, .int (iI (c0 + 1))), (3, .int (iI (al Pt m X n 0 p0))), (2, .int (iI p0)), (0, .ref y)]) XX d_MO_before_61 rfl (by decide) rfl ?_
          refine g_iinc (lv' := [(2, .int (iI (p0 + 1))), (1, .int (iI (c0 + 1))), (3, .int (iI (al Pt m X n 0 p0))), (0, .ref y)]) XX d_MO_before_62 2 rfl (by decide) rfl ?_
          refine g_goto (tgt := 4) XX d_MO_before_65 (by decide) ?_
          refine g_lv (lv' := [(2, .int (iI (p0 + 1))), (1, .int (iI (c0 + 1))), (0, .ref y)]) [0, 1, 3] rfl ?_
          exact ih_4 _ (by omega) (c0 + 1) (p0 + 1) (by omega) (by first | (rw [h2, cnt_y (by omega) hz]; done) | (rw [cnt_n (by omega) hz, Int.add_zero]; exact h2)) rfl
        · -- 35: no
          refine g_aload_n XX d_MO_before_38 rfl 3 rfl ?_
          refine g_get (C := R_MO) (T := T_MO) (N := 10) XX (tmw win0_MO) 0 rfl rfl 3 (by decide) (tm kw_111) rfl rfl d_MO_before_39 ?_
          refine g_iload_n XX d_MO_before_42 rfl 1 rfl ?_
          refine g_iload_n XX d_MO_before_43 rfl 0 rfl ?_
          refine g_iadd XX d_MO_before_44 ?_
          refine g_iald XX 1 0 rfl rfl ⟨by omega, by omega, by decide⟩ d_MO_before_45 ?_
          refine g_aload_n XX d_MO_before_46 rfl 3 rfl ?_
          refine g_get (C := R_MO) (T := T_MO) (N := 10) XX (tmw win0_MO) 0 rfl rfl 6 (by decide) (tm kw_113) rfl rfl d_MO_before_47 ?_
          refine g_iload_n XX d_MO_before_50 rfl 0 rfl ?_
          refine g_iald XX 2 0 rfl rfl ⟨by omega, by omega, by decide⟩ d_MO_before_51 ?_
          have e1 := hfX (p0 + al Pt m X n 0 p0) (by omega) (by omega)
          have e2 := hfP (al Pt m X n 0 p0) (by omega) (by omega)
          have bb1 := hbX (p0 + al Pt m X n 0 p0) (by omega) (by omega)
          have bb2 := hbP (al Pt m X n 0 p0) (by omega) (by omega)
          refine g_icmp_ge (tgt := 59) XX d_MO_before_52 (by decide) ⟨by omega, by omega⟩ ⟨by omega, by omega⟩ (fun h52 => ?_) (fun h52 => ?_)
          · -- 52: yes
            have hz : bfb Pt m X n p0 = false := by simp only [bfb, decide_eq_false_iff_not]; omega
            refine g_iconst XX d_MO_before_59 ?_
            refine g_iadd XX d_MO_before_60 ?_
            refine g_istore_n (lv' := [(1, .int (iI (c0 + 0))), (3, .int (iI (al Pt m X n 0 p0))), (2, .int (iI p0)), (0, .ref y)]) XX d_MO_before_61 rfl (by decide) rfl ?_
            refine g_iinc (lv' := [(2, .int (iI (p0 + 1))), (1, .int (iI (c0 + 0))), (3, .int (iI (al Pt m X n 0 p0))), (0, .ref y)]) XX d_MO_before_62 2 rfl (by decide) rfl ?_
            refine g_goto (tgt := 4) XX d_MO_before_65 (by decide) ?_
            refine g_lv (lv' := [(2, .int (iI (p0 + 1))), (1, .int (iI (c0 + 0))), (0, .ref y)]) [0, 1, 3] rfl ?_
            exact ih_4 _ (by omega) (c0 + 0) (p0 + 1) (by omega) (by first | (rw [h2, cnt_y (by omega) hz]; done) | (rw [cnt_n (by omega) hz, Int.add_zero]; exact h2)) rfl
          · -- 52: no
            have hz : bfb Pt m X n p0 = true := by simp only [bfb, decide_eq_true_eq]; omega
            refine g_iconst XX d_MO_before_55 ?_
            refine g_goto (tgt := 60) XX d_MO_before_56 (by decide) ?_
            refine g_iadd XX d_MO_before_60 ?_
            refine g_istore_n (lv' := [(1, .int (iI (c0 + 1))), (3, .int (iI (al Pt m X n 0 p0))), (2, .int (iI p0)), (0, .ref y)]) XX d_MO_before_61 rfl (by decide) rfl ?_
            refine g_iinc (lv' := [(2, .int (iI (p0 + 1))), (1, .int (iI (c0 + 1))), (3, .int (iI (al Pt m X n 0 p0))), (0, .ref y)]) XX d_MO_before_62 2 rfl (by decide) rfl ?_
            refine g_goto (tgt := 4) XX d_MO_before_65 (by decide) ?_
            refine g_lv (lv' := [(2, .int (iI (p0 + 1))), (1, .int (iI (c0 + 1))), (0, .ref y)]) [0, 1, 3] rfl ?_
            exact ih_4 _ (by omega) (c0 + 1) (p0 + 1) (by omega) (by first | (rw [h2, cnt_y (by omega) hz]; done) | (rw [cnt_n (by omega) hz, Int.add_zero]; exact h2)) rfl
  exact L4 _ 0 0 (by omega) ((cnt_0 (by omega)).symm) rfl
abbrev rm_M_hit : Room := { frames := 1, cells := 0, slots := 0, locals := 23 }
set_option maxHeartbeats 4000000 in
set_option maxRecDepth 100000 in
theorem c_M_hit (l : Launch) (D : va_G) (cA : ClassId) (y b1 b2 b3 b4 b5 b6 b7 : Nat) (f2 X f4 Pt : Int → Int) (t n m i : Int) (hn : 0 ≤ n ∧ n ≤ 96) (hm : 0 ≤ m ∧ m ≤ 96) (hfX : ag f2 X n) (hbX : bt8 X n) (hfP : ag f4 Pt m) (hbP : bt8 Pt m) (hi : -2147483648 ≤ i ∧ i < 2147483648) : xM l y_MO_hit w_MO_hit rm_M_hit D vwCl [(cA, .int)] [.ref y, .int (iI i)] [cO y 5 [.int (iI t), .ref b1, .int (iI n), .ref b2, .ref b3, .int (iI m), .ref b4, .ref b5, .ref b6, .ref b7], cR b2 cA 96 f2, cR b4 cA 96 f4] (fun r w => r = iI (htr Pt m X n i) ∧ w = [cO y 5 [.int (iI t), .ref b1, .int (iI n), .ref b2, .ref b3, .int (iI m), .ref b4, .ref b5, .ref b6, .ref b7], cR b2 cA 96 f2, cR b4 cA 96 f4]) 0 0 := by
  refine xM.ofI (by decide) rfl (Nat.le_of_ble_eq_true rfl) ?_
  intro P0 E0 S0 M0 A0 B0 T0 C0 AA QQ XX hnm ret
  refine g_iload_n XX d_MO_hit_0 rfl 1 rfl ?_
  refine g_istore_n (lv' := [(2, .int (iI i)), (0, .ref y), (1, .int (iI i))]) XX d_MO_hit_1 rfl (by decide) rfl ?_
  refine g_iconst XX d_MO_hit_2 ?_
  refine g_istore_n (lv' := [(3, .int (iI 0)), (2, .int (iI i)), (0, .ref y), (1, .int (iI i))]) XX d_MO_hit_3 rfl (by decide) rfl ?_
  have L4 : ∀ (k_4 : Nat) (l0 : Int) (p0 : Int), (0 ≤ p0 ∧ p0 ≤ n + 1) → (l0 = i - cnt (htb Pt m X n) p0) → (∀ j, 0 ≤ j → j < p0 → ¬ (htb Pt m X n j = true ∧ cnt (htb Pt m X n) j = i)) → (n + 1 - p0).toNat = k_4 → xG P0 l E0 rm_M_hit S0 M0 A0 B0 T0 C0 QQ 4 D vwCl AA 0 0 [cO y 5 [.int (iI t), .ref b1, .int (iI n), .ref b2, .ref b3, .int (iI m), .ref b4, .ref b5, .ref b6, .ref b7], cR b2 cA 96 f2, cR b4 cA 96 f4] 4 [(3, .int (iI p0)), (2, .int (iI l0)), (0, .ref y), (1, .int (iI i))] [] := by
    refine x_ind (fun k_4 ih_4 l0 p0 h1 h2 h3 hk_4 => ?_)
    refine g_iload_n XX d_MO_hit_4 rfl 0 rfl ?_
    refine g_aload_n XX d_MO_hit_5 rfl 2 rfl ?_
    refine g_get (C := R_MO) (T := T_MO) (N := 10) XX (tmw win0_MO) 0 rfl rfl 2 (by decide) (tm kw_119) rfl rfl d_MO_hit_6 ?_
    refine g_icmp_gt (tgt := 44) XX d_MO_hit_9 (by decide) ⟨by omega, by omega⟩ ⟨by omega, by omega⟩ (fun h9 => ?_) (fun h9 => ?_)
    · -- 9: yes
      refine g_iconst XX d_MO_hit_44 ?_
      exact ret _ _ _ _ [cO y 5 [.int (iI t), .ref b1, .int (iI n), .ref b2, .ref b3, .int (iI m), .ref b4, .ref b5, .ref b6, .ref b7], cR b2 cA 96 f2, cR b4 cA 96 f4] [0, 1, 2] d_MO_hit_45 (by decide) rfl (⟨by first | rw [htr_no (by omega) (fun j a b => h3 j a (by omega))] | rw [htr_no (by omega) (fun j a b z => by have y := (cnt_rng (P := htb Pt m X n) (n := j) a).1; have y2 := z.2; omega)], rfl⟩)
    · -- 9: no
      refine g_iload_n XX d_MO_hit_12 rfl 3 rfl ?_
      refine g_if_lt (tgt := 44) XX d_MO_hit_13 (by decide) ⟨by omega, by omega⟩ (fun h13 => ?_) (fun h13 => ?_)
      · -- 13: yes
        refine g_iconst XX d_MO_hit_44 ?_
        exact ret _ _ _ _ [cO y 5 [.int (iI t), .ref b1, .int (iI n), .ref b2, .ref b3, .int (iI m), .ref b4, .ref b5, .ref b6, .ref b7], cR b2 cA 96 f2, cR b4 cA 96 f4] [0, 1, 2] d_MO_hit_45 (by decide) rfl (⟨by first | rw [htr_no (by omega) (fun j a b => h3 j a (by omega))] | rw [htr_no (by omega) (fun j a b z => by have y := (cnt_rng (P := htb Pt m X n) (n := j) a).1; have y2 := z.2; omega)], rfl⟩)
      · -- 13: no
        refine g_aload_n XX d_MO_hit_16 rfl 2 rfl ?_
        refine g_iload_n XX d_MO_hit_17 rfl 0 rfl ?_
        refine g_iconst XX d_MO_hit_18 ?_
        refine g_calli (As := [.int (iI p0), .int (iI 0)]) (st := []) (wr := []) XX (c_M_fits l D cA y b1 b2 b3 b4 b5 b6 b7 f2 X f4 Pt t n m p0 0 (by first | assumption | omega) (by first | assumption | omega) (by first | assumption | omega) (by first | assumption | omega) (by first | assumption | omega) (by first | assumption | omega) (by first | assumption | omega)) (x_cw 2 XX.2.2.2.2.1 (gi kw_142) rfl rfl (tm kw_123) (tm kw_143) (tm kw_144) (tm kw_145) ⟨by decide +kernel, by decide +kernel, by decide +kernel⟩ ⟨by decide, by decide⟩) [0, 1, 2] [] rfl rfl (by decide) (by decide) (by decide) 0 5 rfl rfl rfl rfl (Nat.le_of_ble_eq_true rfl) d_MO_hit_19 ⟨by decide, by decide⟩ (fun r_ w_ hq => ?_)
        obtain ⟨rfl, rfl⟩ := hq
        show xG P0 l E0 rm_M_hit S0 M0 A0 B0 T0 C0 QQ 4 D vwCl AA 0 0 [cO y 5 [.int (iI t), .ref b1, .int (iI n), .ref b2, .ref b3, .int (iI m), .ref b4, .ref b5, .ref b6, .ref b7], cR b2 cA 96 f2, cR b4 cA 96 f4] 22 [(3, .int (iI p0)), (2, .int (iI l0)), (0, .ref y), (1, .int (iI i))] [.int (iI (al Pt m X n 0 p0))]
        refine g_aload_n XX d_MO_hit_22 rfl 2 rfl ?_
        refine g_get (C := R_MO) (T := T_MO) (N := 10) XX (tmw win0_MO) 0 rfl rfl 5 (by decide) (tm kw_141) rfl rfl d_MO_hit_23 ?_
        have g := al_rng (f := Pt) (n := m) (g := X) (m := n) (p := 0) (q := p0) (by omega) (by omega)
        refine g_icmp_ne (tgt := 38) XX d_MO_hit_26 (by decide) ⟨by omega, by omega⟩ ⟨by omega, by omega⟩ (fun h26 => ?_) (fun h26 => ?_)
        · -- 26: yes
          refine g_iinc (lv' := [(3, .int (iI (p0 + 1))), (2, .int (iI l0)), (0, .ref y), (1, .int (iI i))]) XX d_MO_hit_38 0 rfl (by decide) rfl ?_
          refine g_goto (tgt := 4) XX d_MO_hit_41 (by decide) ?_
          exact ih_4 _ (by omega) l0 (p0 + 1) (by omega) (by first | (rw [cnt_y (by omega) hz]; omega) | (rw [cnt_n (by omega) (show htb Pt m X n p0 = false by simp only [htb, decide_eq_false_iff_not]; omega)]; exact h2)) (by first | exact all_s h3 (fun z => h30 (by rw [h2, z.2]; omega)) | exact all_s h3 (fun z => absurd z.1 (by rw [show htb Pt m X n p0 = false by simp only [htb, decide_eq_false_iff_not]; omega]; decide))) rfl
        · -- 26: no
          have hz : htb Pt m X n p0 = true := by simp only [htb, decide_eq_true_eq]; omega
          have q := cnt_rng (P := htb Pt m X n) (n := p0) (by omega)
          refine g_iload_n XX d_MO_hit_29 rfl 1 rfl ?_
          refine g_if_ne (tgt := 35) XX d_MO_hit_30 (by decide) ⟨by omega, by omega⟩ (fun h30 => ?_) (fun h30 => ?_)
          · -- 30: yes
            refine g_iinc (lv' := [(2, .int (iI (l0 + (-1)))), (3, .int (iI p0)), (0, .ref y), (1, .int (iI i))]) XX d_MO_hit_35 1 rfl (by decide) rfl ?_
            refine g_iinc (lv' := [(3, .int (iI (p0 + 1))), (2, .int (iI (l0 + (-1)))), (0, .ref y), (1, .int (iI i))]) XX d_MO_hit_38 1 rfl (by decide) rfl ?_
            refine g_goto (tgt := 4) XX d_MO_hit_41 (by decide) ?_
            exact ih_4 _ (by omega) (l0 + (-1)) (p0 + 1) (by omega) (by first | (rw [cnt_y (by omega) hz]; omega) | (rw [cnt_n (by omega) (show htb Pt m X n p0 = false by simp only [htb, decide_eq_false_iff_not]; omega)]; exact h2)) (by first | exact all_s h3 (fun z => h30 (by rw [h2, z.2]; omega)) | exact all_s h3 (fun z => absurd z.1 (by rw [show htb Pt m X n p0 = false by simp only [htb, decide_eq_false_iff_not]; omega]; decide))) rfl
          · -- 30: no
            refine g_iload_n XX d_MO_hit_33 rfl 0 rfl ?_
            exact ret _ _ _ _ [cO y 5 [.int (iI t), .ref b1, .int (iI n), .ref b2, .ref b3, .int (iI m), .ref b4, .ref b5, .ref b6, .ref b7], cR b2 cA 96 f2, cR b4 cA 96 f4] [0, 1, 2] d_MO_hit_34 (by decide) rfl (⟨by rw [htr_at (by omega) (by omega) h3 hz (by omega)], rfl⟩)
  exact L4 _ i 0 (by omega) (by rw [cnt_0 (by omega)]; omega) (fun j a b => by omega) rfl
abbrev rm_M_match : Room := { frames := 1, cells := 0, slots := 0, locals := 23 }
set_option maxHeartbeats 4000000 in
set_option maxRecDepth 100000 in
theorem c_M_match (l : Launch) (D : va_G) (cA : ClassId) (y b1 b2 b3 b4 b5 b6 b7 : Nat) (f2 X f4 Pt : Int → Int) (t n m i : Int) (hn : 0 ≤ n ∧ n ≤ 96) (hm : 0 ≤ m ∧ m ≤ 96) (hfX : ag f2 X n) (hbX : bt8 X n) (hfP : ag f4 Pt m) (hbP : bt8 Pt m) (hi : -2147483648 ≤ i ∧ i < 2147483648) : xM l y_MO_match w_MO_match rm_M_match D vwCl [(cA, .int)] [.ref y, .int (iI i)] [cO y 5 [.int (iI t), .ref b1, .int (iI n), .ref b2, .ref b3, .int (iI m), .ref b4, .ref b5, .ref b6, .ref b7], cR b2 cA 96 f2, cR b4 cA 96 f4] (fun r w => r = iI (if 0 ≤ i ∧ i ≤ m then mx (fun q => al Pt m X n i q) (n + 1) else -1) ∧ w = [cO y 5 [.int (iI t), .ref b1, .int (iI n), .ref b2, .ref b3, .int (iI m), .ref b4, .ref b5, .ref b6, .ref b7], cR b2 cA 96 f2, cR b4 cA 96 f4]) 0 0 := by
  refine xM.ofI (by decide) rfl (Nat.le_of_ble_eq_true rfl) ?_
  intro P0 E0 S0 M0 A0 B0 T0 C0 AA QQ XX hnm ret
  refine g_iload_n XX d_MO_match_0 rfl 1 rfl ?_
  refine g_if_lt (tgt := 12) XX d_MO_match_1 (by decide) ⟨by omega, by omega⟩ (fun h1 => ?_) (fun h1 => ?_)
  · -- 1: yes
    have hz : ¬ (0 ≤ i ∧ i ≤ m) := by omega
    refine g_iconst XX d_MO_match_12 ?_
    exact ret _ _ _ _ [cO y 5 [.int (iI t), .ref b1, .int (iI n), .ref b2, .ref b3, .int (iI m), .ref b4, .ref b5, .ref b6, .ref b7], cR b2 cA 96 f2, cR b4 cA 96 f4] [0, 1, 2] d_MO_match_13 (by decide) rfl (⟨by rw [if_neg hz], rfl⟩)
  · -- 1: no
    refine g_iload_n XX d_MO_match_4 rfl 1 rfl ?_
    refine g_aload_n XX d_MO_match_5 rfl 0 rfl ?_
    refine g_get (C := R_MO) (T := T_MO) (N := 10) XX (tmw win0_MO) 0 rfl rfl 5 (by decide) (tm kw_141) rfl rfl d_MO_match_6 ?_
    refine g_icmp_le (tgt := 14) XX d_MO_match_9 (by decide) ⟨by omega, by omega⟩ ⟨by omega, by omega⟩ (fun h9 => ?_) (fun h9 => ?_)
    · -- 9: yes
      have hz : 0 ≤ i ∧ i ≤ m := by omega
      refine g_iconst XX d_MO_match_14 ?_
      refine g_istore_n (lv' := [(2, .int (iI 0)), (0, .ref y), (1, .int (iI i))]) XX d_MO_match_15 rfl (by decide) rfl ?_
      refine g_iconst XX d_MO_match_16 ?_
      refine g_istore_n (lv' := [(3, .int (iI 0)), (2, .int (iI 0)), (0, .ref y), (1, .int (iI i))]) XX d_MO_match_17 rfl (by decide) rfl ?_
      have L18 : ∀ (k_18 : Nat) (b0 : Int) (p0 : Int), (0 ≤ p0 ∧ p0 ≤ n + 1) → (b0 = mx (fun q => al Pt m X n i q) p0) → (n + 1 - p0).toNat = k_18 → xG P0 l E0 rm_M_match S0 M0 A0 B0 T0 C0 QQ 5 D vwCl AA 0 0 [cO y 5 [.int (iI t), .ref b1, .int (iI n), .ref b2, .ref b3, .int (iI m), .ref b4, .ref b5, .ref b6, .ref b7], cR b2 cA 96 f2, cR b4 cA 96 f4] 18 [(3, .int (iI p0)), (2, .int (iI b0)), (0, .ref y), (1, .int (iI i))] [] := by
        refine x_ind (fun k_18 ih_18 b0 p0 h1 h2 hk_18 => ?_)
        refine g_iload_n XX d_MO_match_18 rfl 0 rfl ?_
        refine g_aload_n XX d_MO_match_19 rfl 2 rfl ?_
        refine g_get (C := R_MO) (T := T_MO) (N := 10) XX (tmw win0_MO) 0 rfl rfl 2 (by decide) (tm kw_119) rfl rfl d_MO_match_20 ?_
        refine g_icmp_gt (tgt := 53) XX d_MO_match_23 (by decide) ⟨by omega, by omega⟩ ⟨by omega, by omega⟩ (fun h23 => ?_) (fun h23 => ?_)
        · -- 23: yes
          refine g_iload_n XX d_MO_match_53 rfl 1 rfl ?_
          exact ret _ _ _ _ [cO y 5 [.int (iI t), .ref b1, .int (iI n), .ref b2, .ref b3, .int (iI m), .ref b4, .ref b5, .ref b6, .ref b7], cR b2 cA 96 f2, cR b4 cA 96 f4] [0, 1, 2] d_MO_match_54 (by decide) rfl (⟨by rw [if_pos hz, h2, show p0 = n + 1 by omega], rfl⟩)
        · -- 23: no
          refine g_aload_n XX d_MO_match_26 rfl 2 rfl ?_
          refine g_iload_n XX d_MO_match_27 rfl 0 rfl ?_
          refine g_iload_n XX d_MO_match_28 rfl 3 rfl ?_
          refine g_calli (As := [.int (iI p0), .int (iI i)]) (st := []) (wr := []) XX (c_M_fits l D cA y b1 b2 b3 b4 b5 b6 b7 f2 X f4 Pt t n m p0 i (by first | assumption | omega) (by first | assumption | omega) (by first | assumption | omega) (by first | assumption | omega) (by first | assumption | omega) (by first | assumption | omega) (by first | assumption | omega)) (x_cw 2 XX.2.2.2.2.1 (gi kw_142) rfl rfl (tm kw_123) (tm kw_143) (tm kw_144) (tm kw_145) ⟨by decide +kernel, by decide +kernel, by decide +kernel⟩ ⟨by decide, by decide⟩) [0, 1, 2] [] rfl rfl (by decide) (by decide) (by decide) 0 5 rfl rfl rfl rfl (Nat.le_of_ble_eq_true rfl) d_MO_match_29 ⟨by decide, by decide⟩ (fun r_ w_ hq => ?_)
          obtain ⟨rfl, rfl⟩ := hq
          show xG P0 l E0 rm_M_match S0 M0 A0 B0 T0 C0 QQ 5 D vwCl AA 0 0 [cO y 5 [.int (iI t), .ref b1, .int (iI n), .ref b2, .ref b3, .int (iI m), .ref b4, .ref b5, .ref b6, .ref b7], cR b2 cA 96 f2, cR b4 cA 96 f4] 32 [(3, .int (iI p0)), (2, .int (iI b0)), (0, .ref y), (1, .int (iI i))] [.int (iI (al Pt m X n i p0))]
          refine g_istore (lv' := [(4, .int (iI (al Pt m X n i p0))), (3, .int (iI p0)), (2, .int (iI b0)), (0, .ref y), (1, .int (iI i))]) XX d_MO_match_32 (by decide) rfl ?_
          have q := mx_rng (F := fun q => al Pt m X n i q) (n := n + 1) (B := 96) (by omega) (fun j a b => by have := al_rng (f := Pt) (n := m) (g := X) (m := n) (p := i) (q := j) (by omega) (by omega); show al Pt m X n i j ≤ 96; omega) p0 (by omega) (by omega)
          have g := al_rng (f := Pt) (n := m) (g := X) (m := n) (p := i) (q := p0) (by omega) (by omega)
          refine g_iload XX d_MO_match_34 0 rfl ?_
          refine g_iload_n XX d_MO_match_36 rfl 2 rfl ?_
          refine g_icmp_le (tgt := 45) XX d_MO_match_37 (by decide) ⟨by omega, by omega⟩ ⟨by omega, by omega⟩ (fun h37 => ?_) (fun h37 => ?_)
          · -- 37: yes
            refine g_iload_n XX d_MO_match_45 rfl 2 rfl ?_
            refine g_istore_n (lv' := [(2, .int (iI b0)), (4, .int (iI (al Pt m X n i p0))), (3, .int (iI p0)), (0, .ref y), (1, .int (iI i))]) XX d_MO_match_46 rfl (by decide) rfl ?_
            refine g_iinc (lv' := [(3, .int (iI (p0 + 1))), (2, .int (iI b0)), (4, .int (iI (al Pt m X n i p0))), (0, .ref y), (1, .int (iI i))]) XX d_MO_match_47 2 rfl (by decide) rfl ?_
            refine g_goto (tgt := 18) XX d_MO_match_50 (by decide) ?_
            refine g_lv (lv' := [(3, .int (iI (p0 + 1))), (2, .int (iI b0)), (0, .ref y), (1, .int (iI i))]) [0, 1, 3, 4] rfl ?_
            exact ih_18 _ (by omega) b0 (p0 + 1) (by omega) (by rw [mx_s (by omega), ← h2]; show _ = max b0 (al Pt m X n i p0); omega) rfl
          · -- 37: no
            refine g_iload XX d_MO_match_40 0 rfl ?_
            refine g_goto (tgt := 46) XX d_MO_match_42 (by decide) ?_
            refine g_istore_n (lv' := [(2, .int (iI (al Pt m X n i p0))), (4, .int (iI (al Pt m X n i p0))), (3, .int (iI p0)), (0, .ref y), (1, .int (iI i))]) XX d_MO_match_46 rfl (by decide) rfl ?_
            refine g_iinc (lv' := [(3, .int (iI (p0 + 1))), (2, .int (iI (al Pt m X n i p0))), (4, .int (iI (al Pt m X n i p0))), (0, .ref y), (1, .int (iI i))]) XX d_MO_match_47 2 rfl (by decide) rfl ?_
            refine g_goto (tgt := 18) XX d_MO_match_50 (by decide) ?_
            refine g_lv (lv' := [(3, .int (iI (p0 + 1))), (2, .int (iI (al Pt m X n i p0))), (0, .ref y), (1, .int (iI i))]) [0, 1, 3, 4] rfl ?_
            exact ih_18 _ (by omega) (al Pt m X n i p0) (p0 + 1) (by omega) (by rw [mx_s (by omega), ← h2]; show _ = max b0 (al Pt m X n i p0); omega) rfl
      exact L18 _ 0 0 (by omega) (rfl) rfl
    · -- 9: no
      have hz : ¬ (0 ≤ i ∧ i ≤ m) := by omega
      refine g_iconst XX d_MO_match_12 ?_
      exact ret _ _ _ _ [cO y 5 [.int (iI t), .ref b1, .int (iI n), .ref b2, .ref b3, .int (iI m), .ref b4, .ref b5, .ref b6, .ref b7], cR b2 cA 96 f2, cR b4 cA 96 f4] [0, 1, 2] d_MO_match_13 (by decide) rfl (⟨by rw [if_neg hz], rfl⟩)
end
section
abbrev rm_M_longer : Room := { frames := 0, cells := 0, slots := 0, locals := 0 }
set_option maxHeartbeats 4000000 in
set_option maxRecDepth 100000 in
theorem c_M_longer (l : Launch) (D : va_G) (cA : ClassId) (y b1 b2 b3 b4 b5 b6 b7 : Nat) (f6 C : Int → Int) (t n m N k0 r0 : Int) (hN : 0 ≤ N ∧ N ≤ 96) (hc : cok C N k0) (hg : ag f6 (fun j => ps (C j)) (N + 1)) (hr : 0 ≤ r0 ∧ r0 ≤ N ∧ C r0 ≠ -2) : xM l y_MO_longer w_MO_longer rm_M_longer D vwCl [(cA, .int)] [.ref y, .int (iI r0), .int (iI (N + 1))] [cO y 5 [.int (iI t), .ref b1, .int (iI n), .ref b2, .ref b3, .int (iI m), .ref b4, .ref b5, .ref b6, .ref b7], cR b6 cA 97 f6] (fun r w => r = iI (lf C N r0) ∧ w = [cO y 5 [.int (iI t), .ref b1, .int (iI n), .ref b2, .ref b3, .int (iI m), .ref b4, .ref b5, .ref b6, .ref b7], cR b6 cA 97 f6]) 0 0 := by
  refine xM.ofI (by decide) rfl (Nat.le_of_ble_eq_true rfl) ?_
  intro P0 E0 S0 M0 A0 B0 T0 C0 AA QQ XX hnm ret
  refine g_iconst XX d_MO_longer_0 ?_
  refine g_istore_n (lv' := [(3, .int (iI 1)), (0, .ref y), (1, .int (iI r0)), (2, .int (iI (N + 1)))]) XX d_MO_longer_1 rfl (by decide) rfl ?_
  refine g_iconst XX d_MO_longer_2 ?_
  refine g_istore (lv' := [(4, .int (iI 0)), (3, .int (iI 1)), (0, .ref y), (1, .int (iI r0)), (2, .int (iI (N + 1)))]) XX d_MO_longer_3 (by decide) rfl ?_
  have L5 : ∀ (k_5 : Nat) (c0 : Int) (o0 : Int), (0 ≤ o0 ∧ o0 ≤ N + 1) → (c0 = 1 + cnt (fun o => decide (0 ≤ C o) && lfb C r0 o) o0) → (N + 1 - o0).toNat = k_5 → xG P0 l E0 rm_M_longer S0 M0 A0 B0 T0 C0 QQ 5 D vwCl AA 0 0 [cO y 5 [.int (iI t), .ref b1, .int (iI n), .ref b2, .ref b3, .int (iI m), .ref b4, .ref b5, .ref b6, .ref b7], cR b6 cA 97 f6] 5 [(4, .int (iI o0)), (3, .int (iI c0)), (0, .ref y), (1, .int (iI r0)), (2, .int (iI (N + 1)))] [] := by
    refine x_ind (fun k_5 ih_5 c0 o0 h1 h2 hk_5 => ?_)
    refine g_iload XX d_MO_longer_5 0 rfl ?_
    refine g_iload_n XX d_MO_longer_7 rfl 4 rfl ?_
    refine g_icmp_ge (tgt := 73) XX d_MO_longer_8 (by decide) ⟨by omega, by omega⟩ ⟨by omega, by omega⟩ (fun h8 => ?_) (fun h8 => ?_)
    · -- 8: yes
      refine g_iload_n XX d_MO_longer_73 rfl 1 rfl ?_
      exact ret _ _ _ _ [cO y 5 [.int (iI t), .ref b1, .int (iI n), .ref b2, .ref b3, .int (iI m), .ref b4, .ref b5, .ref b6, .ref b7], cR b6 cA 97 f6] [0, 1] d_MO_longer_74 (by decide) rfl (⟨by rw [lf_lon hc (by omega) (by omega) (fun z => hr.2.2 (by rw [z]; exact hc.2.2.1)), h2, show o0 = N + 1 by omega], rfl⟩)
    · -- 8: no
      refine g_iload_n XX d_MO_longer_11 rfl 1 rfl ?_
      refine g_aload_n XX d_MO_longer_12 rfl 2 rfl ?_
      refine g_get (C := R_MO) (T := T_MO) (N := 10) XX (tmw win0_MO) 0 rfl rfl 8 (by decide) (tm kw_115) rfl rfl d_MO_longer_13 ?_
      refine g_iload XX d_MO_longer_16 0 rfl ?_
      refine g_iald XX 1 0 rfl rfl ⟨by omega, by omega, by decide⟩ d_MO_longer_18 ?_
      have e1 : f6 o0 = ps (C o0) := hg o0 (by omega) (by omega)
      have e2 : f6 r0 = ps (C r0) := hg r0 (by omega) (by omega)
      have q1 := ps_c (C o0)
      have q2 := ps_c (C r0)
      have w1 := cok_val hc (j := o0) (by omega) (by omega)
      have w2 := cok_val hc (j := r0) (by omega) (by omega)
      refine g_if_lt (tgt := 64) XX d_MO_longer_19 (by decide) ⟨by omega, by omega⟩ (fun h19 => ?_) (fun h19 => ?_)
      · -- 19: yes
        have hz : (decide (0 ≤ C o0) && lfb C r0 o0) = false := by rw [← Bool.not_eq_true]; simp only [lfb, Bool.and_eq_true, decide_eq_true_eq]; omega
        refine g_iconst XX d_MO_longer_64 ?_
        refine g_iadd XX d_MO_longer_65 ?_
        refine g_istore_n (lv' := [(3, .int (iI (c0 + 0))), (4, .int (iI o0)), (0, .ref y), (1, .int (iI r0)), (2, .int (iI (N + 1)))]) XX d_MO_longer_66 rfl (by decide) rfl ?_
        refine g_iinc (lv' := [(4, .int (iI (o0 + 1))), (3, .int (iI (c0 + 0))), (0, .ref y), (1, .int (iI r0)), (2, .int (iI (N + 1)))]) XX d_MO_longer_67 1 rfl (by decide) rfl ?_
        refine g_goto (tgt := 5) XX d_MO_longer_70 (by decide) ?_
        exact ih_5 _ (by omega) (c0 + 0) (o0 + 1) (by omega) (by first | (rw [cnt_y (P := (fun o => decide (0 ≤ C o) && lfb C r0 o)) (by omega) hz]; omega) | (rw [cnt_n (P := (fun o => decide (0 ≤ C o) && lfb C r0 o)) (by omega) hz]; omega)) rfl
      · -- 19: no
        refine g_aload_n XX d_MO_longer_22 rfl 2 rfl ?_
        refine g_get (C := R_MO) (T := T_MO) (N := 10) XX (tmw win0_MO) 0 rfl rfl 8 (by decide) (tm kw_115) rfl rfl d_MO_longer_23 ?_
        refine g_iload XX d_MO_longer_26 0 rfl ?_
        refine g_iald XX 1 0 rfl rfl ⟨by omega, by omega, by decide⟩ d_MO_longer_28 ?_
        refine g_aload_n XX d_MO_longer_29 rfl 2 rfl ?_
        refine g_get (C := R_MO) (T := T_MO) (N := 10) XX (tmw win0_MO) 0 rfl rfl 8 (by decide) (tm kw_115) rfl rfl d_MO_longer_30 ?_
        refine g_iload_n XX d_MO_longer_33 rfl 3 rfl ?_
        refine g_iald XX 1 0 rfl rfl ⟨by omega, by omega, by decide⟩ d_MO_longer_34 ?_
        refine g_icmp_lt (tgt := 60) XX d_MO_longer_35 (by decide) ⟨by omega, by omega⟩ ⟨by omega, by omega⟩ (fun h35 => ?_) (fun h35 => ?_)
        · -- 35: yes
          have hz : (decide (0 ≤ C o0) && lfb C r0 o0) = true := by simp only [lfb, Bool.and_eq_true, decide_eq_true_eq]; omega
          refine g_iconst XX d_MO_longer_60 ?_
          refine g_goto (tgt := 65) XX d_MO_longer_61 (by decide) ?_
          refine g_iadd XX d_MO_longer_65 ?_
          refine g_istore_n (lv' := [(3, .int (iI (c0 + 1))), (4, .int (iI o0)), (0, .ref y), (1, .int (iI r0)), (2, .int (iI (N + 1)))]) XX d_MO_longer_66 rfl (by decide) rfl ?_
          refine g_iinc (lv' := [(4, .int (iI (o0 + 1))), (3, .int (iI (c0 + 1))), (0, .ref y), (1, .int (iI r0)), (2, .int (iI (N + 1)))]) XX d_MO_longer_67 1 rfl (by decide) rfl ?_
          refine g_goto (tgt := 5) XX d_MO_longer_70 (by decide) ?_
          exact ih_5 _ (by omega) (c0 + 1) (o0 + 1) (by omega) (by first | (rw [cnt_y (P := (fun o => decide (0 ≤ C o) && lfb C r0 o)) (by omega) hz]; omega) | (rw [cnt_n (P := (fun o => decide (0 ≤ C o) && lfb C r0 o)) (by omega) hz]; omega)) rfl
        · -- 35: no
          refine g_aload_n XX d_MO_longer_38 rfl 2 rfl ?_
          refine g_get (C := R_MO) (T := T_MO) (N := 10) XX (tmw win0_MO) 0 rfl rfl 8 (by decide) (tm kw_115) rfl rfl d_MO_longer_39 ?_
          refine g_iload XX d_MO_longer_42 0 rfl ?_
          refine g_iald XX 1 0 rfl rfl ⟨by omega, by omega, by decide⟩ d_MO_longer_44 ?_
          refine g_aload_n XX d_MO_longer_45 rfl 2 rfl ?_
          refine g_get (C := R_MO) (T := T_MO) (N := 10) XX (tmw win0_MO) 0 rfl rfl 8 (by decide) (tm kw_115) rfl rfl d_MO_longer_46 ?_
          refine g_iload_n XX d_MO_longer_49 rfl 3 rfl ?_
          refine g_iald XX 1 0 rfl rfl ⟨by omega, by omega, by decide⟩ d_MO_longer_50 ?_
          refine g_icmp_ne (tgt := 64) XX d_MO_longer_51 (by decide) ⟨by omega, by omega⟩ ⟨by omega, by omega⟩ (fun h51 => ?_) (fun h51 => ?_)
          · -- 51: yes
            have hz : (decide (0 ≤ C o0) && lfb C r0 o0) = false := by rw [← Bool.not_eq_true]; simp only [lfb, Bool.and_eq_true, decide_eq_true_eq]; omega
            refine g_iconst XX d_MO_longer_64 ?_
            refine g_iadd XX d_MO_longer_65 ?_
            refine g_istore_n (lv' := [(3, .int (iI (c0 + 0))), (4, .int (iI o0)), (0, .ref y), (1, .int (iI r0)), (2, .int (iI (N + 1)))]) XX d_MO_longer_66 rfl (by decide) rfl ?_
            refine g_iinc (lv' := [(4, .int (iI (o0 + 1))), (3, .int (iI (c0 + 0))), (0, .ref y), (1, .int (iI r0)), (2, .int (iI (N + 1)))]) XX d_MO_longer_67 1 rfl (by decide) rfl ?_
            refine g_goto (tgt := 5) XX d_MO_longer_70 (by decide) ?_
            exact ih_5 _ (by omega) (c0 + 0) (o0 + 1) (by omega) (by first | (rw [cnt_y (P := (fun o => decide (0 ≤ C o) && lfb C r0 o)) (by omega) hz]; omega) | (rw [cnt_n (P := (fun o => decide (0 ≤ C o) && lfb C r0 o)) (by omega) hz]; omega)) rfl
          · -- 51: no
            refine g_iload XX d_MO_longer_54 0 rfl ?_
            refine g_iload_n XX d_MO_longer_56 rfl 3 rfl ?_
            refine g_icmp_ge (tgt := 64) XX d_MO_longer_57 (by decide) ⟨by omega, by omega⟩ ⟨by omega, by omega⟩ (fun h57 => ?_) (fun h57 => ?_)
            · -- 57: yes
              have hz : (decide (0 ≤ C o0) && lfb C r0 o0) = false := by rw [← Bool.not_eq_true]; simp only [lfb, Bool.and_eq_true, decide_eq_true_eq]; omega
              refine g_iconst XX d_MO_longer_64 ?_
              refine g_iadd XX d_MO_longer_65 ?_
              refine g_istore_n (lv' := [(3, .int (iI (c0 + 0))), (4, .int (iI o0)), (0, .ref y), (1, .int (iI r0)), (2, .int (iI (N + 1)))]) XX d_MO_longer_66 rfl (by decide) rfl ?_
              refine g_iinc (lv' := [(4, .int (iI (o0 + 1))), (3, .int (iI (c0 + 0))), (0, .ref y), (1, .int (iI r0)), (2, .int (iI (N + 1)))]) XX d_MO_longer_67 1 rfl (by decide) rfl ?_
              refine g_goto (tgt := 5) XX d_MO_longer_70 (by decide) ?_
              exact ih_5 _ (by omega) (c0 + 0) (o0 + 1) (by omega) (by first | (rw [cnt_y (P := (fun o => decide (0 ≤ C o) && lfb C r0 o)) (by omega) hz]; omega) | (rw [cnt_n (P := (fun o => decide (0 ≤ C o) && lfb C r0 o)) (by omega) hz]; omega)) rfl
            · -- 57: no
              have hz : (decide (0 ≤ C o0) && lfb C r0 o0) = true := by simp only [lfb, Bool.and_eq_true, decide_eq_true_eq]; omega
              refine g_iconst XX d_MO_longer_60 ?_
              refine g_goto (tgt := 65) XX d_MO_longer_61 (by decide) ?_
              refine g_iadd XX d_MO_longer_65 ?_
              refine g_istore_n (lv' := [(3, .int (iI (c0 + 1))), (4, .int (iI o0)), (0, .ref y), (1, .int (iI r0)), (2, .int (iI (N + 1)))]) XX d_MO_longer_66 rfl (by decide) rfl ?_
              refine g_iinc (lv' := [(4, .int (iI (o0 + 1))), (3, .int (iI (c0 + 1))), (0, .ref y), (1, .int (iI r0)), (2, .int (iI (N + 1)))]) XX d_MO_longer_67 1 rfl (by decide) rfl ?_
              refine g_goto (tgt := 5) XX d_MO_longer_70 (by decide) ?_
              exact ih_5 _ (by omega) (c0 + 1) (o0 + 1) (by omega) (by first | (rw [cnt_y (P := (fun o => decide (0 ≤ C o) && lfb C r0 o)) (by omega) hz]; omega) | (rw [cnt_n (P := (fun o => decide (0 ≤ C o) && lfb C r0 o)) (by omega) hz]; omega)) rfl
  exact L5 _ 1 0 (by omega) (by rw [cnt_0 (by omega)]; omega) rfl
abbrev rm_M_turn : Room := { frames := 1, cells := 0, slots := 0, locals := 24 }
set_option maxHeartbeats 4000000 in
set_option maxRecDepth 100000 in
theorem c_M_turn (l : Launch) (D : va_G) (cA : ClassId) (y b1 b2 b3 b4 b5 b6 b7 : Nat) (f2 f6 C : Int → Int) (t n m N k0 : Int) (hN : 0 ≤ N ∧ N ≤ 96) (hc : cok C N k0) (hg : ag f6 (fun j => ps (C j)) (N + 1)) : xM l y_MO_turnBack w_MO_turnBack rm_M_turn D vwCl [(cA, .int)] [.ref y, .int (iI N)] [cO y 5 [.int (iI t), .ref b1, .int (iI n), .ref b2, .ref b3, .int (iI m), .ref b4, .ref b5, .ref b6, .ref b7], cR b2 cA 96 f2, cR b6 cA 97 f6] (fun r w => ∃ (z : Int), ∃ (f2' : Int → Int), r = iI z ∧ w = [cO y 5 [.int (iI t), .ref b1, .int (iI n), .ref b2, .ref b3, .int (iI m), .ref b4, .ref b5, .ref b6, .ref b7], cR b2 cA 96 f2', cR b6 cA 97 f6] ∧ ((z = 1 ∧ wgood C N ∧ ag f2' (xt C N) N) ∨ (z = 0 ∧ ¬ wgood C N))) 0 0 := by
  refine xM.ofZ (by decide) rfl (Nat.le_of_ble_eq_true rfl) ?_
  intro P0 E0 S0 M0 A0 B0 T0 C0 AA QQ XX hnm ret
  refine g_iconst XX d_MO_turnBack_0 ?_
  refine g_istore_n (lv' := [(2, .int (iI 0)), (0, .ref y), (1, .int (iI N))]) XX d_MO_turnBack_1 rfl (by decide) rfl ?_
  refine g_iload_n XX d_MO_turnBack_2 rfl 2 rfl ?_
  refine g_iconst XX d_MO_turnBack_3 ?_
  refine g_isub XX d_MO_turnBack_4 ?_
  refine g_istore_n (lv' := [(3, .int (iI (N - 1))), (2, .int (iI 0)), (0, .ref y), (1, .int (iI N))]) XX d_MO_turnBack_5 rfl (by decide) rfl ?_
  have L6 : ∀ (k_6 : Nat) (r1 : Int) (p0 : Int) (f22 : Int → Int), (-1 ≤ p0 ∧ p0 ≤ N - 1) → (r1 = wk C N (N - 1 - p0)) → (∀ j, p0 < j → j < N → f22 j = xt C N j) → (∀ i, 0 ≤ i → i < N - 1 - p0 → C (wk C N i) ≠ -2) → (p0 + 1).toNat = k_6 → xG P0 l E0 rm_M_turn S0 M0 A0 B0 T0 C0 QQ 4 D vwCl AA 0 0 [cO y 5 [.int (iI t), .ref b1, .int (iI n), .ref b2, .ref b3, .int (iI m), .ref b4, .ref b5, .ref b6, .ref b7], cR b2 cA 96 f22, cR b6 cA 97 f6] 6 [(3, .int (iI p0)), (2, .int (iI r1)), (0, .ref y), (1, .int (iI N))] [] := by
    refine x_ind (fun k_6 ih_6 r1 p0 f22 h1 h2 h3 h4 hk_6 => ?_)
    refine g_iload_n XX d_MO_turnBack_6 rfl 0 rfl ?_
    refine g_if_lt (tgt := 48) XX d_MO_turnBack_7 (by decide) ⟨by omega, by omega⟩ (fun h7 => ?_) (fun h7 => ?_)
    · -- 7: yes
      have hgood : wgood C N := fun i a b => h4 i a (by omega)
      have hk1 := (wk_col (by omega) hc hgood).2.1
      have hr1 : r1 = k0 := by rw [h2, show N - 1 - p0 = N by omega]; exact hk1
      have hk2 := hc.1
      have hk3 := hc.2.1
      have e1 : f6 r1 = ps (C r1) := hg r1 (by omega) (by omega)
      have hv : C r1 = -2 := by rw [hr1]; exact hc.2.2.1
      have q1 := ps_c (C r1)
      refine g_aload_n XX d_MO_turnBack_48 rfl 2 rfl ?_
      refine g_get (C := R_MO) (T := T_MO) (N := 10) XX (tmw win0_MO) 0 rfl rfl 8 (by decide) (tm kw_115) rfl rfl d_MO_turnBack_49 ?_
      refine g_iload_n XX d_MO_turnBack_52 rfl 1 rfl ?_
      refine g_iald XX 2 0 rfl rfl ⟨by omega, by omega, by decide⟩ d_MO_turnBack_53 ?_
      refine g_if_ge (tgt := 61) XX d_MO_turnBack_54 (by decide) ⟨by omega, by omega⟩ (fun h54 => by exfalso; omega) (fun h54 => ?_)
      refine g_iconst XX d_MO_turnBack_57 ?_
      refine g_goto (tgt := 62) XX d_MO_turnBack_58 (by decide) ?_
      exact ret _ _ _ _ [cO y 5 [.int (iI t), .ref b1, .int (iI n), .ref b2, .ref b3, .int (iI m), .ref b4, .ref b5, .ref b6, .ref b7], cR b2 cA 96 f22, cR b6 cA 97 f6] [0, 1, 2] (by first | exact Or.inl rfl | exact Or.inr rfl) d_MO_turnBack_62 (by decide) rfl (⟨1, f22, rfl, rfl, Or.inl ⟨rfl, hgood, fun j a b => h3 j (by omega) b⟩⟩)
    · -- 7: no
      have rr := wk_rng (col := C) (N := N) (by omega) (N - 1 - p0) (by omega)
      have e1 : f6 r1 = ps (C r1) := hg r1 (by omega) (by omega)
      have q1 := ps_c (C r1)
      have w1 := cok_val hc (j := r1) (by omega) (by omega)
      refine g_aload_n XX d_MO_turnBack_10 rfl 2 rfl ?_
      refine g_get (C := R_MO) (T := T_MO) (N := 10) XX (tmw win0_MO) 0 rfl rfl 8 (by decide) (tm kw_115) rfl rfl d_MO_turnBack_11 ?_
      refine g_iload_n XX d_MO_turnBack_14 rfl 1 rfl ?_
      refine g_iald XX 2 0 rfl rfl ⟨by omega, by omega, by decide⟩ d_MO_turnBack_15 ?_
      refine g_if_ge (tgt := 21) XX d_MO_turnBack_16 (by decide) ⟨by omega, by omega⟩ (fun h16 => ?_) (fun h16 => ?_)
      · -- 16: yes
        have ev : f6 r1 = C r1 := by omega
        refine g_aload_n XX d_MO_turnBack_21 rfl 2 rfl ?_
        refine g_get (C := R_MO) (T := T_MO) (N := 10) XX (tmw win0_MO) 0 rfl rfl 3 (by decide) (tm kw_111) rfl rfl d_MO_turnBack_22 ?_
        refine g_iload_n XX d_MO_turnBack_25 rfl 0 rfl ?_
        refine g_aload_n XX d_MO_turnBack_26 rfl 2 rfl ?_
        refine g_get (C := R_MO) (T := T_MO) (N := 10) XX (tmw win0_MO) 0 rfl rfl 8 (by decide) (tm kw_115) rfl rfl d_MO_turnBack_27 ?_
        refine g_iload_n XX d_MO_turnBack_30 rfl 1 rfl ?_
        refine g_iald XX 2 0 rfl rfl ⟨by omega, by omega, by decide⟩ d_MO_turnBack_31 ?_
        refine g_iast (ws' := [cO y 5 [.int (iI t), .ref b1, .int (iI n), .ref b2, .ref b3, .int (iI m), .ref b4, .ref b5, .ref b6, .ref b7], cR b2 cA 96 (iup f22 p0 (f6 r1)), cR b6 cA 97 f6]) XX 1 0 rfl rfl ⟨by omega, by omega, by decide⟩ rfl d_MO_turnBack_32 ?_
        refine g_aload_n XX d_MO_turnBack_33 rfl 2 rfl ?_
        refine g_iload_n XX d_MO_turnBack_34 rfl 1 rfl ?_
        refine g_iload_n XX d_MO_turnBack_35 rfl 3 rfl ?_
        refine g_iconst XX d_MO_turnBack_36 ?_
        refine g_iadd XX d_MO_turnBack_37 ?_
        refine g_calli (As := [.int (iI r1), .int (iI (N + 1))]) (st := []) (wr := [cR b2 cA 96 (iup f22 p0 (f6 r1))]) XX (c_M_longer l D cA y b1 b2 b3 b4 b5 b6 b7 f6 C t n m N k0 r1 (by first | assumption | omega) (by first | assumption | omega) (by first | assumption | omega) (by first | assumption | omega)) (x_cw 2 XX.2.2.2.2.1 (gi kw_150) rfl rfl (tm kw_123) (tm kw_151) (tm kw_152) (tm kw_153) ⟨by decide +kernel, by decide +kernel, by decide +kernel⟩ ⟨by decide, by decide⟩) [0, 2] [1] rfl rfl (by decide) (by decide) (by decide) 0 5 rfl rfl rfl rfl (Nat.le_of_ble_eq_true rfl) d_MO_turnBack_38 ⟨by decide, by decide⟩ (fun r_ w_ hq => ?_)
        obtain ⟨rfl, rfl⟩ := hq
        show xG P0 l E0 rm_M_turn S0 M0 A0 B0 T0 C0 QQ 4 D vwCl AA 0 0 [cR b2 cA 96 (iup f22 p0 (f6 r1)), cO y 5 [.int (iI t), .ref b1, .int (iI n), .ref b2, .ref b3, .int (iI m), .ref b4, .ref b5, .ref b6, .ref b7], cR b6 cA 97 f6] 41 [(3, .int (iI p0)), (2, .int (iI r1)), (0, .ref y), (1, .int (iI N))] [.int (iI (lf C N r1))]
        refine g_istore_n (lv' := [(2, .int (iI (lf C N r1))), (3, .int (iI p0)), (0, .ref y), (1, .int (iI N))]) XX d_MO_turnBack_41 rfl (by decide) rfl ?_
        refine g_iinc (lv' := [(3, .int (iI (p0 + (-1)))), (2, .int (iI (lf C N r1))), (0, .ref y), (1, .int (iI N))]) XX d_MO_turnBack_42 1 rfl (by decide) rfl ?_
        refine g_goto (tgt := 6) XX d_MO_turnBack_45 (by decide) ?_
        refine g_ws (ws' := [cO y 5 [.int (iI t), .ref b1, .int (iI n), .ref b2, .ref b3, .int (iI m), .ref b4, .ref b5, .ref b6, .ref b7], cR b2 cA 96 (iup f22 p0 (f6 r1)), cR b6 cA 97 f6]) [1, 0, 2] (by decide) rfl ?_
        exact ih_6 _ (by omega) (lf C N r1) (p0 + (-1)) (iup f22 p0 (f6 r1)) (by omega) (by rw [show N - 1 - (p0 + (-1)) = (N - 1 - p0) + 1 by omega, wk_s (by omega), h2]) (fun j a b => if z : j = p0 then by rw [iup_eq z, z, ev, h2]; rfl else by rw [iup_ne z]; exact h3 j (by omega) b) (fun i a b => if z : i = N - 1 - p0 then by rw [z, ← h2]; omega else h4 i a (by omega)) rfl
      · -- 16: no
        refine g_iconst XX d_MO_turnBack_19 ?_
        exact ret _ _ _ _ [cO y 5 [.int (iI t), .ref b1, .int (iI n), .ref b2, .ref b3, .int (iI m), .ref b4, .ref b5, .ref b6, .ref b7], cR b2 cA 96 f22, cR b6 cA 97 f6] [0, 1, 2] (by first | exact Or.inl rfl | exact Or.inr rfl) d_MO_turnBack_20 (by decide) rfl (⟨0, f22, rfl, rfl, Or.inr ⟨rfl, fun g => g (N - 1 - p0) (by omega) (by omega) (by rw [← h2]; omega)⟩⟩)
  exact L6 _ 0 (N - 1) f2 (by omega) (by rw [show N - 1 - (N - 1) = 0 by omega]; rfl) (fun j a b => by omega) (fun i a b => by omega) rfl
abbrev rm_M_revert : Room := { frames := 3, cells := 0, slots := 0, locals := 68 }
set_option maxHeartbeats 4000000 in
set_option maxRecDepth 100000 in
theorem c_M_revert (l : Launch) (D : va_G) (cA : ClassId) (y b1 b2 b3 b4 b5 b6 b7 : Nat) (f1 T f2 X f3 f6 f7 : Int → Int) (t n m i : Int) (ht : 0 ≤ t ∧ t ≤ 96) (hfT : ag f1 T t) (hbT : bt8 T t) (hn : 0 ≤ n ∧ n ≤ 96) (hfX : ag f2 X n) (hbX : bt8 X n) (hfO : ag f3 (og X n) (n + 1)) (hi : -2147483648 ≤ i ∧ i < 2147483648) : xM l y_MO_revert w_MO_revert rm_M_revert D vwCl [(cA, .int)] [.ref y, .int (iI i)] [cO y 5 [.int (iI t), .ref b1, .int (iI n), .ref b2, .ref b3, .int (iI m), .ref b4, .ref b5, .ref b6, .ref b7], cR b1 cA 96 f1, cR b2 cA 96 f2, cR b3 cA 97 f3, cR b6 cA 97 f6, cR b7 cA 96 f7] (fun r w => ∃ (z : Int), ∃ (t' : Int), ∃ (X' : Int → Int), ∃ (n' : Int), ∃ (f2' : Int → Int), ∃ (f3' : Int → Int), ∃ (f6' : Int → Int), ∃ (f7' : Int → Int), r = iI z ∧ w = [cO y 5 [.int (iI t'), .ref b1, .int (iI n'), .ref b2, .ref b3, .int (iI m), .ref b4, .ref b5, .ref b6, .ref b7], cR b1 cA 96 f1, cR b2 cA 96 f2', cR b3 cA 97 f3', cR b6 cA 97 f6', cR b7 cA 96 f7'] ∧ (ag f2' X' n' ∧ bt8 X' n' ∧ (0 ≤ n' ∧ n' ≤ 96) ∧ ag f3' (og X' n') (n' + 1)) ∧ (rvP T t X n i z t' X' n')) 0 0 := by
  refine xM.ofI (by decide) rfl (Nat.le_of_ble_eq_true rfl) ?_
  intro P0 E0 S0 M0 A0 B0 T0 C0 AA QQ XX hnm ret
  refine g_iload_n XX d_MO_revert_0 rfl 1 rfl ?_
  refine g_if_lt (tgt := 12) XX d_MO_revert_1 (by decide) ⟨by omega, by omega⟩ (fun h1 => ?_) (fun h1 => ?_)
  · -- 1: yes
    refine g_iconst XX d_MO_revert_12 ?_
    exact ret _ _ _ _ [cO y 5 [.int (iI t), .ref b1, .int (iI n), .ref b2, .ref b3, .int (iI m), .ref b4, .ref b5, .ref b6, .ref b7], cR b1 cA 96 f1, cR b2 cA 96 f2, cR b3 cA 97 f3, cR b6 cA 97 f6, cR b7 cA 96 f7] [0, 1, 2, 3, 4, 5] d_MO_revert_13 (by decide) rfl (⟨(-1), t, X, n, f2, f3, f6, f7, rfl, rfl, ⟨hfX, hbX, hn, hfO⟩, Or.inl ⟨by omega, rfl, rfl, rfl, rfl⟩⟩)
  · -- 1: no
    refine g_iload_n XX d_MO_revert_4 rfl 1 rfl ?_
    refine g_aload_n XX d_MO_revert_5 rfl 0 rfl ?_
    refine g_get (C := R_MO) (T := T_MO) (N := 10) XX (tmw win0_MO) 0 rfl rfl 0 (by decide) (tm kw_117) rfl rfl d_MO_revert_6 ?_
    refine g_icmp_le (tgt := 14) XX d_MO_revert_9 (by decide) ⟨by omega, by omega⟩ ⟨by omega, by omega⟩ (fun h9 => ?_) (fun h9 => ?_)
    · -- 9: yes
      refine g_aload_n XX d_MO_revert_14 rfl 0 rfl ?_
      refine g_get (C := R_MO) (T := T_MO) (N := 10) XX (tmw win0_MO) 0 rfl rfl 0 (by decide) (tm kw_117) rfl rfl d_MO_revert_15 ?_
      refine g_istore_n (lv' := [(2, .int (iI t)), (0, .ref y), (1, .int (iI i))]) XX d_MO_revert_18 rfl (by decide) rfl ?_
      refine g_iconst XX d_MO_revert_19 ?_
      refine g_istore_n (lv' := [(3, .int (iI 0)), (2, .int (iI t)), (0, .ref y), (1, .int (iI i))]) XX d_MO_revert_20 rfl (by decide) rfl ?_
      have L21 : ∀ (k_21 : Nat) (r0 : Int) (f62 : Int → Int), (0 ≤ r0 ∧ r0 ≤ t + 1) → (ag f62 (fun j => ps (gv T i j)) r0) → (t + 1 - r0).toNat = k_21 → xG P0 l E0 rm_M_revert S0 M0 A0 B0 T0 C0 QQ 6 D vwCl AA 0 0 [cO y 5 [.int (iI t), .ref b1, .int (iI n), .ref b2, .ref b3, .int (iI m), .ref b4, .ref b5, .ref b6, .ref b7], cR b1 cA 96 f1, cR b2 cA 96 f2, cR b3 cA 97 f3, cR b6 cA 97 f62, cR b7 cA 96 f7] 21 [(3, .int (iI r0)), (2, .int (iI t)), (0, .ref y), (1, .int (iI i))] [] := by
        refine x_ind (fun k_21 ih_21 r0 f62 h1 h2 hk_21 => ?_)
        refine g_iload_n XX d_MO_revert_21 rfl 0 rfl ?_
        refine g_iload_n XX d_MO_revert_22 rfl 1 rfl ?_
        refine g_icmp_gt (tgt := 69) XX d_MO_revert_23 (by decide) ⟨by omega, by omega⟩ ⟨by omega, by omega⟩ (fun h23 => ?_) (fun h23 => ?_)
        · -- 23: yes
          have hgv : ag f62 (fun j => ps (gv T i j)) (t + 1) := ag_le h2 (by omega)
          have hck := gv_cok (T := T) (t := t) (k := i) hbT (by omega) (by omega)
          refine g_aload_n XX d_MO_revert_69 rfl 2 rfl ?_
          refine g_iconst XX d_MO_revert_70 ?_
          refine g_put (C := R_MO) (T := T_MO) (N := 10) (ty := (.int)) (ws' := [cO y 5 [.int (iI 0), .ref b1, .int (iI n), .ref b2, .ref b3, .int (iI m), .ref b4, .ref b5, .ref b6, .ref b7], cR b1 cA 96 f1, cR b2 cA 96 f2, cR b3 cA 97 f3, cR b6 cA 97 f62, cR b7 cA 96 f7]) XX (tmw win0_MO) ty_MO ok_MO nm_MO 0 rfl rfl 0 (by decide) (tm kw_117) rfl rfl (by decide +kernel) rfl rfl (Nat.le_of_ble_eq_true rfl) rfl d_MO_revert_71 ?_
          refine g_aload_n XX d_MO_revert_74 rfl 2 rfl ?_
          refine g_get (C := R_MO) (T := T_MO) (N := 10) XX (tmw win0_MO) 0 rfl rfl 2 (by decide) (tm kw_119) rfl rfl d_MO_revert_75 ?_
          refine g_istore_n (lv' := [(3, .int (iI n)), (2, .int (iI t)), (0, .ref y), (1, .int (iI i))]) XX d_MO_revert_78 rfl (by decide) rfl ?_
          refine g_iconst XX d_MO_revert_79 ?_
          refine g_istore (lv' := [(4, .int (iI 0)), (3, .int (iI n)), (2, .int (iI t)), (0, .ref y), (1, .int (iI i))]) XX d_MO_revert_80 (by decide) rfl ?_
          have L82 : ∀ (k_82 : Nat) (k0 : Int) (f72 : Int → Int), (0 ≤ k0 ∧ k0 ≤ n) → (ag f72 X k0) → (n - k0).toNat = k_82 → xG P0 l E0 rm_M_revert S0 M0 A0 B0 T0 C0 QQ 6 D vwCl AA 0 0 [cO y 5 [.int (iI 0), .ref b1, .int (iI n), .ref b2, .ref b3, .int (iI m), .ref b4, .ref b5, .ref b6, .ref b7], cR b1 cA 96 f1, cR b2 cA 96 f2, cR b3 cA 97 f3, cR b6 cA 97 f62, cR b7 cA 96 f72] 82 [(4, .int (iI k0)), (3, .int (iI n)), (2, .int (iI t)), (0, .ref y), (1, .int (iI i))] [] := by
            refine x_ind (fun k_82 ih_82 k0 f72 g1 g2 hk_82 => ?_)
            refine g_iload XX d_MO_revert_82 0 rfl ?_
            refine g_iload_n XX d_MO_revert_84 rfl 1 rfl ?_
            refine g_icmp_ge (tgt := 108) XX d_MO_revert_85 (by decide) ⟨by omega, by omega⟩ ⟨by omega, by omega⟩ (fun h85 => ?_) (fun h85 => ?_)
            · -- 85: yes
              have hold : ag f72 X n := ag_le g2 (by omega)
              refine g_aload_n XX d_MO_revert_108 rfl 3 rfl ?_
              refine g_iload_n XX d_MO_revert_109 rfl 2 rfl ?_
              refine g_put (C := R_MO) (T := T_MO) (N := 10) (ty := (.int)) (ws' := [cO y 5 [.int (iI 0), .ref b1, .int (iI t), .ref b2, .ref b3, .int (iI m), .ref b4, .ref b5, .ref b6, .ref b7], cR b1 cA 96 f1, cR b2 cA 96 f2, cR b3 cA 97 f3, cR b6 cA 97 f62, cR b7 cA 96 f72]) XX (tmw win0_MO) ty_MO ok_MO nm_MO 0 rfl rfl 2 (by decide) (tm kw_119) rfl rfl (by decide +kernel) rfl rfl (Nat.le_of_ble_eq_true rfl) rfl d_MO_revert_110 ?_
              refine g_aload_n XX d_MO_revert_113 rfl 3 rfl ?_
              refine g_iload_n XX d_MO_revert_114 rfl 2 rfl ?_
              refine g_calli (As := [.int (iI t)]) (st := []) (wr := [cR b1 cA 96 f1, cR b3 cA 97 f3, cR b7 cA 96 f72]) XX (c_M_turn l D cA y b1 b2 b3 b4 b5 b6 b7 f2 f62 (gv T i) 0 t m t i (by first | assumption | omega) (hck) (hgv)) (x_cw 1 XX.2.2.2.2.1 (gi kw_154) rfl rfl (tm kw_123) (tm kw_155) (tm kw_156) (tm kw_157) ⟨by decide +kernel, by decide +kernel, by decide +kernel⟩ ⟨by decide, by decide⟩) [0, 2, 4] [1, 3, 5] rfl rfl (by decide) (by decide) (by decide) 0 5 rfl rfl rfl rfl (Nat.le_of_ble_eq_true rfl) d_MO_revert_115 ⟨by decide, by decide⟩ (fun r_ w_ hq => ?_)
              obtain ⟨z1, f21, rfl, rfl, u115_0⟩ := hq
              show xG P0 l E0 rm_M_revert S0 M0 A0 B0 T0 C0 QQ 6 D vwCl AA 0 0 [cR b1 cA 96 f1, cR b3 cA 97 f3, cR b7 cA 96 f72, cO y 5 [.int (iI 0), .ref b1, .int (iI t), .ref b2, .ref b3, .int (iI m), .ref b4, .ref b5, .ref b6, .ref b7], cR b2 cA 96 f21, cR b6 cA 97 f62] 118 [(4, .int (iI k0)), (3, .int (iI n)), (2, .int (iI t)), (0, .ref y), (1, .int (iI i))] [.int (iI z1)]
              have hzz : z1 = 0 ∨ z1 = 1 := u115_0.elim (fun g => Or.inr g.1) (fun g => Or.inl g.1)
              refine g_istore (lv' := [(4, .int (iI z1)), (3, .int (iI n)), (2, .int (iI t)), (0, .ref y), (1, .int (iI i))]) XX d_MO_revert_118 (by decide) rfl ?_
              refine g_iload XX d_MO_revert_120 0 rfl ?_
              refine g_if_eq (tgt := 129) XX d_MO_revert_122 (by decide) ⟨by omega, by omega⟩ (fun h122 => ?_) (fun h122 => ?_)
              · -- 122: yes
                refine g_iconst XX d_MO_revert_129 ?_
                refine g_istore (lv' := [(5, .int (iI 0)), (4, .int (iI z1)), (3, .int (iI n)), (2, .int (iI t)), (0, .ref y), (1, .int (iI i))]) XX d_MO_revert_130 (by decide) rfl ?_
                have L132 : ∀ (k_132 : Nat) (gd : Int) (r5 : Int), (0 ≤ r5 ∧ r5 ≤ t + 1) → (gd = z1) → (t + 1 - r5).toNat = k_132 → xG P0 l E0 rm_M_revert S0 M0 A0 B0 T0 C0 QQ 6 D vwCl AA 0 0 [cR b1 cA 96 f1, cR b3 cA 97 f3, cR b7 cA 96 f72, cO y 5 [.int (iI 0), .ref b1, .int (iI t), .ref b2, .ref b3, .int (iI m), .ref b4, .ref b5, .ref b6, .ref b7], cR b2 cA 96 f21, cR b6 cA 97 f62] 132 [(5, .int (iI r5)), (4, .int (iI gd)), (3, .int (iI n)), (2, .int (iI t)), (0, .ref y), (1, .int (iI i))] [] := by
                  refine x_ind (fun k_132 ih_132 gd r5 y1 y2 hk_132 => ?_)
                  refine g_iload XX d_MO_revert_132 0 rfl ?_
                  refine g_iload_n XX d_MO_revert_134 rfl 3 rfl ?_
                  refine g_icmp_gt (tgt := 188) XX d_MO_revert_135 (by decide) ⟨by omega, by omega⟩ ⟨by omega, by omega⟩ (fun h135 => ?_) (fun h135 => ?_)
                  · -- 135: yes
                    refine g_iload XX d_MO_revert_188 1 rfl ?_
                    refine g_if_eq (tgt := 198) XX d_MO_revert_190 (by decide) ⟨by omega, by omega⟩ (fun h190 => ?_) (fun h190 => by exfalso; omega)
                    have ng : ¬ wgood (gv T i) t := u115_0.elim (fun g => absurd (g.1.symm.trans h122) (by decide)) (fun g => g.2)
                    refine g_iconst XX d_MO_revert_198 ?_
                    refine g_istore (lv' := [(5, .int (iI 0)), (4, .int (iI gd)), (3, .int (iI n)), (2, .int (iI t)), (0, .ref y), (1, .int (iI i))]) XX d_MO_revert_199 (by decide) rfl ?_
                    have L201 : ∀ (k_201 : Nat) (k1 : Int) (f23 : Int → Int), (0 ≤ k1 ∧ k1 ≤ n) → (ag f23 X k1) → (n - k1).toNat = k_201 → xG P0 l E0 rm_M_revert S0 M0 A0 B0 T0 C0 QQ 6 D vwCl AA 0 0 [cR b1 cA 96 f1, cR b3 cA 97 f3, cR b7 cA 96 f72, cO y 5 [.int (iI 0), .ref b1, .int (iI t), .ref b2, .ref b3, .int (iI m), .ref b4, .ref b5, .ref b6, .ref b7], cR b2 cA 96 f23, cR b6 cA 97 f62] 201 [(5, .int (iI k1)), (4, .int (iI gd)), (3, .int (iI n)), (2, .int (iI t)), (0, .ref y), (1, .int (iI i))] [] := by
                      refine x_ind (fun k_201 ih_201 k1 f23 z1_ z2_ hk_201 => ?_)
                      refine g_iload XX d_MO_revert_201 0 rfl ?_
                      refine g_iload_n XX d_MO_revert_203 rfl 2 rfl ?_
                      refine g_icmp_ge (tgt := 227) XX d_MO_revert_204 (by decide) ⟨by omega, by omega⟩ ⟨by omega, by omega⟩ (fun h204 => ?_) (fun h204 => ?_)
                      · -- 204: yes
                        refine g_aload_n XX d_MO_revert_227 rfl 4 rfl ?_
                        refine g_iload_n XX d_MO_revert_228 rfl 2 rfl ?_
                        refine g_put (C := R_MO) (T := T_MO) (N := 10) (ty := (.int)) (ws' := [cR b1 cA 96 f1, cR b3 cA 97 f3, cR b7 cA 96 f72, cO y 5 [.int (iI 0), .ref b1, .int (iI n), .ref b2, .ref b3, .int (iI m), .ref b4, .ref b5, .ref b6, .ref b7], cR b2 cA 96 f23, cR b6 cA 97 f62]) XX (tmw win0_MO) ty_MO ok_MO nm_MO 3 rfl rfl 2 (by decide) (tm kw_119) rfl rfl (by decide +kernel) rfl rfl (Nat.le_of_ble_eq_true rfl) rfl d_MO_revert_229 ?_
                        refine g_aload_n XX d_MO_revert_232 rfl 4 rfl ?_
                        refine g_callv (As := []) (st := []) (wr := [cR b1 cA 96 f1, cR b7 cA 96 f72, cR b6 cA 97 f62]) XX (c_M_sort l D cA y b1 b2 b3 b4 b5 b6 b7 f23 f3 X 0 n m (by first | assumption | omega) (ag_le z2_ (by omega)) (by first | assumption | omega)) (x_cw 0 XX.2.2.2.2.1 (gi kw_129) rfl rfl (tm kw_123) (tm kw_130) (tm kw_131) (tm kw_132) ⟨by decide +kernel, by decide +kernel, by decide +kernel⟩ ⟨by decide, by decide⟩) [3, 4, 1] [0, 2, 5] rfl rfl (by decide) (by decide) (by decide) 3 5 rfl rfl rfl rfl (Nat.le_of_ble_eq_true rfl) d_MO_revert_233 ⟨by decide, by decide⟩ (fun w_ hq => ?_)
                        obtain ⟨f32, rfl, u233_0⟩ := hq
                        show xG P0 l E0 rm_M_revert S0 M0 A0 B0 T0 C0 QQ 6 D vwCl AA 0 0 [cR b1 cA 96 f1, cR b7 cA 96 f72, cR b6 cA 97 f62, cO y 5 [.int (iI 0), .ref b1, .int (iI n), .ref b2, .ref b3, .int (iI m), .ref b4, .ref b5, .ref b6, .ref b7], cR b2 cA 96 f23, cR b3 cA 97 f32] 236 [(5, .int (iI k1)), (4, .int (iI gd)), (3, .int (iI n)), (2, .int (iI t)), (0, .ref y), (1, .int (iI i))] []
                        refine g_bipush (v := -4) XX d_MO_revert_236 (by decide) ?_
                        exact ret _ _ _ _ [cO y 5 [.int (iI 0), .ref b1, .int (iI n), .ref b2, .ref b3, .int (iI m), .ref b4, .ref b5, .ref b6, .ref b7], cR b1 cA 96 f1, cR b2 cA 96 f23, cR b3 cA 97 f32, cR b6 cA 97 f62, cR b7 cA 96 f72] [3, 0, 4, 5, 2, 1] d_MO_revert_238 (by decide) rfl (⟨(-4), 0, X, n, f23, f32, f62, f72, rfl, rfl, ⟨ag_le z2_ (by omega), hbX, hn, u233_0⟩, Or.inr (Or.inr ⟨by omega, ng, rfl, rfl, rfl, rfl⟩)⟩)
                      · -- 204: no
                        refine g_aload_n XX d_MO_revert_207 rfl 4 rfl ?_
                        refine g_get (C := R_MO) (T := T_MO) (N := 10) XX (tmw win0_MO) 3 rfl rfl 3 (by decide) (tm kw_111) rfl rfl d_MO_revert_208 ?_
                        refine g_iload XX d_MO_revert_211 0 rfl ?_
                        refine g_aload_n XX d_MO_revert_213 rfl 4 rfl ?_
                        refine g_get (C := R_MO) (T := T_MO) (N := 10) XX (tmw win0_MO) 3 rfl rfl 9 (by decide) (tm kw_116) rfl rfl d_MO_revert_214 ?_
                        refine g_iload XX d_MO_revert_217 0 rfl ?_
                        refine g_iald XX 2 0 rfl rfl ⟨by omega, by omega, by decide⟩ d_MO_revert_219 ?_
                        refine g_iast (ws' := [cR b1 cA 96 f1, cR b3 cA 97 f3, cR b7 cA 96 f72, cO y 5 [.int (iI 0), .ref b1, .int (iI t), .ref b2, .ref b3, .int (iI m), .ref b4, .ref b5, .ref b6, .ref b7], cR b2 cA 96 (iup f23 k1 (f72 k1)), cR b6 cA 97 f62]) XX 4 0 rfl rfl ⟨by omega, by omega, by decide⟩ rfl d_MO_revert_220 ?_
                        refine g_iinc (lv' := [(5, .int (iI (k1 + 1))), (4, .int (iI gd)), (3, .int (iI n)), (2, .int (iI t)), (0, .ref y), (1, .int (iI i))]) XX d_MO_revert_221 0 rfl (by decide) rfl ?_
                        refine g_goto (tgt := 201) XX d_MO_revert_224 (by decide) ?_
                        exact ih_201 _ (by omega) (k1 + 1) (iup f23 k1 (f72 k1)) (by omega) (ag_s z2_ (hold k1 (by omega) (by omega))) rfl
                    exact L201 _ 0 f21 (by omega) (ag_0 (by omega)) rfl
                  · -- 135: no
                    refine g_iload XX d_MO_revert_138 1 rfl ?_
                    refine g_if_eq (tgt := 188) XX d_MO_revert_140 (by decide) ⟨by omega, by omega⟩ (fun h140 => ?_) (fun h140 => by exfalso; omega)
                    refine g_iload XX d_MO_revert_188 1 rfl ?_
                    refine g_if_eq (tgt := 198) XX d_MO_revert_190 (by decide) ⟨by omega, by omega⟩ (fun h190 => ?_) (fun h190 => by exfalso; omega)
                    have ng : ¬ wgood (gv T i) t := u115_0.elim (fun g => absurd (g.1.symm.trans h122) (by decide)) (fun g => g.2)
                    refine g_iconst XX d_MO_revert_198 ?_
                    refine g_istore (lv' := [(5, .int (iI 0)), (4, .int (iI gd)), (3, .int (iI n)), (2, .int (iI t)), (0, .ref y), (1, .int (iI i))]) XX d_MO_revert_199 (by decide) rfl ?_
                    have L201 : ∀ (k_201 : Nat) (k1 : Int) (f23 : Int → Int), (0 ≤ k1 ∧ k1 ≤ n) → (ag f23 X k1) → (n - k1).toNat = k_201 → xG P0 l E0 rm_M_revert S0 M0 A0 B0 T0 C0 QQ 6 D vwCl AA 0 0 [cR b1 cA 96 f1, cR b3 cA 97 f3, cR b7 cA 96 f72, cO y 5 [.int (iI 0), .ref b1, .int (iI t), .ref b2, .ref b3, .int (iI m), .ref b4, .ref b5, .ref b6, .ref b7], cR b2 cA 96 f23, cR b6 cA 97 f62] 201 [(5, .int (iI k1)), (4, .int (iI gd)), (3, .int (iI n)), (2, .int (iI t)), (0, .ref y), (1, .int (iI i))] [] := by
                      refine x_ind (fun k_201 ih_201 k1 f23 z1_ z2_ hk_201 => ?_)
                      refine g_iload XX d_MO_revert_201 0 rfl ?_
                      refine g_iload_n XX d_MO_revert_203 rfl 2 rfl ?_
                      refine g_icmp_ge (tgt := 227) XX d_MO_revert_204 (by decide) ⟨by omega, by omega⟩ ⟨by omega, by omega⟩ (fun h204 => ?_) (fun h204 => ?_)
                      · -- 204: yes
                        refine g_aload_n XX d_MO_revert_227 rfl 4 rfl ?_
                        refine g_iload_n XX d_MO_revert_228 rfl 2 rfl ?_
                        refine g_put (C := R_MO) (T := T_MO) (N := 10) (ty := (.int)) (ws' := [cR b1 cA 96 f1, cR b3 cA 97 f3, cR b7 cA 96 f72, cO y 5 [.int (iI 0), .ref b1, .int (iI n), .ref b2, .ref b3, .int (iI m), .ref b4, .ref b5, .ref b6, .ref b7], cR b2 cA 96 f23, cR b6 cA 97 f62]) XX (tmw win0_MO) ty_MO ok_MO nm_MO 3 rfl rfl 2 (by decide) (tm kw_119) rfl rfl (by decide +kernel) rfl rfl (Nat.le_of_ble_eq_true rfl) rfl d_MO_revert_229 ?_
                        refine g_aload_n XX d_MO_revert_232 rfl 4 rfl ?_
                        refine g_callv (As := []) (st := []) (wr := [cR b1 cA 96 f1, cR b7 cA 96 f72, cR b6 cA 97 f62]) XX (c_M_sort l D cA y b1 b2 b3 b4 b5 b6 b7 f23 f3 X 0 n m (by first | assumption | omega) (ag_le z2_ (by omega)) (by first | assumption | omega)) (x_cw 0 XX.2.2.2.2.1 (gi kw_129) rfl rfl (tm kw_123) (tm kw_130) (tm kw_131) (tm kw_132) ⟨by decide +kernel, by decide +kernel, by decide +kernel⟩ ⟨by decide, by decide⟩) [3, 4, 1] [0, 2, 5] rfl rfl (by decide) (by decide) (by decide) 3 5 rfl rfl rfl rfl (Nat.le_of_ble_eq_true rfl) d_MO_revert_233 ⟨by decide, by decide⟩ (fun w_ hq => ?_)
                        obtain ⟨f32, rfl, u233_0⟩ := hq
                        show xG P0 l E0 rm_M_revert S0 M0 A0 B0 T0 C0 QQ 6 D vwCl AA 0 0 [cR b1 cA 96 f1, cR b7 cA 96 f72, cR b6 cA 97 f62, cO y 5 [.int (iI 0), .ref b1, .int (iI n), .ref b2, .ref b3, .int (iI m), .ref b4, .ref b5, .ref b6, .ref b7], cR b2 cA 96 f23, cR b3 cA 97 f32] 236 [(5, .int (iI k1)), (4, .int (iI gd)), (3, .int (iI n)), (2, .int (iI t)), (0, .ref y), (1, .int (iI i))] []
                        refine g_bipush (v := -4) XX d_MO_revert_236 (by decide) ?_
                        exact ret _ _ _ _ [cO y 5 [.int (iI 0), .ref b1, .int (iI n), .ref b2, .ref b3, .int (iI m), .ref b4, .ref b5, .ref b6, .ref b7], cR b1 cA 96 f1, cR b2 cA 96 f23, cR b3 cA 97 f32, cR b6 cA 97 f62, cR b7 cA 96 f72] [3, 0, 4, 5, 2, 1] d_MO_revert_238 (by decide) rfl (⟨(-4), 0, X, n, f23, f32, f62, f72, rfl, rfl, ⟨ag_le z2_ (by omega), hbX, hn, u233_0⟩, Or.inr (Or.inr ⟨by omega, ng, rfl, rfl, rfl, rfl⟩)⟩)
                      · -- 204: no
                        refine g_aload_n XX d_MO_revert_207 rfl 4 rfl ?_
                        refine g_get (C := R_MO) (T := T_MO) (N := 10) XX (tmw win0_MO) 3 rfl rfl 3 (by decide) (tm kw_111) rfl rfl d_MO_revert_208 ?_
                        refine g_iload XX d_MO_revert_211 0 rfl ?_
                        refine g_aload_n XX d_MO_revert_213 rfl 4 rfl ?_
                        refine g_get (C := R_MO) (T := T_MO) (N := 10) XX (tmw win0_MO) 3 rfl rfl 9 (by decide) (tm kw_116) rfl rfl d_MO_revert_214 ?_
                        refine g_iload XX d_MO_revert_217 0 rfl ?_
                        refine g_iald XX 2 0 rfl rfl ⟨by omega, by omega, by decide⟩ d_MO_revert_219 ?_
                        refine g_iast (ws' := [cR b1 cA 96 f1, cR b3 cA 97 f3, cR b7 cA 96 f72, cO y 5 [.int (iI 0), .ref b1, .int (iI t), .ref b2, .ref b3, .int (iI m), .ref b4, .ref b5, .ref b6, .ref b7], cR b2 cA 96 (iup f23 k1 (f72 k1)), cR b6 cA 97 f62]) XX 4 0 rfl rfl ⟨by omega, by omega, by decide⟩ rfl d_MO_revert_220 ?_
                        refine g_iinc (lv' := [(5, .int (iI (k1 + 1))), (4, .int (iI gd)), (3, .int (iI n)), (2, .int (iI t)), (0, .ref y), (1, .int (iI i))]) XX d_MO_revert_221 0 rfl (by decide) rfl ?_
                        refine g_goto (tgt := 201) XX d_MO_revert_224 (by decide) ?_
                        exact ih_201 _ (by omega) (k1 + 1) (iup f23 k1 (f72 k1)) (by omega) (ag_s z2_ (hold k1 (by omega) (by omega))) rfl
                    exact L201 _ 0 f21 (by omega) (ag_0 (by omega)) rfl
                exact L132 _ z1 0 (by omega) (rfl) rfl
              · -- 122: no
                obtain ⟨gz, gw, gx⟩ := u115_0.resolve_right (fun g => h122 g.1)
                have wc := wk_col (by omega) hck gw
                refine g_aload_n XX d_MO_revert_125 rfl 3 rfl ?_
                refine g_callv (As := []) (st := []) (wr := [cR b1 cA 96 f1, cR b7 cA 96 f72, cR b6 cA 97 f62]) XX (c_M_sort l D cA y b1 b2 b3 b4 b5 b6 b7 f21 f3 (xt (gv T i) t) 0 t m (by first | assumption | omega) (gx) (wc.2.2)) (x_cw 0 XX.2.2.2.2.1 (gi kw_129) rfl rfl (tm kw_123) (tm kw_130) (tm kw_131) (tm kw_132) ⟨by decide +kernel, by decide +kernel, by decide +kernel⟩ ⟨by decide, by decide⟩) [3, 4, 1] [0, 2, 5] rfl rfl (by decide) (by decide) (by decide) 3 5 rfl rfl rfl rfl (Nat.le_of_ble_eq_true rfl) d_MO_revert_126 ⟨by decide, by decide⟩ (fun w_ hq => ?_)
                obtain ⟨f31, rfl, u126_0⟩ := hq
                show xG P0 l E0 rm_M_revert S0 M0 A0 B0 T0 C0 QQ 6 D vwCl AA 0 0 [cR b1 cA 96 f1, cR b7 cA 96 f72, cR b6 cA 97 f62, cO y 5 [.int (iI 0), .ref b1, .int (iI t), .ref b2, .ref b3, .int (iI m), .ref b4, .ref b5, .ref b6, .ref b7], cR b2 cA 96 f21, cR b3 cA 97 f31] 129 [(4, .int (iI z1)), (3, .int (iI n)), (2, .int (iI t)), (0, .ref y), (1, .int (iI i))] []
                refine g_iconst XX d_MO_revert_129 ?_
                refine g_istore (lv' := [(5, .int (iI 0)), (4, .int (iI z1)), (3, .int (iI n)), (2, .int (iI t)), (0, .ref y), (1, .int (iI i))]) XX d_MO_revert_130 (by decide) rfl ?_
                have L132 : ∀ (k_132 : Nat) (gd : Int) (r5 : Int), (0 ≤ r5 ∧ r5 ≤ t + 1) → (gd = z1) → (t + 1 - r5).toNat = k_132 → xG P0 l E0 rm_M_revert S0 M0 A0 B0 T0 C0 QQ 6 D vwCl AA 0 0 [cR b1 cA 96 f1, cR b7 cA 96 f72, cR b6 cA 97 f62, cO y 5 [.int (iI 0), .ref b1, .int (iI t), .ref b2, .ref b3, .int (iI m), .ref b4, .ref b5, .ref b6, .ref b7], cR b2 cA 96 f21, cR b3 cA 97 f31] 132 [(5, .int (iI r5)), (4, .int (iI gd)), (3, .int (iI n)), (2, .int (iI t)), (0, .ref y), (1, .int (iI i))] [] := by
                  refine x_ind (fun k_132 ih_132 gd r5 y1 y2 hk_132 => ?_)
                  refine g_iload XX d_MO_revert_132 0 rfl ?_
                  refine g_iload_n XX d_MO_revert_134 rfl 3 rfl ?_
                  refine g_icmp_gt (tgt := 188) XX d_MO_revert_135 (by decide) ⟨by omega, by omega⟩ ⟨by omega, by omega⟩ (fun h135 => ?_) (fun h135 => ?_)
                  · -- 135: yes
                    refine g_iload XX d_MO_revert_188 1 rfl ?_
                    refine g_if_eq (tgt := 198) XX d_MO_revert_190 (by decide) ⟨by omega, by omega⟩ (fun h190 => by exfalso; omega) (fun h190 => ?_)
                    refine g_aload_n XX d_MO_revert_193 rfl 4 rfl ?_
                    refine g_get (C := R_MO) (T := T_MO) (N := 10) XX (tmw win0_MO) 3 rfl rfl 2 (by decide) (tm kw_119) rfl rfl d_MO_revert_194 ?_
                    exact ret _ _ _ _ [cO y 5 [.int (iI 0), .ref b1, .int (iI t), .ref b2, .ref b3, .int (iI m), .ref b4, .ref b5, .ref b6, .ref b7], cR b1 cA 96 f1, cR b2 cA 96 f21, cR b3 cA 97 f31, cR b6 cA 97 f62, cR b7 cA 96 f72] [3, 0, 4, 5, 2, 1] d_MO_revert_197 (by decide) rfl (⟨t, 0, xt (gv T i) t, t, f21, f31, f62, f72, rfl, rfl, ⟨gx, wc.2.2, ht, u126_0⟩, Or.inr (Or.inl ⟨by omega, gw, rfl, rfl, rfl, rfl⟩)⟩)
                  · -- 135: no
                    refine g_iload XX d_MO_revert_138 1 rfl ?_
                    refine g_if_eq (tgt := 188) XX d_MO_revert_140 (by decide) ⟨by omega, by omega⟩ (fun h140 => by exfalso; omega) (fun h140 => ?_)
                    refine g_aload_n XX d_MO_revert_143 rfl 4 rfl ?_
                    refine g_iload XX d_MO_revert_144 0 rfl ?_
                    refine g_calli (As := [.int (iI r5)]) (st := []) (wr := [cR b1 cA 96 f1, cR b7 cA 96 f72, cR b6 cA 97 f62]) XX (c_M_bef1 l D cA y b1 b2 b3 b4 b5 b6 b7 f21 f31 (xt (gv T i) t) 0 t m r5 (by first | assumption | omega) (gx) (wc.2.2) (u126_0) (by first | assumption | omega)) (x_cw 1 XX.2.2.2.2.1 (gi kw_137) rfl rfl (tm kw_123) (tm kw_138) (tm kw_139) (tm kw_140) ⟨by decide +kernel, by decide +kernel, by decide +kernel⟩ ⟨by decide, by decide⟩) [3, 4, 5] [0, 1, 2] rfl rfl (by decide) (by decide) (by decide) 3 5 rfl rfl rfl rfl (Nat.le_of_ble_eq_true rfl) d_MO_revert_146 ⟨by decide, by decide⟩ (fun r_ w_ hq => ?_)
                    obtain ⟨rfl, rfl⟩ := hq
                    show xG P0 l E0 rm_M_revert S0 M0 A0 B0 T0 C0 QQ 6 D vwCl AA 0 0 [cR b1 cA 96 f1, cR b7 cA 96 f72, cR b6 cA 97 f62, cO y 5 [.int (iI 0), .ref b1, .int (iI t), .ref b2, .ref b3, .int (iI m), .ref b4, .ref b5, .ref b6, .ref b7], cR b2 cA 96 f21, cR b3 cA 97 f31] 149 [(5, .int (iI r5)), (4, .int (iI gd)), (3, .int (iI n)), (2, .int (iI t)), (0, .ref y), (1, .int (iI i))] [.int (iI (ph (cX (xt (gv T i) t) t r5)))]
                    have ce := wc.1 r5 (by omega) (by omega)
                    have hce : ph (cX (xt (gv T i) t) t r5) = ph (gv T i r5) := by rw [ce]
                    have e1 : f62 r5 = ps (gv T i r5) := hgv r5 (by omega) (by omega)
                    have q1 := ps_c (gv T i r5)
                    have q2 := ph_c (gv T i r5)
                    have w1 := cok_val hck (j := r5) (by omega) (by omega)
                    refine g_aload_n XX d_MO_revert_149 rfl 4 rfl ?_
                    refine g_get (C := R_MO) (T := T_MO) (N := 10) XX (tmw win0_MO) 3 rfl rfl 8 (by decide) (tm kw_115) rfl rfl d_MO_revert_150 ?_
                    refine g_iload XX d_MO_revert_153 0 rfl ?_
                    refine g_iald XX 2 0 rfl rfl ⟨by omega, by omega, by decide⟩ d_MO_revert_155 ?_
                    refine g_if_ge (tgt := 165) XX d_MO_revert_156 (by decide) ⟨by omega, by omega⟩ (fun h156 => ?_) (fun h156 => ?_)
                    · -- 156: yes
                      refine g_aload_n XX d_MO_revert_165 rfl 4 rfl ?_
                      refine g_get (C := R_MO) (T := T_MO) (N := 10) XX (tmw win0_MO) 3 rfl rfl 8 (by decide) (tm kw_115) rfl rfl d_MO_revert_166 ?_
                      refine g_iload XX d_MO_revert_169 0 rfl ?_
                      refine g_iald XX 2 0 rfl rfl ⟨by omega, by omega, by decide⟩ d_MO_revert_171 ?_
                      refine g_icmp_ne (tgt := 179) XX d_MO_revert_172 (by decide) ⟨by omega, by omega⟩ ⟨by omega, by omega⟩ (fun h172 => by exfalso; omega) (fun h172 => ?_)
                      refine g_iconst XX d_MO_revert_175 ?_
                      refine g_goto (tgt := 180) XX d_MO_revert_176 (by decide) ?_
                      refine g_istore (lv' := [(4, .int (iI 1)), (5, .int (iI r5)), (3, .int (iI n)), (2, .int (iI t)), (0, .ref y), (1, .int (iI i))]) XX d_MO_revert_180 (by decide) rfl ?_
                      refine g_iinc (lv' := [(5, .int (iI (r5 + 1))), (4, .int (iI 1)), (3, .int (iI n)), (2, .int (iI t)), (0, .ref y), (1, .int (iI i))]) XX d_MO_revert_182 1 rfl (by decide) rfl ?_
                      refine g_goto (tgt := 132) XX d_MO_revert_185 (by decide) ?_
                      exact ih_132 _ (by omega) 1 (r5 + 1) (by omega) (by omega) rfl
                    · -- 156: no
                      refine g_sipush (v := 256) XX d_MO_revert_159 (by decide) ?_
                      refine g_goto (tgt := 172) XX d_MO_revert_162 (by decide) ?_
                      refine g_icmp_ne (tgt := 179) XX d_MO_revert_172 (by decide) ⟨by omega, by omega⟩ ⟨by omega, by omega⟩ (fun h172 => by exfalso; omega) (fun h172 => ?_)
                      refine g_iconst XX d_MO_revert_175 ?_
                      refine g_goto (tgt := 180) XX d_MO_revert_176 (by decide) ?_
                      refine g_istore (lv' := [(4, .int (iI 1)), (5, .int (iI r5)), (3, .int (iI n)), (2, .int (iI t)), (0, .ref y), (1, .int (iI i))]) XX d_MO_revert_180 (by decide) rfl ?_
                      refine g_iinc (lv' := [(5, .int (iI (r5 + 1))), (4, .int (iI 1)), (3, .int (iI n)), (2, .int (iI t)), (0, .ref y), (1, .int (iI i))]) XX d_MO_revert_182 1 rfl (by decide) rfl ?_
                      refine g_goto (tgt := 132) XX d_MO_revert_185 (by decide) ?_
                      exact ih_132 _ (by omega) 1 (r5 + 1) (by omega) (by omega) rfl
                exact L132 _ z1 0 (by omega) (rfl) rfl
            · -- 85: no
              refine g_aload_n XX d_MO_revert_88 rfl 3 rfl ?_
              refine g_get (C := R_MO) (T := T_MO) (N := 10) XX (tmw win0_MO) 0 rfl rfl 9 (by decide) (tm kw_116) rfl rfl d_MO_revert_89 ?_
              refine g_iload XX d_MO_revert_92 0 rfl ?_
              refine g_aload_n XX d_MO_revert_94 rfl 3 rfl ?_
              refine g_get (C := R_MO) (T := T_MO) (N := 10) XX (tmw win0_MO) 0 rfl rfl 3 (by decide) (tm kw_111) rfl rfl d_MO_revert_95 ?_
              refine g_iload XX d_MO_revert_98 0 rfl ?_
              refine g_iald XX 2 0 rfl rfl ⟨by omega, by omega, by decide⟩ d_MO_revert_100 ?_
              refine g_iast (ws' := [cO y 5 [.int (iI 0), .ref b1, .int (iI n), .ref b2, .ref b3, .int (iI m), .ref b4, .ref b5, .ref b6, .ref b7], cR b1 cA 96 f1, cR b2 cA 96 f2, cR b3 cA 97 f3, cR b6 cA 97 f62, cR b7 cA 96 (iup f72 k0 (f2 k0))]) XX 5 0 rfl rfl ⟨by omega, by omega, by decide⟩ rfl d_MO_revert_101 ?_
              refine g_iinc (lv' := [(4, .int (iI (k0 + 1))), (3, .int (iI n)), (2, .int (iI t)), (0, .ref y), (1, .int (iI i))]) XX d_MO_revert_102 0 rfl (by decide) rfl ?_
              refine g_goto (tgt := 82) XX d_MO_revert_105 (by decide) ?_
              exact ih_82 _ (by omega) (k0 + 1) (iup f72 k0 (f2 k0)) (by omega) (ag_s g2 (hfX k0 (by omega) (by omega))) rfl
          exact L82 _ 0 f7 (by omega) (ag_0 (by omega)) rfl
        · -- 23: no
          refine g_aload_n XX d_MO_revert_26 rfl 2 rfl ?_
          refine g_get (C := R_MO) (T := T_MO) (N := 10) XX (tmw win0_MO) 0 rfl rfl 8 (by decide) (tm kw_115) rfl rfl d_MO_revert_27 ?_
          refine g_iload_n XX d_MO_revert_30 rfl 0 rfl ?_
          refine g_iload_n XX d_MO_revert_31 rfl 0 rfl ?_
          refine g_iload_n XX d_MO_revert_32 rfl 3 rfl ?_
          refine g_icmp_ge (tgt := 45) XX d_MO_revert_33 (by decide) ⟨by omega, by omega⟩ ⟨by omega, by omega⟩ (fun h33 => ?_) (fun h33 => ?_)
          · -- 33: yes
            refine g_iload_n XX d_MO_revert_45 rfl 0 rfl ?_
            refine g_iload_n XX d_MO_revert_46 rfl 3 rfl ?_
            refine g_icmp_ne (tgt := 54) XX d_MO_revert_47 (by decide) ⟨by omega, by omega⟩ ⟨by omega, by omega⟩ (fun h47 => ?_) (fun h47 => ?_)
            · -- 47: yes
              refine g_aload_n XX d_MO_revert_54 rfl 2 rfl ?_
              refine g_get (C := R_MO) (T := T_MO) (N := 10) XX (tmw win0_MO) 0 rfl rfl 1 (by decide) (tm kw_110) rfl rfl d_MO_revert_55 ?_
              refine g_iload_n XX d_MO_revert_58 rfl 0 rfl ?_
              refine g_iconst XX d_MO_revert_59 ?_
              refine g_isub XX d_MO_revert_60 ?_
              refine g_iald XX 1 0 rfl rfl ⟨by omega, by omega, by decide⟩ d_MO_revert_61 ?_
              refine g_iast (ws' := [cO y 5 [.int (iI t), .ref b1, .int (iI n), .ref b2, .ref b3, .int (iI m), .ref b4, .ref b5, .ref b6, .ref b7], cR b1 cA 96 f1, cR b2 cA 96 f2, cR b3 cA 97 f3, cR b6 cA 97 (iup f62 r0 (f1 (r0 - 1))), cR b7 cA 96 f7]) XX 4 0 rfl rfl ⟨by omega, by omega, by decide⟩ rfl d_MO_revert_62 ?_
              refine g_iinc (lv' := [(3, .int (iI (r0 + 1))), (2, .int (iI t)), (0, .ref y), (1, .int (iI i))]) XX d_MO_revert_63 0 rfl (by decide) rfl ?_
              refine g_goto (tgt := 21) XX d_MO_revert_66 (by decide) ?_
              exact ih_21 _ (by omega) (r0 + 1) (iup f62 r0 (f1 (r0 - 1))) (by omega) (ag_s h2 (by show _ = ps (gv T i r0); first | (rw [hfT r0 (by omega) (by omega)]; exact gvp1 hbT (by omega) (by omega) (by omega)) | exact gvp2 (by omega) | (rw [hfT (r0 - 1) (by omega) (by omega)]; exact gvp3 hbT (by omega) (by omega) (by omega)))) rfl
            · -- 47: no
              refine g_iconst XX d_MO_revert_50 ?_
              refine g_goto (tgt := 62) XX d_MO_revert_51 (by decide) ?_
              refine g_iast (ws' := [cO y 5 [.int (iI t), .ref b1, .int (iI n), .ref b2, .ref b3, .int (iI m), .ref b4, .ref b5, .ref b6, .ref b7], cR b1 cA 96 f1, cR b2 cA 96 f2, cR b3 cA 97 f3, cR b6 cA 97 (iup f62 r0 (-1)), cR b7 cA 96 f7]) XX 4 0 rfl rfl ⟨by omega, by omega, by decide⟩ rfl d_MO_revert_62 ?_
              refine g_iinc (lv' := [(3, .int (iI (r0 + 1))), (2, .int (iI t)), (0, .ref y), (1, .int (iI i))]) XX d_MO_revert_63 0 rfl (by decide) rfl ?_
              refine g_goto (tgt := 21) XX d_MO_revert_66 (by decide) ?_
              exact ih_21 _ (by omega) (r0 + 1) (iup f62 r0 (-1)) (by omega) (ag_s h2 (by show _ = ps (gv T i r0); first | (rw [hfT r0 (by omega) (by omega)]; exact gvp1 hbT (by omega) (by omega) (by omega)) | exact gvp2 (by omega) | (rw [hfT (r0 - 1) (by omega) (by omega)]; exact gvp3 hbT (by omega) (by omega) (by omega)))) rfl
          · -- 33: no
            refine g_aload_n XX d_MO_revert_36 rfl 2 rfl ?_
            refine g_get (C := R_MO) (T := T_MO) (N := 10) XX (tmw win0_MO) 0 rfl rfl 1 (by decide) (tm kw_110) rfl rfl d_MO_revert_37 ?_
            refine g_iload_n XX d_MO_revert_40 rfl 0 rfl ?_
            refine g_iald XX 1 0 rfl rfl ⟨by omega, by omega, by decide⟩ d_MO_revert_41 ?_
            refine g_goto (tgt := 62) XX d_MO_revert_42 (by decide) ?_
            refine g_iast (ws' := [cO y 5 [.int (iI t), .ref b1, .int (iI n), .ref b2, .ref b3, .int (iI m), .ref b4, .ref b5, .ref b6, .ref b7], cR b1 cA 96 f1, cR b2 cA 96 f2, cR b3 cA 97 f3, cR b6 cA 97 (iup f62 r0 (f1 r0)), cR b7 cA 96 f7]) XX 4 0 rfl rfl ⟨by omega, by omega, by decide⟩ rfl d_MO_revert_62 ?_
            refine g_iinc (lv' := [(3, .int (iI (r0 + 1))), (2, .int (iI t)), (0, .ref y), (1, .int (iI i))]) XX d_MO_revert_63 0 rfl (by decide) rfl ?_
            refine g_goto (tgt := 21) XX d_MO_revert_66 (by decide) ?_
            exact ih_21 _ (by omega) (r0 + 1) (iup f62 r0 (f1 r0)) (by omega) (ag_s h2 (by show _ = ps (gv T i r0); first | (rw [hfT r0 (by omega) (by omega)]; exact gvp1 hbT (by omega) (by omega) (by omega)) | exact gvp2 (by omega) | (rw [hfT (r0 - 1) (by omega) (by omega)]; exact gvp3 hbT (by omega) (by omega) (by omega)))) rfl
      exact L21 _ 0 f6 (by omega) (ag_0 (by omega)) rfl
    · -- 9: no
      refine g_iconst XX d_MO_revert_12 ?_
      exact ret _ _ _ _ [cO y 5 [.int (iI t), .ref b1, .int (iI n), .ref b2, .ref b3, .int (iI m), .ref b4, .ref b5, .ref b6, .ref b7], cR b1 cA 96 f1, cR b2 cA 96 f2, cR b3 cA 97 f3, cR b6 cA 97 f6, cR b7 cA 96 f7] [0, 1, 2, 3, 4, 5] d_MO_revert_13 (by decide) rfl (⟨(-1), t, X, n, f2, f3, f6, f7, rfl, rfl, ⟨hfX, hbX, hn, hfO⟩, Or.inl ⟨by omega, rfl, rfl, rfl, rfl⟩⟩)
end
