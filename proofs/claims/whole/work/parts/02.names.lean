def bw : List Cond := lw_tbl.filter goodWord
theorem bw_of {w : Cond} (h : w ∈ lw_tbl) (g : goodWord w = true) : w ∈ bw := List.mem_filter.mpr ⟨h, g⟩
def R_BR : String := "ColumnIndex$ByteRow"
def T_BR : u_T := fun k => match k with
  | 0 => ("ColumnIndex$ByteRow", "bytes", "[I", true)
  | _ => ("ColumnIndex$ByteRow", "length", "I", false)
def ty_BR : Nat → FieldType := fun k => match k with
  | 0 => .array .int
  | _ => .int
theorem nm_BR : ∀ a, a < 2 → ∀ b, b < 2 → a ≠ b → (T_BR a).2.1 ≠ (T_BR b).2.1 := by decide +kernel
theorem ok_BR : ∀ k, k < 2 → parseFieldDescriptor (T_BR k).2.2.1 = some (ty_BR k) := by decide +kernel
theorem win0_BR : ∀ w ∈ u_ws R_BR T_BR 2, w ∈ bw := by decide +kernel
def R_CR : String := "ColumnIndex$ColumnReader"
def T_CR : u_T := fun k => match k with
  | 0 => ("ColumnIndex$ColumnReader", "column", "[I", true)
  | _ => ("ColumnIndex$ColumnReader", "lastRank", "I", false)
def ty_CR : Nat → FieldType := fun k => match k with
  | 0 => .array .int
  | _ => .int
theorem nm_CR : ∀ a, a < 2 → ∀ b, b < 2 → a ≠ b → (T_CR a).2.1 ≠ (T_CR b).2.1 := by decide +kernel
theorem ok_CR : ∀ k, k < 2 → parseFieldDescriptor (T_CR k).2.2.1 = some (ty_CR k) := by decide +kernel
theorem win0_CR : ∀ w ∈ u_ws R_CR T_CR 2, w ∈ bw := by decide +kernel
def R_FL : String := "ColumnIndex$FrontList"
def T_FL : u_T := fun k => match k with
  | 0 => ("ColumnIndex$FrontList", "numberAt", "[I", true)
  | _ => ("ColumnIndex$FrontList", "list", "[I", true)
def ty_FL : Nat → FieldType := fun k => match k with
  | 0 => .array .int
  | _ => .array .int
theorem nm_FL : ∀ a, a < 2 → ∀ b, b < 2 → a ≠ b → (T_FL a).2.1 ≠ (T_FL b).2.1 := by decide +kernel
theorem ok_FL : ∀ k, k < 2 → parseFieldDescriptor (T_FL k).2.2.1 = some (ty_FL k) := by decide +kernel
theorem win0_FL : ∀ w ∈ u_ws R_FL T_FL 2, w ∈ bw := by decide +kernel
def R_SO : String := "ColumnIndex$SuffixOrder"
def T_SO : u_T := fun k => match k with
  | 0 => ("ColumnIndex$SuffixOrder", "suffixAt", "[I", true)
  | 1 => ("ColumnIndex$SuffixOrder", "rankOf", "[I", true)
  | 2 => ("ColumnIndex$SuffixOrder", "commonAt", "[I", true)
  | _ => ("ColumnIndex$SuffixOrder", "columnAt", "[I", true)
def ty_SO : Nat → FieldType := fun k => match k with
  | 0 => .array .int
  | 1 => .array .int
  | 2 => .array .int
  | _ => .array .int
theorem nm_SO : ∀ a, a < 4 → ∀ b, b < 4 → a ≠ b → (T_SO a).2.1 ≠ (T_SO b).2.1 := by decide +kernel
theorem ok_SO : ∀ k, k < 4 → parseFieldDescriptor (T_SO k).2.2.1 = some (ty_SO k) := by decide +kernel
theorem win0_SO : ∀ w ∈ u_ws R_SO T_SO 4, w ∈ bw := by decide +kernel
def R_CX : String := "ColumnIndex"
def T_CX : u_T := fun k => match k with
  | 0 => ("ColumnIndex", "typed", "LColumnIndex$ByteRow;", true)
  | 1 => ("ColumnIndex", "text", "LColumnIndex$ByteRow;", true)
  | 2 => ("ColumnIndex", "pattern", "LColumnIndex$ByteRow;", true)
  | 3 => ("ColumnIndex", "order", "LColumnIndex$SuffixOrder;", true)
  | 4 => ("ColumnIndex", "front", "LColumnIndex$FrontList;", true)
  | _ => ("ColumnIndex", "reader", "LColumnIndex$ColumnReader;", true)
def ty_CX : Nat → FieldType := fun k => match k with
  | 0 => .object "ColumnIndex$ByteRow"
  | 1 => .object "ColumnIndex$ByteRow"
  | 2 => .object "ColumnIndex$ByteRow"
  | 3 => .object "ColumnIndex$SuffixOrder"
  | 4 => .object "ColumnIndex$FrontList"
  | _ => .object "ColumnIndex$ColumnReader"
theorem nm_CX : ∀ a, a < 6 → ∀ b, b < 6 → a ≠ b → (T_CX a).2.1 ≠ (T_CX b).2.1 := by decide +kernel
theorem ok_CX : ∀ k, k < 6 → parseFieldDescriptor (T_CX k).2.2.1 = some (ty_CX k) := by decide +kernel
theorem win0_CX : ∀ w ∈ u_ws R_CX T_CX 6, w ∈ bw := by decide +kernel
def R_MO : String := "ColumnIndexModel"
def T_MO : u_T := fun k => match k with
  | 0 => ("ColumnIndexModel", "typed", "I", false)
  | 1 => ("ColumnIndexModel", "typing", "[I", true)
  | 2 => ("ColumnIndexModel", "n", "I", false)
  | 3 => ("ColumnIndexModel", "text", "[I", true)
  | 4 => ("ColumnIndexModel", "order", "[I", true)
  | 5 => ("ColumnIndexModel", "length", "I", false)
  | 6 => ("ColumnIndexModel", "pattern", "[I", true)
  | 7 => ("ColumnIndexModel", "list", "[I", true)
  | 8 => ("ColumnIndexModel", "given", "[I", true)
  | _ => ("ColumnIndexModel", "old", "[I", true)
def ty_MO : Nat → FieldType := fun k => match k with
  | 0 => .int
  | 1 => .array .int
  | 2 => .int
  | 3 => .array .int
  | 4 => .array .int
  | 5 => .int
  | 6 => .array .int
  | 7 => .array .int
  | 8 => .array .int
  | _ => .array .int
theorem nm_MO : ∀ a, a < 10 → ∀ b, b < 10 → a ≠ b → (T_MO a).2.1 ≠ (T_MO b).2.1 := by decide +kernel
theorem ok_MO : ∀ k, k < 10 → parseFieldDescriptor (T_MO k).2.2.1 = some (ty_MO k) := by decide +kernel
theorem win0_MO : ∀ w ∈ u_ws R_MO T_MO 10, w ∈ bw := by decide +kernel
abbrev vwCl : List vw_C := [(R_BR, T_BR, 2), (R_CR, T_CR, 2), (R_FL, T_FL, 2), (R_SO, T_SO, 4), (R_CX, T_CX, 6), (R_MO, T_MO, 10)]
def R_LW : String := "ColumnIndexLaw"
abbrev b_CX_init : ByteArray := prog_1_method_1_code
def y_CX_init : MethodName := ⟨R_CX, "<init>", "()V"⟩
abbrev b_CX_type : ByteArray := prog_1_method_2_code
def y_CX_type : MethodName := ⟨R_CX, "type", "(JI)I"⟩
abbrev b_CX_build : ByteArray := prog_1_method_3_code
def y_CX_build : MethodName := ⟨R_CX, "build", "()I"⟩
abbrev b_CX_size : ByteArray := prog_1_method_4_code
def y_CX_size : MethodName := ⟨R_CX, "size", "()I"⟩
abbrev b_CX_at : ByteArray := prog_1_method_5_code
def y_CX_at : MethodName := ⟨R_CX, "at", "(I)I"⟩
abbrev b_CX_suffix : ByteArray := prog_1_method_6_code
def y_CX_suffix : MethodName := ⟨R_CX, "suffix", "(I)I"⟩
abbrev b_CX_rank : ByteArray := prog_1_method_7_code
def y_CX_rank : MethodName := ⟨R_CX, "rank", "(I)I"⟩
abbrev b_CX_column : ByteArray := prog_1_method_8_code
def y_CX_column : MethodName := ⟨R_CX, "column", "(I)I"⟩
abbrev b_CX_common : ByteArray := prog_1_method_9_code
def y_CX_common : MethodName := ⟨R_CX, "common", "(I)I"⟩
abbrev b_CX_moved : ByteArray := prog_1_method_10_code
def y_CX_moved : MethodName := ⟨R_CX, "moved", "(I)I"⟩
abbrev b_CX_distinct : ByteArray := prog_1_method_11_code
def y_CX_distinct : MethodName := ⟨R_CX, "distinct", "()I"⟩
abbrev b_CX_repeat : ByteArray := prog_1_method_12_code
def y_CX_repeat : MethodName := ⟨R_CX, "repeat", "()I"⟩
abbrev b_CX_seek : ByteArray := prog_1_method_13_code
def y_CX_seek : MethodName := ⟨R_CX, "seek", "()I"⟩
abbrev b_CX_extend : ByteArray := prog_1_method_14_code
def y_CX_extend : MethodName := ⟨R_CX, "extend", "(I)I"⟩
abbrev b_CX_before : ByteArray := prog_1_method_15_code
def y_CX_before : MethodName := ⟨R_CX, "before", "()I"⟩
abbrev b_CX_hit : ByteArray := prog_1_method_16_code
def y_CX_hit : MethodName := ⟨R_CX, "hit", "(I)I"⟩
abbrev b_CX_match : ByteArray := prog_1_method_17_code
def y_CX_match : MethodName := ⟨R_CX, "match", "(I)I"⟩
abbrev b_CX_revert : ByteArray := prog_1_method_18_code
def y_CX_revert : MethodName := ⟨R_CX, "revert", "(I)I"⟩
abbrev b_CX_arrangeText : ByteArray := prog_1_method_19_code
def y_CX_arrangeText : MethodName := ⟨R_CX, "arrangeText", "()V"⟩
abbrev b_CX_isSuffix : ByteArray := prog_1_method_20_code
def y_CX_isSuffix : MethodName := ⟨R_CX, "isSuffix", "(I)Z"⟩
abbrev b_CX_countHits : ByteArray := prog_1_method_21_code
def y_CX_countHits : MethodName := ⟨R_CX, "countHits", "()I"⟩
abbrev b_CX_patternStandsAt : ByteArray := prog_1_method_22_code
def y_CX_patternStandsAt : MethodName := ⟨R_CX, "patternStandsAt", "(I)Z"⟩
abbrev b_CX_comesBeforePattern : ByteArray := prog_1_method_23_code
def y_CX_comesBeforePattern : MethodName := ⟨R_CX, "comesBeforePattern", "(I)Z"⟩
abbrev b_MO_init : ByteArray := prog_7_method_1_code
def y_MO_init : MethodName := ⟨R_MO, "<init>", "()V"⟩
abbrev b_MO_type : ByteArray := prog_7_method_2_code
def y_MO_type : MethodName := ⟨R_MO, "type", "(JI)I"⟩
abbrev b_MO_alike : ByteArray := prog_7_method_3_code
def y_MO_alike : MethodName := ⟨R_MO, "alike", "(II)I"⟩
abbrev b_MO_isBefore : ByteArray := prog_7_method_4_code
def y_MO_isBefore : MethodName := ⟨R_MO, "isBefore", "(II)Z"⟩
abbrev b_MO_sort : ByteArray := prog_7_method_5_code
def y_MO_sort : MethodName := ⟨R_MO, "sort", "()V"⟩
abbrev b_MO_take : ByteArray := prog_7_method_6_code
def y_MO_take : MethodName := ⟨R_MO, "take", "()V"⟩
abbrev b_MO_build : ByteArray := prog_7_method_7_code
def y_MO_build : MethodName := ⟨R_MO, "build", "()I"⟩
abbrev b_MO_size : ByteArray := prog_7_method_8_code
def y_MO_size : MethodName := ⟨R_MO, "size", "()I"⟩
abbrev b_MO_at : ByteArray := prog_7_method_9_code
def y_MO_at : MethodName := ⟨R_MO, "at", "(I)I"⟩
abbrev b_MO_suffix : ByteArray := prog_7_method_10_code
def y_MO_suffix : MethodName := ⟨R_MO, "suffix", "(I)I"⟩
abbrev b_MO_rank : ByteArray := prog_7_method_11_code
def y_MO_rank : MethodName := ⟨R_MO, "rank", "(I)I"⟩
abbrev b_MO_before1 : ByteArray := prog_7_method_12_code
def y_MO_before1 : MethodName := ⟨R_MO, "before", "(I)I"⟩
abbrev b_MO_column : ByteArray := prog_7_method_13_code
def y_MO_column : MethodName := ⟨R_MO, "column", "(I)I"⟩
abbrev b_MO_common : ByteArray := prog_7_method_14_code
def y_MO_common : MethodName := ⟨R_MO, "common", "(I)I"⟩
abbrev b_MO_moved : ByteArray := prog_7_method_15_code
def y_MO_moved : MethodName := ⟨R_MO, "moved", "(I)I"⟩
abbrev b_MO_distinct : ByteArray := prog_7_method_16_code
def y_MO_distinct : MethodName := ⟨R_MO, "distinct", "()I"⟩
abbrev b_MO_repeat : ByteArray := prog_7_method_17_code
def y_MO_repeat : MethodName := ⟨R_MO, "repeat", "()I"⟩
abbrev b_MO_fits : ByteArray := prog_7_method_18_code
def y_MO_fits : MethodName := ⟨R_MO, "fits", "(II)I"⟩
abbrev b_MO_hits : ByteArray := prog_7_method_19_code
def y_MO_hits : MethodName := ⟨R_MO, "hits", "()I"⟩
abbrev b_MO_seek : ByteArray := prog_7_method_20_code
def y_MO_seek : MethodName := ⟨R_MO, "seek", "()I"⟩
abbrev b_MO_extend : ByteArray := prog_7_method_21_code
def y_MO_extend : MethodName := ⟨R_MO, "extend", "(I)I"⟩
abbrev b_MO_before : ByteArray := prog_7_method_22_code
def y_MO_before : MethodName := ⟨R_MO, "before", "()I"⟩
abbrev b_MO_hit : ByteArray := prog_7_method_23_code
def y_MO_hit : MethodName := ⟨R_MO, "hit", "(I)I"⟩
abbrev b_MO_match : ByteArray := prog_7_method_24_code
def y_MO_match : MethodName := ⟨R_MO, "match", "(I)I"⟩
abbrev b_MO_longer : ByteArray := prog_7_method_25_code
def y_MO_longer : MethodName := ⟨R_MO, "longer", "(II)I"⟩
abbrev b_MO_turnBack : ByteArray := prog_7_method_26_code
def y_MO_turnBack : MethodName := ⟨R_MO, "turnBack", "(I)Z"⟩
abbrev b_MO_revert : ByteArray := prog_7_method_27_code
def y_MO_revert : MethodName := ⟨R_MO, "revert", "(I)I"⟩
abbrev b_BR_init : ByteArray := prog_2_method_1_code
def y_BR_init : MethodName := ⟨R_BR, "<init>", "()V"⟩
abbrev b_BR_clear : ByteArray := prog_2_method_2_code
def y_BR_clear : MethodName := ⟨R_BR, "clear", "()V"⟩
abbrev b_BR_append : ByteArray := prog_2_method_3_code
def y_BR_append : MethodName := ⟨R_BR, "append", "(I)V"⟩
abbrev b_BR_putInFront : ByteArray := prog_2_method_4_code
def y_BR_putInFront : MethodName := ⟨R_BR, "putInFront", "(I)V"⟩
abbrev b_BR_copyFrom : ByteArray := prog_2_method_5_code
def y_BR_copyFrom : MethodName := ⟨R_BR, "copyFrom", "(LColumnIndex$ByteRow;)V"⟩
abbrev b_BR_alike : ByteArray := prog_2_method_6_code
def y_BR_alike : MethodName := ⟨R_BR, "alike", "(ILColumnIndex$ByteRow;I)I"⟩
abbrev b_CR_init : ByteArray := prog_3_method_1_code
def y_CR_init : MethodName := ⟨R_CR, "<init>", "()V"⟩
abbrev b_CR_take : ByteArray := prog_3_method_2_code
def y_CR_take : MethodName := ⟨R_CR, "take", "(LColumnIndex$ByteRow;I)V"⟩
abbrev b_CR_writeText : ByteArray := prog_3_method_3_code
def y_CR_writeText : MethodName := ⟨R_CR, "writeText", "(LColumnIndex$ByteRow;)Z"⟩
abbrev b_CR_rankOfLonger : ByteArray := prog_3_method_4_code
def y_CR_rankOfLonger : MethodName := ⟨R_CR, "rankOfLonger", "(I)I"⟩
abbrev b_FL_init : ByteArray := prog_4_method_1_code
def y_FL_init : MethodName := ⟨R_FL, "<init>", "()V"⟩
abbrev b_FL_numberColumn : ByteArray := prog_4_method_2_code
def y_FL_numberColumn : MethodName := ⟨R_FL, "numberColumn", "([II)V"⟩
abbrev b_FL_startAgain : ByteArray := prog_4_method_3_code
def y_FL_startAgain : MethodName := ⟨R_FL, "startAgain", "()V"⟩
abbrev b_FL_moveToFront : ByteArray := prog_4_method_4_code
def y_FL_moveToFront : MethodName := ⟨R_FL, "moveToFront", "(I)I"⟩
abbrev b_SO_init : ByteArray := prog_5_method_1_code
def y_SO_init : MethodName := ⟨R_SO, "<init>", "()V"⟩
abbrev b_SO_arrange : ByteArray := prog_5_method_2_code
def y_SO_arrange : MethodName := ⟨R_SO, "arrange", "(LColumnIndex$ByteRow;)V"⟩
abbrev b_SO_rankAmongShorter : ByteArray := prog_5_method_3_code
def y_SO_rankAmongShorter : MethodName := ⟨R_SO, "rankAmongShorter", "(LColumnIndex$ByteRow;I)V"⟩
abbrev b_SO_shorterIsBefore : ByteArray := prog_5_method_4_code
def y_SO_shorterIsBefore : MethodName := ⟨R_SO, "shorterIsBefore", "(LColumnIndex$ByteRow;II)Z"⟩
theorem tm {w c0 : Cond} (h : w ∈ bw) : w ∈ c0 :: bw := List.mem_cons_of_mem _ h
theorem tmw {C : String} {T : u_T} {N : Nat} {c0 : Cond} (h : ∀ w ∈ u_ws C T N, w ∈ bw) : ∀ w ∈ u_ws C T N, w ∈ c0 :: bw := fun w hw => List.mem_cons_of_mem _ (h w hw)
theorem bw_good {w : Cond} (h : w ∈ bw) : goodWord w = true := (List.mem_filter.mp h).2
theorem gi {c0 c1 : Cond} (h : c1 ∈ bw) : GoodIn (c0 :: bw) (c1 :: bw) := fun w hw => by
  have hm : w ∈ bw := (List.mem_cons.mp hw).elim (fun e => by rw [e]; exact h) (fun h2 => h2)
  exact ⟨List.mem_cons_of_mem _ hm, good_of_word (bw_good hm)⟩
theorem giL {c1 : Cond} (h : c1 ∈ bw) : GoodIn bw (c1 :: bw) := fun w hw => by
  have hm : w ∈ bw := (List.mem_cons.mp hw).elim (fun e => by rw [e]; exact h) (fun h2 => h2)
  exact ⟨hm, good_of_word (bw_good hm)⟩
theorem x_cw {R : Room} {s : State} {args : Array Value} {own C : String} {index : Nat} {y : MethodName} {bytes : ByteArray} {maxL : Nat} {ret : Option FieldType} {rm : Room} {mc ms : Nat} {Ts ws' : List Cond} (n : Nat) (ht : ∀ w ∈ Ts, w.before args s = true) (hG : GoodIn Ts (.code y bytes maxL ret :: ws')) (hrc : rm.cells = mc) (hrs : rm.slots = ms) (h1 : Cond.initialized y.cls ∈ Ts) (h2 : Cond.methodLink own index y ∈ Ts) (h3 : Cond.instanceMethod y ∈ Ts) (h4 : Cond.selects C y y ∈ Ts)
    (hd : y.cls ≠ "java/lang/invoke/MethodHandle" ∧ y.cls ≠ "java/lang/invoke/VarHandle" ∧ (parseMethodDescriptor y.desc).map (fun d => d.parameters.length) = some n) (hR : rm.frames + 1 ≤ R.frames ∧ 8 + (maxL + 11) + rm.locals ≤ R.locals) : CallW R s args own C index y bytes maxL ret (.code y bytes maxL ret :: ws') rm mc ms n :=
  ⟨callB_of n ht hG rfl hrc hrs (ht _ h1) (ht _ h2) hd hR, ht _ h3, ht _ h4⟩
theorem x_cwI {R : Room} {s : State} {args : Array Value} {own : String} {index : Nat} {y : MethodName} {bytes : ByteArray} {maxL : Nat} {rm : Room} {mc ms : Nat} {Ts ws' : List Cond} (n : Nat) (ht : ∀ w ∈ Ts, w.before args s = true) (hG : GoodIn Ts (.code y bytes maxL none :: ws')) (hrc : rm.cells = mc) (hrs : rm.slots = ms) (h1 : Cond.initialized y.cls ∈ Ts) (h2 : Cond.methodLink own index y ∈ Ts) (h3 : Cond.instanceMethod y ∈ Ts) (hy : y.name = "<init>")
    (hd : y.cls ≠ "java/lang/invoke/MethodHandle" ∧ y.cls ≠ "java/lang/invoke/VarHandle" ∧ (parseMethodDescriptor y.desc).map (fun d => d.parameters.length) = some n) (hR : rm.frames + 1 ≤ R.frames ∧ 8 + (maxL + 11) + rm.locals ≤ R.locals) : CallB R s args own index y bytes maxL none (.code y bytes maxL none :: ws') rm mc ms n ∧ y.name = "<init>" ∧ (Cond.instanceMethod y).before args s = true :=
  ⟨callB_of n ht hG rfl hrc hrs (ht _ h1) (ht _ h2) hd hR, hy, ht _ h3⟩
abbrev w_CX_init : List Cond := .code y_CX_init b_CX_init 1 none :: bw
abbrev w_CX_type : List Cond := .code y_CX_type b_CX_type 5 (some .int) :: bw
abbrev w_CX_build : List Cond := .code y_CX_build b_CX_build 1 (some .int) :: bw
abbrev w_CX_size : List Cond := .code y_CX_size b_CX_size 1 (some .int) :: bw
abbrev w_CX_at : List Cond := .code y_CX_at b_CX_at 2 (some .int) :: bw
abbrev w_CX_suffix : List Cond := .code y_CX_suffix b_CX_suffix 2 (some .int) :: bw
abbrev w_CX_rank : List Cond := .code y_CX_rank b_CX_rank 2 (some .int) :: bw
abbrev w_CX_column : List Cond := .code y_CX_column b_CX_column 2 (some .int) :: bw
abbrev w_CX_common : List Cond := .code y_CX_common b_CX_common 2 (some .int) :: bw
abbrev w_CX_moved : List Cond := .code y_CX_moved b_CX_moved 2 (some .int) :: bw
abbrev w_CX_distinct : List Cond := .code y_CX_distinct b_CX_distinct 4 (some .int) :: bw
abbrev w_CX_repeat : List Cond := .code y_CX_repeat b_CX_repeat 6 (some .int) :: bw
abbrev w_CX_seek : List Cond := .code y_CX_seek b_CX_seek 1 (some .int) :: bw
abbrev w_CX_extend : List Cond := .code y_CX_extend b_CX_extend 2 (some .int) :: bw
abbrev w_CX_before : List Cond := .code y_CX_before b_CX_before 3 (some .int) :: bw
abbrev w_CX_hit : List Cond := .code y_CX_hit b_CX_hit 4 (some .int) :: bw
abbrev w_CX_match : List Cond := .code y_CX_match b_CX_match 4 (some .int) :: bw
abbrev w_CX_revert : List Cond := .code y_CX_revert b_CX_revert 2 (some .int) :: bw
abbrev w_CX_arrangeText : List Cond := .code y_CX_arrangeText b_CX_arrangeText 1 none :: bw
abbrev w_CX_isSuffix : List Cond := .code y_CX_isSuffix b_CX_isSuffix 2 (some .boolean) :: bw
abbrev w_CX_countHits : List Cond := .code y_CX_countHits b_CX_countHits 3 (some .int) :: bw
abbrev w_CX_patternStandsAt : List Cond := .code y_CX_patternStandsAt b_CX_patternStandsAt 2 (some .boolean) :: bw
abbrev w_CX_comesBeforePattern : List Cond := .code y_CX_comesBeforePattern b_CX_comesBeforePattern 4 (some .boolean) :: bw
abbrev w_MO_init : List Cond := .code y_MO_init b_MO_init 1 none :: bw
abbrev w_MO_type : List Cond := .code y_MO_type b_MO_type 5 (some .int) :: bw
abbrev w_MO_alike : List Cond := .code y_MO_alike b_MO_alike 4 (some .int) :: bw
abbrev w_MO_isBefore : List Cond := .code y_MO_isBefore b_MO_isBefore 4 (some .boolean) :: bw
abbrev w_MO_sort : List Cond := .code y_MO_sort b_MO_sort 3 none :: bw
abbrev w_MO_take : List Cond := .code y_MO_take b_MO_take 2 none :: bw
abbrev w_MO_build : List Cond := .code y_MO_build b_MO_build 1 (some .int) :: bw
abbrev w_MO_size : List Cond := .code y_MO_size b_MO_size 1 (some .int) :: bw
abbrev w_MO_at : List Cond := .code y_MO_at b_MO_at 2 (some .int) :: bw
abbrev w_MO_suffix : List Cond := .code y_MO_suffix b_MO_suffix 2 (some .int) :: bw
abbrev w_MO_rank : List Cond := .code y_MO_rank b_MO_rank 4 (some .int) :: bw
abbrev w_MO_before1 : List Cond := .code y_MO_before1 b_MO_before1 2 (some .int) :: bw
abbrev w_MO_column : List Cond := .code y_MO_column b_MO_column 2 (some .int) :: bw
abbrev w_MO_common : List Cond := .code y_MO_common b_MO_common 2 (some .int) :: bw
abbrev w_MO_moved : List Cond := .code y_MO_moved b_MO_moved 6 (some .int) :: bw
abbrev w_MO_distinct : List Cond := .code y_MO_distinct b_MO_distinct 3 (some .int) :: bw
abbrev w_MO_repeat : List Cond := .code y_MO_repeat b_MO_repeat 6 (some .int) :: bw
abbrev w_MO_fits : List Cond := .code y_MO_fits b_MO_fits 4 (some .int) :: bw
abbrev w_MO_hits : List Cond := .code y_MO_hits b_MO_hits 3 (some .int) :: bw
abbrev w_MO_seek : List Cond := .code y_MO_seek b_MO_seek 2 (some .int) :: bw
abbrev w_MO_extend : List Cond := .code y_MO_extend b_MO_extend 3 (some .int) :: bw
abbrev w_MO_before : List Cond := .code y_MO_before b_MO_before 4 (some .int) :: bw
abbrev w_MO_hit : List Cond := .code y_MO_hit b_MO_hit 4 (some .int) :: bw
abbrev w_MO_match : List Cond := .code y_MO_match b_MO_match 5 (some .int) :: bw
abbrev w_MO_longer : List Cond := .code y_MO_longer b_MO_longer 5 (some .int) :: bw
abbrev w_MO_turnBack : List Cond := .code y_MO_turnBack b_MO_turnBack 4 (some .boolean) :: bw
abbrev w_MO_revert : List Cond := .code y_MO_revert b_MO_revert 6 (some .int) :: bw
abbrev w_BR_init : List Cond := .code y_BR_init b_BR_init 1 none :: bw
abbrev w_BR_clear : List Cond := .code y_BR_clear b_BR_clear 1 none :: bw
abbrev w_BR_append : List Cond := .code y_BR_append b_BR_append 2 none :: bw
abbrev w_BR_putInFront : List Cond := .code y_BR_putInFront b_BR_putInFront 2 none :: bw
abbrev w_BR_copyFrom : List Cond := .code y_BR_copyFrom b_BR_copyFrom 2 none :: bw
abbrev w_BR_alike : List Cond := .code y_BR_alike b_BR_alike 6 (some .int) :: bw
abbrev w_CR_init : List Cond := .code y_CR_init b_CR_init 1 none :: bw
abbrev w_CR_take : List Cond := .code y_CR_take b_CR_take 4 none :: bw
abbrev w_CR_writeText : List Cond := .code y_CR_writeText b_CR_writeText 4 (some .boolean) :: bw
abbrev w_CR_rankOfLonger : List Cond := .code y_CR_rankOfLonger b_CR_rankOfLonger 4 (some .int) :: bw
abbrev w_FL_init : List Cond := .code y_FL_init b_FL_init 1 none :: bw
abbrev w_FL_numberColumn : List Cond := .code y_FL_numberColumn b_FL_numberColumn 4 none :: bw
abbrev w_FL_startAgain : List Cond := .code y_FL_startAgain b_FL_startAgain 2 none :: bw
abbrev w_FL_moveToFront : List Cond := .code y_FL_moveToFront b_FL_moveToFront 3 (some .int) :: bw
abbrev w_SO_init : List Cond := .code y_SO_init b_SO_init 1 none :: bw
abbrev w_SO_arrange : List Cond := .code y_SO_arrange b_SO_arrange 4 none :: bw
abbrev w_SO_rankAmongShorter : List Cond := .code y_SO_rankAmongShorter b_SO_rankAmongShorter 5 none :: bw
abbrev w_SO_shorterIsBefore : List Cond := .code y_SO_shorterIsBefore b_SO_shorterIsBefore 5 (some .boolean) :: bw
theorem kw_0 : Cond.methodLink R_CX 3 Lib.objectInit ∈ bw := bw_of (List.mem_append_right _ (List.mem_of_getElem? (i := 14) (by decide +kernel))) (by decide +kernel)
theorem kw_1 : Cond.instanceMethod Lib.objectInit ∈ bw := bw_of (List.mem_append_right _ (List.mem_of_getElem? (i := 15) (by decide +kernel))) (by decide +kernel)
theorem kw_2 : Cond.code Lib.objectInit ⟨#[0xb1]⟩ 1 none ∈ bw := bw_of (List.mem_append_right _ (List.mem_of_getElem? (i := 16) (by decide +kernel))) (by decide +kernel)
theorem kw_3 : Cond.classLink R_CX 9 R_BR ∈ bw := bw_of (List.mem_append_right _ (List.mem_of_getElem? (i := 17) (by decide +kernel))) (by decide +kernel)
theorem kw_4 : Cond.instantiable R_BR 2 ∈ bw := bw_of (List.mem_append_right _ (List.mem_of_getElem? (i := 18) (by decide +kernel))) (by decide +kernel)
theorem kw_5 : Cond.initialized R_BR ∈ bw := bw_of (List.mem_append_right _ (List.mem_of_getElem? (i := 2) (by decide +kernel))) (by decide +kernel)
theorem kw_6 : Cond.code y_BR_init b_BR_init 1 none ∈ bw := bw_of (List.mem_append_right _ (List.mem_of_getElem? (i := 21) (by decide +kernel))) (by decide +kernel)
theorem kw_7 : Cond.methodLink R_CX 11 y_BR_init ∈ bw := bw_of (List.mem_append_right _ (List.mem_of_getElem? (i := 19) (by decide +kernel))) (by decide +kernel)
theorem kw_8 : Cond.instanceMethod y_BR_init ∈ bw := bw_of (List.mem_append_right _ (List.mem_of_getElem? (i := 20) (by decide +kernel))) (by decide +kernel)
theorem kw_9 : Cond.fieldLink R_CX 12 "ColumnIndex" "typed" "LColumnIndex$ByteRow;" ∈ bw := bw_of (List.mem_append_right _ (List.mem_of_getElem? (i := 87) (by decide +kernel))) (by decide +kernel)
theorem kw_10 : Cond.fieldLink R_CX 16 "ColumnIndex" "text" "LColumnIndex$ByteRow;" ∈ bw := bw_of (List.mem_append_right _ (List.mem_of_getElem? (i := 88) (by decide +kernel))) (by decide +kernel)
theorem kw_11 : Cond.fieldLink R_CX 19 "ColumnIndex" "pattern" "LColumnIndex$ByteRow;" ∈ bw := bw_of (List.mem_append_right _ (List.mem_of_getElem? (i := 89) (by decide +kernel))) (by decide +kernel)
theorem kw_12 : Cond.classLink R_CX 22 R_SO ∈ bw := bw_of (List.mem_append_right _ (List.mem_of_getElem? (i := 37) (by decide +kernel))) (by decide +kernel)
theorem kw_13 : Cond.instantiable R_SO 4 ∈ bw := bw_of (List.mem_append_right _ (List.mem_of_getElem? (i := 38) (by decide +kernel))) (by decide +kernel)
theorem kw_14 : Cond.initialized R_SO ∈ bw := bw_of (List.mem_append_right _ (List.mem_of_getElem? (i := 3) (by decide +kernel))) (by decide +kernel)
theorem kw_15 : Cond.code y_SO_init b_SO_init 1 none ∈ bw := bw_of (List.mem_append_right _ (List.mem_of_getElem? (i := 41) (by decide +kernel))) (by decide +kernel)
theorem kw_16 : Cond.methodLink R_CX 24 y_SO_init ∈ bw := bw_of (List.mem_append_right _ (List.mem_of_getElem? (i := 39) (by decide +kernel))) (by decide +kernel)
theorem kw_17 : Cond.instanceMethod y_SO_init ∈ bw := bw_of (List.mem_append_right _ (List.mem_of_getElem? (i := 40) (by decide +kernel))) (by decide +kernel)
theorem kw_18 : Cond.fieldLink R_CX 25 "ColumnIndex" "order" "LColumnIndex$SuffixOrder;" ∈ bw := bw_of (List.mem_append_right _ (List.mem_of_getElem? (i := 90) (by decide +kernel))) (by decide +kernel)
theorem kw_19 : Cond.classLink R_CX 29 R_FL ∈ bw := bw_of (List.mem_append_right _ (List.mem_of_getElem? (i := 60) (by decide +kernel))) (by decide +kernel)
theorem kw_20 : Cond.instantiable R_FL 2 ∈ bw := bw_of (List.mem_append_right _ (List.mem_of_getElem? (i := 61) (by decide +kernel))) (by decide +kernel)
theorem kw_21 : Cond.initialized R_FL ∈ bw := bw_of (List.mem_append_right _ (List.mem_of_getElem? (i := 4) (by decide +kernel))) (by decide +kernel)
theorem kw_22 : Cond.code y_FL_init b_FL_init 1 none ∈ bw := bw_of (List.mem_append_right _ (List.mem_of_getElem? (i := 64) (by decide +kernel))) (by decide +kernel)
theorem kw_23 : Cond.methodLink R_CX 31 y_FL_init ∈ bw := bw_of (List.mem_append_right _ (List.mem_of_getElem? (i := 62) (by decide +kernel))) (by decide +kernel)
theorem kw_24 : Cond.instanceMethod y_FL_init ∈ bw := bw_of (List.mem_append_right _ (List.mem_of_getElem? (i := 63) (by decide +kernel))) (by decide +kernel)
theorem kw_25 : Cond.fieldLink R_CX 32 "ColumnIndex" "front" "LColumnIndex$FrontList;" ∈ bw := bw_of (List.mem_append_right _ (List.mem_of_getElem? (i := 91) (by decide +kernel))) (by decide +kernel)
theorem kw_26 : Cond.classLink R_CX 36 R_CR ∈ bw := bw_of (List.mem_append_right _ (List.mem_of_getElem? (i := 74) (by decide +kernel))) (by decide +kernel)
theorem kw_27 : Cond.instantiable R_CR 2 ∈ bw := bw_of (List.mem_append_right _ (List.mem_of_getElem? (i := 75) (by decide +kernel))) (by decide +kernel)
theorem kw_28 : Cond.initialized R_CR ∈ bw := bw_of (List.mem_append_right _ (List.mem_of_getElem? (i := 5) (by decide +kernel))) (by decide +kernel)
theorem kw_29 : Cond.code y_CR_init b_CR_init 1 none ∈ bw := bw_of (List.mem_append_right _ (List.mem_of_getElem? (i := 78) (by decide +kernel))) (by decide +kernel)
theorem kw_30 : Cond.methodLink R_CX 38 y_CR_init ∈ bw := bw_of (List.mem_append_right _ (List.mem_of_getElem? (i := 76) (by decide +kernel))) (by decide +kernel)
theorem kw_31 : Cond.instanceMethod y_CR_init ∈ bw := bw_of (List.mem_append_right _ (List.mem_of_getElem? (i := 77) (by decide +kernel))) (by decide +kernel)
theorem kw_32 : Cond.fieldLink R_CX 39 "ColumnIndex" "reader" "LColumnIndex$ColumnReader;" ∈ bw := bw_of (List.mem_append_right _ (List.mem_of_getElem? (i := 92) (by decide +kernel))) (by decide +kernel)
theorem kw_33 : Cond.fieldLink R_CX 43 "ColumnIndex$ByteRow" "length" "I" ∈ bw := bw_of (List.mem_append_right _ (List.mem_of_getElem? (i := 30) (by decide +kernel))) (by decide +kernel)
theorem kw_34 : Cond.code y_BR_append b_BR_append 2 none ∈ bw := bw_of (List.mem_append_right _ (List.mem_of_getElem? (i := 113) (by decide +kernel))) (by decide +kernel)
theorem kw_35 : Cond.methodLink R_CX 47 y_BR_append ∈ bw := bw_of (List.mem_append_right _ (List.mem_of_getElem? (i := 110) (by decide +kernel))) (by decide +kernel)
theorem kw_36 : Cond.instanceMethod y_BR_append ∈ bw := bw_of (List.mem_append_right _ (List.mem_of_getElem? (i := 111) (by decide +kernel))) (by decide +kernel)
theorem kw_37 : Cond.selects R_BR y_BR_append y_BR_append ∈ bw := bw_of (List.mem_append_right _ (List.mem_of_getElem? (i := 112) (by decide +kernel))) (by decide +kernel)
theorem kw_38 : Cond.code y_BR_copyFrom b_BR_copyFrom 2 none ∈ bw := bw_of (List.mem_append_right _ (List.mem_of_getElem? (i := 121) (by decide +kernel))) (by decide +kernel)
theorem kw_39 : Cond.methodLink R_CX 51 y_BR_copyFrom ∈ bw := bw_of (List.mem_append_right _ (List.mem_of_getElem? (i := 118) (by decide +kernel))) (by decide +kernel)
theorem kw_40 : Cond.instanceMethod y_BR_copyFrom ∈ bw := bw_of (List.mem_append_right _ (List.mem_of_getElem? (i := 119) (by decide +kernel))) (by decide +kernel)
theorem kw_41 : Cond.selects R_BR y_BR_copyFrom y_BR_copyFrom ∈ bw := bw_of (List.mem_append_right _ (List.mem_of_getElem? (i := 120) (by decide +kernel))) (by decide +kernel)
theorem kw_42 : Cond.code y_BR_clear b_BR_clear 1 none ∈ bw := bw_of (List.mem_append_right _ (List.mem_of_getElem? (i := 128) (by decide +kernel))) (by decide +kernel)
theorem kw_43 : Cond.methodLink R_CX 55 y_BR_clear ∈ bw := bw_of (List.mem_append_right _ (List.mem_of_getElem? (i := 125) (by decide +kernel))) (by decide +kernel)
theorem kw_44 : Cond.instanceMethod y_BR_clear ∈ bw := bw_of (List.mem_append_right _ (List.mem_of_getElem? (i := 126) (by decide +kernel))) (by decide +kernel)
theorem kw_45 : Cond.selects R_BR y_BR_clear y_BR_clear ∈ bw := bw_of (List.mem_append_right _ (List.mem_of_getElem? (i := 127) (by decide +kernel))) (by decide +kernel)
theorem kw_46 : Cond.code y_CX_arrangeText b_CX_arrangeText 1 none ∈ bw := bw_of (List.mem_append_right _ (List.mem_of_getElem? (i := 132) (by decide +kernel))) (by decide +kernel)
theorem kw_47 : Cond.methodLink R_CX 58 y_CX_arrangeText ∈ bw := bw_of (List.mem_append_right _ (List.mem_of_getElem? (i := 129) (by decide +kernel))) (by decide +kernel)
theorem kw_48 : Cond.instanceMethod y_CX_arrangeText ∈ bw := bw_of (List.mem_append_right _ (List.mem_of_getElem? (i := 131) (by decide +kernel))) (by decide +kernel)
theorem kw_49 : Cond.initialized R_CX ∈ bw := bw_of (List.mem_append_right _ (List.mem_of_getElem? (i := 1) (by decide +kernel))) (by decide +kernel)
theorem kw_50 : Cond.selects R_CX y_CX_arrangeText y_CX_arrangeText ∈ bw := by decide +kernel
theorem kw_51 : Cond.fieldLink R_CX 61 "ColumnIndex$ByteRow" "bytes" "[I" ∈ bw := bw_of (List.mem_append_right _ (List.mem_of_getElem? (i := 26) (by decide +kernel))) (by decide +kernel)
theorem kw_52 : Cond.code y_CX_isSuffix b_CX_isSuffix 2 (some .boolean) ∈ bw := bw_of (List.mem_append_right _ (List.mem_of_getElem? (i := 180) (by decide +kernel))) (by decide +kernel)
theorem kw_53 : Cond.methodLink R_CX 65 y_CX_isSuffix ∈ bw := bw_of (List.mem_append_right _ (List.mem_of_getElem? (i := 177) (by decide +kernel))) (by decide +kernel)
theorem kw_54 : Cond.instanceMethod y_CX_isSuffix ∈ bw := bw_of (List.mem_append_right _ (List.mem_of_getElem? (i := 179) (by decide +kernel))) (by decide +kernel)
theorem kw_55 : Cond.selects R_CX y_CX_isSuffix y_CX_isSuffix ∈ bw := by decide +kernel
theorem kw_56 : Cond.fieldLink R_CX 69 "ColumnIndex$SuffixOrder" "suffixAt" "[I" ∈ bw := bw_of (List.mem_append_right _ (List.mem_of_getElem? (i := 44) (by decide +kernel))) (by decide +kernel)
theorem kw_57 : Cond.fieldLink R_CX 72 "ColumnIndex$SuffixOrder" "rankOf" "[I" ∈ bw := bw_of (List.mem_append_right _ (List.mem_of_getElem? (i := 46) (by decide +kernel))) (by decide +kernel)
theorem kw_58 : Cond.fieldLink R_CX 75 "ColumnIndex$SuffixOrder" "columnAt" "[I" ∈ bw := bw_of (List.mem_append_right _ (List.mem_of_getElem? (i := 50) (by decide +kernel))) (by decide +kernel)
theorem kw_59 : Cond.fieldLink R_CX 78 "ColumnIndex$SuffixOrder" "commonAt" "[I" ∈ bw := bw_of (List.mem_append_right _ (List.mem_of_getElem? (i := 48) (by decide +kernel))) (by decide +kernel)
theorem kw_60 : Cond.fieldLink R_CX 81 "ColumnIndex$FrontList" "numberAt" "[I" ∈ bw := bw_of (List.mem_append_right _ (List.mem_of_getElem? (i := 67) (by decide +kernel))) (by decide +kernel)
theorem kw_61 : Cond.methodLink R_CX 84 Lib.Math.min.name ∈ bw := bw_of (List.mem_append_right _ (List.mem_of_getElem? (i := 205) (by decide +kernel))) (by decide +kernel)
theorem kw_62 : Cond.static Lib.Math.min.name ∈ bw := bw_of (List.mem_append_right _ (List.mem_of_getElem? (i := 150) (by decide +kernel))) (by decide +kernel)
theorem kw_63 : Cond.initialized "java/lang/Math" ∈ bw := bw_of (List.mem_append_right _ (List.mem_of_getElem? (i := 8) (by decide +kernel))) (by decide +kernel)
theorem kw_64 : Cond.code Lib.Math.min.name Lib.Math.min.code 2 (some .int) ∈ bw := bw_of (List.mem_append_right _ (List.mem_of_getElem? (i := 151) (by decide +kernel))) (by decide +kernel)
theorem kw_65 : Cond.code y_CX_countHits b_CX_countHits 3 (some .int) ∈ bw := bw_of (List.mem_append_right _ (List.mem_of_getElem? (i := 213) (by decide +kernel))) (by decide +kernel)
theorem kw_66 : Cond.methodLink R_CX 90 y_CX_countHits ∈ bw := bw_of (List.mem_append_right _ (List.mem_of_getElem? (i := 210) (by decide +kernel))) (by decide +kernel)
theorem kw_67 : Cond.instanceMethod y_CX_countHits ∈ bw := bw_of (List.mem_append_right _ (List.mem_of_getElem? (i := 212) (by decide +kernel))) (by decide +kernel)
theorem kw_68 : Cond.selects R_CX y_CX_countHits y_CX_countHits ∈ bw := by decide +kernel
theorem kw_69 : Cond.code y_BR_putInFront b_BR_putInFront 2 none ∈ bw := bw_of (List.mem_append_right _ (List.mem_of_getElem? (i := 226) (by decide +kernel))) (by decide +kernel)
theorem kw_70 : Cond.methodLink R_CX 94 y_BR_putInFront ∈ bw := bw_of (List.mem_append_right _ (List.mem_of_getElem? (i := 223) (by decide +kernel))) (by decide +kernel)
theorem kw_71 : Cond.instanceMethod y_BR_putInFront ∈ bw := bw_of (List.mem_append_right _ (List.mem_of_getElem? (i := 224) (by decide +kernel))) (by decide +kernel)
theorem kw_72 : Cond.selects R_BR y_BR_putInFront y_BR_putInFront ∈ bw := bw_of (List.mem_append_right _ (List.mem_of_getElem? (i := 225) (by decide +kernel))) (by decide +kernel)
theorem kw_73 : Cond.code y_CX_comesBeforePattern b_CX_comesBeforePattern 4 (some .boolean) ∈ bw := bw_of (List.mem_append_right _ (List.mem_of_getElem? (i := 234) (by decide +kernel))) (by decide +kernel)
theorem kw_74 : Cond.methodLink R_CX 97 y_CX_comesBeforePattern ∈ bw := bw_of (List.mem_append_right _ (List.mem_of_getElem? (i := 231) (by decide +kernel))) (by decide +kernel)
theorem kw_75 : Cond.instanceMethod y_CX_comesBeforePattern ∈ bw := bw_of (List.mem_append_right _ (List.mem_of_getElem? (i := 233) (by decide +kernel))) (by decide +kernel)
theorem kw_76 : Cond.selects R_CX y_CX_comesBeforePattern y_CX_comesBeforePattern ∈ bw := by decide +kernel
theorem kw_77 : Cond.code y_CX_patternStandsAt b_CX_patternStandsAt 2 (some .boolean) ∈ bw := bw_of (List.mem_append_right _ (List.mem_of_getElem? (i := 217) (by decide +kernel))) (by decide +kernel)
theorem kw_78 : Cond.methodLink R_CX 100 y_CX_patternStandsAt ∈ bw := bw_of (List.mem_append_right _ (List.mem_of_getElem? (i := 214) (by decide +kernel))) (by decide +kernel)
theorem kw_79 : Cond.instanceMethod y_CX_patternStandsAt ∈ bw := bw_of (List.mem_append_right _ (List.mem_of_getElem? (i := 216) (by decide +kernel))) (by decide +kernel)
theorem kw_80 : Cond.selects R_CX y_CX_patternStandsAt y_CX_patternStandsAt ∈ bw := by decide +kernel
theorem kw_81 : Cond.code y_BR_alike b_BR_alike 6 (some .int) ∈ bw := bw_of (List.mem_append_right _ (List.mem_of_getElem? (i := 148) (by decide +kernel))) (by decide +kernel)
theorem kw_82 : Cond.methodLink R_CX 103 y_BR_alike ∈ bw := bw_of (List.mem_append_right _ (List.mem_of_getElem? (i := 218) (by decide +kernel))) (by decide +kernel)
theorem kw_83 : Cond.instanceMethod y_BR_alike ∈ bw := bw_of (List.mem_append_right _ (List.mem_of_getElem? (i := 146) (by decide +kernel))) (by decide +kernel)
theorem kw_84 : Cond.selects R_BR y_BR_alike y_BR_alike ∈ bw := bw_of (List.mem_append_right _ (List.mem_of_getElem? (i := 147) (by decide +kernel))) (by decide +kernel)
theorem kw_85 : Cond.methodLink R_CX 107 Lib.Math.max.name ∈ bw := bw_of (List.mem_append_right _ (List.mem_of_getElem? (i := 243) (by decide +kernel))) (by decide +kernel)
theorem kw_86 : Cond.static Lib.Math.max.name ∈ bw := bw_of (List.mem_append_right _ (List.mem_of_getElem? (i := 244) (by decide +kernel))) (by decide +kernel)
theorem kw_87 : Cond.code Lib.Math.max.name Lib.Math.max.code 2 (some .int) ∈ bw := bw_of (List.mem_append_right _ (List.mem_of_getElem? (i := 245) (by decide +kernel))) (by decide +kernel)
theorem kw_88 : Cond.code y_CR_take b_CR_take 4 none ∈ bw := bw_of (List.mem_append_right _ (List.mem_of_getElem? (i := 253) (by decide +kernel))) (by decide +kernel)
theorem kw_89 : Cond.methodLink R_CX 110 y_CR_take ∈ bw := bw_of (List.mem_append_right _ (List.mem_of_getElem? (i := 250) (by decide +kernel))) (by decide +kernel)
theorem kw_90 : Cond.instanceMethod y_CR_take ∈ bw := bw_of (List.mem_append_right _ (List.mem_of_getElem? (i := 251) (by decide +kernel))) (by decide +kernel)
theorem kw_91 : Cond.selects R_CR y_CR_take y_CR_take ∈ bw := bw_of (List.mem_append_right _ (List.mem_of_getElem? (i := 252) (by decide +kernel))) (by decide +kernel)
theorem kw_92 : Cond.code y_CR_writeText b_CR_writeText 4 (some .boolean) ∈ bw := bw_of (List.mem_append_right _ (List.mem_of_getElem? (i := 257) (by decide +kernel))) (by decide +kernel)
theorem kw_93 : Cond.methodLink R_CX 114 y_CR_writeText ∈ bw := bw_of (List.mem_append_right _ (List.mem_of_getElem? (i := 254) (by decide +kernel))) (by decide +kernel)
theorem kw_94 : Cond.instanceMethod y_CR_writeText ∈ bw := bw_of (List.mem_append_right _ (List.mem_of_getElem? (i := 255) (by decide +kernel))) (by decide +kernel)
theorem kw_95 : Cond.selects R_CR y_CR_writeText y_CR_writeText ∈ bw := bw_of (List.mem_append_right _ (List.mem_of_getElem? (i := 256) (by decide +kernel))) (by decide +kernel)
theorem kw_96 : Cond.code y_CX_build b_CX_build 1 (some .int) ∈ bw := bw_of (List.mem_append_right _ (List.mem_of_getElem? (i := 117) (by decide +kernel))) (by decide +kernel)
theorem kw_97 : Cond.methodLink R_CX 118 y_CX_build ∈ bw := bw_of (List.mem_append_right _ (List.mem_of_getElem? (i := 262) (by decide +kernel))) (by decide +kernel)
theorem kw_98 : Cond.instanceMethod y_CX_build ∈ bw := bw_of (List.mem_append_right _ (List.mem_of_getElem? (i := 115) (by decide +kernel))) (by decide +kernel)
theorem kw_99 : Cond.selects R_CX y_CX_build y_CX_build ∈ bw := bw_of (List.mem_append_right _ (List.mem_of_getElem? (i := 116) (by decide +kernel))) (by decide +kernel)
theorem kw_100 : Cond.code y_SO_arrange b_SO_arrange 4 none ∈ bw := bw_of (List.mem_append_right _ (List.mem_of_getElem? (i := 136) (by decide +kernel))) (by decide +kernel)
theorem kw_101 : Cond.methodLink R_CX 121 y_SO_arrange ∈ bw := bw_of (List.mem_append_right _ (List.mem_of_getElem? (i := 133) (by decide +kernel))) (by decide +kernel)
theorem kw_102 : Cond.instanceMethod y_SO_arrange ∈ bw := bw_of (List.mem_append_right _ (List.mem_of_getElem? (i := 134) (by decide +kernel))) (by decide +kernel)
theorem kw_103 : Cond.selects R_SO y_SO_arrange y_SO_arrange ∈ bw := bw_of (List.mem_append_right _ (List.mem_of_getElem? (i := 135) (by decide +kernel))) (by decide +kernel)
theorem kw_104 : Cond.code y_FL_numberColumn b_FL_numberColumn 4 none ∈ bw := bw_of (List.mem_append_right _ (List.mem_of_getElem? (i := 155) (by decide +kernel))) (by decide +kernel)
theorem kw_105 : Cond.methodLink R_CX 124 y_FL_numberColumn ∈ bw := bw_of (List.mem_append_right _ (List.mem_of_getElem? (i := 152) (by decide +kernel))) (by decide +kernel)
theorem kw_106 : Cond.instanceMethod y_FL_numberColumn ∈ bw := bw_of (List.mem_append_right _ (List.mem_of_getElem? (i := 153) (by decide +kernel))) (by decide +kernel)
theorem kw_107 : Cond.selects R_FL y_FL_numberColumn y_FL_numberColumn ∈ bw := bw_of (List.mem_append_right _ (List.mem_of_getElem? (i := 154) (by decide +kernel))) (by decide +kernel)
theorem kw_108 : Cond.methodLink R_MO 1 Lib.objectInit ∈ bw := bw_of (List.mem_append_right _ (List.mem_of_getElem? (i := 268) (by decide +kernel))) (by decide +kernel)
theorem kw_109 : Cond.arrayClass .int ∈ bw := bw_of (List.mem_append_right _ (List.mem_of_getElem? (i := 36) (by decide +kernel))) (by decide +kernel)
theorem kw_110 : Cond.fieldLink R_MO 7 "ColumnIndexModel" "typing" "[I" ∈ bw := bw_of (List.mem_append_right _ (List.mem_of_getElem? (i := 270) (by decide +kernel))) (by decide +kernel)
theorem kw_111 : Cond.fieldLink R_MO 13 "ColumnIndexModel" "text" "[I" ∈ bw := bw_of (List.mem_append_right _ (List.mem_of_getElem? (i := 272) (by decide +kernel))) (by decide +kernel)
theorem kw_112 : Cond.fieldLink R_MO 16 "ColumnIndexModel" "order" "[I" ∈ bw := bw_of (List.mem_append_right _ (List.mem_of_getElem? (i := 273) (by decide +kernel))) (by decide +kernel)
theorem kw_113 : Cond.fieldLink R_MO 19 "ColumnIndexModel" "pattern" "[I" ∈ bw := bw_of (List.mem_append_right _ (List.mem_of_getElem? (i := 275) (by decide +kernel))) (by decide +kernel)
theorem kw_114 : Cond.fieldLink R_MO 22 "ColumnIndexModel" "list" "[I" ∈ bw := bw_of (List.mem_append_right _ (List.mem_of_getElem? (i := 276) (by decide +kernel))) (by decide +kernel)
theorem kw_115 : Cond.fieldLink R_MO 25 "ColumnIndexModel" "given" "[I" ∈ bw := bw_of (List.mem_append_right _ (List.mem_of_getElem? (i := 277) (by decide +kernel))) (by decide +kernel)
theorem kw_116 : Cond.fieldLink R_MO 28 "ColumnIndexModel" "old" "[I" ∈ bw := bw_of (List.mem_append_right _ (List.mem_of_getElem? (i := 278) (by decide +kernel))) (by decide +kernel)
theorem kw_117 : Cond.fieldLink R_MO 31 "ColumnIndexModel" "typed" "I" ∈ bw := bw_of (List.mem_append_right _ (List.mem_of_getElem? (i := 269) (by decide +kernel))) (by decide +kernel)
theorem kw_118 : Cond.constantLong R_MO 35 255 ∈ bw := bw_of (List.mem_append_right _ (List.mem_of_getElem? (i := 304) (by decide +kernel))) (by decide +kernel)
theorem kw_119 : Cond.fieldLink R_MO 37 "ColumnIndexModel" "n" "I" ∈ bw := bw_of (List.mem_append_right _ (List.mem_of_getElem? (i := 271) (by decide +kernel))) (by decide +kernel)
theorem kw_120 : Cond.code y_MO_alike b_MO_alike 4 (some .int) ∈ bw := bw_of (List.mem_append_right _ (List.mem_of_getElem? (i := 324) (by decide +kernel))) (by decide +kernel)
theorem kw_121 : Cond.methodLink R_MO 40 y_MO_alike ∈ bw := bw_of (List.mem_append_right _ (List.mem_of_getElem? (i := 321) (by decide +kernel))) (by decide +kernel)
theorem kw_122 : Cond.instanceMethod y_MO_alike ∈ bw := bw_of (List.mem_append_right _ (List.mem_of_getElem? (i := 323) (by decide +kernel))) (by decide +kernel)
theorem kw_123 : Cond.initialized R_MO ∈ bw := bw_of (List.mem_append_right _ (List.mem_of_getElem? (i := 6) (by decide +kernel))) (by decide +kernel)
theorem kw_124 : Cond.selects R_MO y_MO_alike y_MO_alike ∈ bw := by decide +kernel
theorem kw_125 : Cond.code y_MO_isBefore b_MO_isBefore 4 (some .boolean) ∈ bw := bw_of (List.mem_append_right _ (List.mem_of_getElem? (i := 320) (by decide +kernel))) (by decide +kernel)
theorem kw_126 : Cond.methodLink R_MO 44 y_MO_isBefore ∈ bw := bw_of (List.mem_append_right _ (List.mem_of_getElem? (i := 317) (by decide +kernel))) (by decide +kernel)
theorem kw_127 : Cond.instanceMethod y_MO_isBefore ∈ bw := bw_of (List.mem_append_right _ (List.mem_of_getElem? (i := 319) (by decide +kernel))) (by decide +kernel)
theorem kw_128 : Cond.selects R_MO y_MO_isBefore y_MO_isBefore ∈ bw := by decide +kernel
theorem kw_129 : Cond.code y_MO_sort b_MO_sort 3 none ∈ bw := bw_of (List.mem_append_right _ (List.mem_of_getElem? (i := 316) (by decide +kernel))) (by decide +kernel)
theorem kw_130 : Cond.methodLink R_MO 48 y_MO_sort ∈ bw := bw_of (List.mem_append_right _ (List.mem_of_getElem? (i := 313) (by decide +kernel))) (by decide +kernel)
theorem kw_131 : Cond.instanceMethod y_MO_sort ∈ bw := bw_of (List.mem_append_right _ (List.mem_of_getElem? (i := 315) (by decide +kernel))) (by decide +kernel)
theorem kw_132 : Cond.selects R_MO y_MO_sort y_MO_sort ∈ bw := by decide +kernel
theorem kw_133 : Cond.code y_MO_take b_MO_take 2 none ∈ bw := bw_of (List.mem_append_right _ (List.mem_of_getElem? (i := 312) (by decide +kernel))) (by decide +kernel)
theorem kw_134 : Cond.methodLink R_MO 51 y_MO_take ∈ bw := bw_of (List.mem_append_right _ (List.mem_of_getElem? (i := 309) (by decide +kernel))) (by decide +kernel)
theorem kw_135 : Cond.instanceMethod y_MO_take ∈ bw := bw_of (List.mem_append_right _ (List.mem_of_getElem? (i := 311) (by decide +kernel))) (by decide +kernel)
theorem kw_136 : Cond.selects R_MO y_MO_take y_MO_take ∈ bw := by decide +kernel
theorem kw_137 : Cond.code y_MO_before1 b_MO_before1 2 (some .int) ∈ bw := bw_of (List.mem_append_right _ (List.mem_of_getElem? (i := 348) (by decide +kernel))) (by decide +kernel)
theorem kw_138 : Cond.methodLink R_MO 54 y_MO_before1 ∈ bw := bw_of (List.mem_append_right _ (List.mem_of_getElem? (i := 345) (by decide +kernel))) (by decide +kernel)
theorem kw_139 : Cond.instanceMethod y_MO_before1 ∈ bw := bw_of (List.mem_append_right _ (List.mem_of_getElem? (i := 347) (by decide +kernel))) (by decide +kernel)
theorem kw_140 : Cond.selects R_MO y_MO_before1 y_MO_before1 ∈ bw := by decide +kernel
theorem kw_141 : Cond.fieldLink R_MO 58 "ColumnIndexModel" "length" "I" ∈ bw := bw_of (List.mem_append_right _ (List.mem_of_getElem? (i := 274) (by decide +kernel))) (by decide +kernel)
theorem kw_142 : Cond.code y_MO_fits b_MO_fits 4 (some .int) ∈ bw := bw_of (List.mem_append_right _ (List.mem_of_getElem? (i := 376) (by decide +kernel))) (by decide +kernel)
theorem kw_143 : Cond.methodLink R_MO 61 y_MO_fits ∈ bw := bw_of (List.mem_append_right _ (List.mem_of_getElem? (i := 373) (by decide +kernel))) (by decide +kernel)
theorem kw_144 : Cond.instanceMethod y_MO_fits ∈ bw := bw_of (List.mem_append_right _ (List.mem_of_getElem? (i := 375) (by decide +kernel))) (by decide +kernel)
theorem kw_145 : Cond.selects R_MO y_MO_fits y_MO_fits ∈ bw := by decide +kernel
theorem kw_146 : Cond.code y_MO_hits b_MO_hits 3 (some .int) ∈ bw := bw_of (List.mem_append_right _ (List.mem_of_getElem? (i := 372) (by decide +kernel))) (by decide +kernel)
theorem kw_147 : Cond.methodLink R_MO 64 y_MO_hits ∈ bw := bw_of (List.mem_append_right _ (List.mem_of_getElem? (i := 369) (by decide +kernel))) (by decide +kernel)
theorem kw_148 : Cond.instanceMethod y_MO_hits ∈ bw := bw_of (List.mem_append_right _ (List.mem_of_getElem? (i := 371) (by decide +kernel))) (by decide +kernel)
theorem kw_149 : Cond.selects R_MO y_MO_hits y_MO_hits ∈ bw := by decide +kernel
theorem kw_150 : Cond.code y_MO_longer b_MO_longer 5 (some .int) ∈ bw := bw_of (List.mem_append_right _ (List.mem_of_getElem? (i := 404) (by decide +kernel))) (by decide +kernel)
theorem kw_151 : Cond.methodLink R_MO 68 y_MO_longer ∈ bw := bw_of (List.mem_append_right _ (List.mem_of_getElem? (i := 401) (by decide +kernel))) (by decide +kernel)
theorem kw_152 : Cond.instanceMethod y_MO_longer ∈ bw := bw_of (List.mem_append_right _ (List.mem_of_getElem? (i := 403) (by decide +kernel))) (by decide +kernel)
theorem kw_153 : Cond.selects R_MO y_MO_longer y_MO_longer ∈ bw := by decide +kernel
theorem kw_154 : Cond.code y_MO_turnBack b_MO_turnBack 4 (some .boolean) ∈ bw := bw_of (List.mem_append_right _ (List.mem_of_getElem? (i := 400) (by decide +kernel))) (by decide +kernel)
theorem kw_155 : Cond.methodLink R_MO 71 y_MO_turnBack ∈ bw := bw_of (List.mem_append_right _ (List.mem_of_getElem? (i := 397) (by decide +kernel))) (by decide +kernel)
theorem kw_156 : Cond.instanceMethod y_MO_turnBack ∈ bw := bw_of (List.mem_append_right _ (List.mem_of_getElem? (i := 399) (by decide +kernel))) (by decide +kernel)
theorem kw_157 : Cond.selects R_MO y_MO_turnBack y_MO_turnBack ∈ bw := by decide +kernel
theorem kw_158 : Cond.methodLink R_BR 3 Lib.objectInit ∈ bw := bw_of (List.mem_append_right _ (List.mem_of_getElem? (i := 22) (by decide +kernel))) (by decide +kernel)
theorem kw_159 : Cond.fieldLink R_BR 9 "ColumnIndex$ByteRow" "bytes" "[I" ∈ bw := bw_of (List.mem_append_right _ (List.mem_of_getElem? (i := 23) (by decide +kernel))) (by decide +kernel)
theorem kw_160 : Cond.fieldLink R_BR 15 "ColumnIndex$ByteRow" "length" "I" ∈ bw := bw_of (List.mem_append_right _ (List.mem_of_getElem? (i := 27) (by decide +kernel))) (by decide +kernel)
theorem kw_161 : Cond.methodLink R_BR 19 arraycopyName ∈ bw := bw_of (List.mem_append_right _ (List.mem_of_getElem? (i := 122) (by decide +kernel))) (by decide +kernel)
theorem kw_162 : Cond.native arraycopyName ∈ bw := bw_of (List.mem_append_right _ (List.mem_of_getElem? (i := 124) (by decide +kernel))) (by decide +kernel)
theorem kw_163 : Cond.static arraycopyName ∈ bw := bw_of (List.mem_append_right _ (List.mem_of_getElem? (i := 123) (by decide +kernel))) (by decide +kernel)
theorem kw_164 : Cond.initialized "java/lang/System" ∈ bw := bw_of (List.mem_append_right _ (List.mem_of_getElem? (i := 7) (by decide +kernel))) (by decide +kernel)
theorem kw_165 : Cond.methodLink R_BR 25 Lib.Math.min.name ∈ bw := bw_of (List.mem_append_right _ (List.mem_of_getElem? (i := 149) (by decide +kernel))) (by decide +kernel)
theorem kw_166 : Cond.methodLink R_CR 3 Lib.objectInit ∈ bw := bw_of (List.mem_append_right _ (List.mem_of_getElem? (i := 79) (by decide +kernel))) (by decide +kernel)
theorem kw_167 : Cond.fieldLink R_CR 9 "ColumnIndex$ColumnReader" "column" "[I" ∈ bw := bw_of (List.mem_append_right _ (List.mem_of_getElem? (i := 80) (by decide +kernel))) (by decide +kernel)
theorem kw_168 : Cond.fieldLink R_CR 15 "ColumnIndex$ColumnReader" "lastRank" "I" ∈ bw := bw_of (List.mem_append_right _ (List.mem_of_getElem? (i := 81) (by decide +kernel))) (by decide +kernel)
theorem kw_169 : Cond.fieldLink R_CR 19 "ColumnIndex$ByteRow" "length" "I" ∈ bw := bw_of (List.mem_append_right _ (List.mem_of_getElem? (i := 29) (by decide +kernel))) (by decide +kernel)
theorem kw_170 : Cond.fieldLink R_CR 24 "ColumnIndex$ByteRow" "bytes" "[I" ∈ bw := bw_of (List.mem_append_right _ (List.mem_of_getElem? (i := 24) (by decide +kernel))) (by decide +kernel)
theorem kw_171 : Cond.code y_CR_rankOfLonger b_CR_rankOfLonger 4 (some .int) ∈ bw := bw_of (List.mem_append_right _ (List.mem_of_getElem? (i := 261) (by decide +kernel))) (by decide +kernel)
theorem kw_172 : Cond.methodLink R_CR 27 y_CR_rankOfLonger ∈ bw := bw_of (List.mem_append_right _ (List.mem_of_getElem? (i := 258) (by decide +kernel))) (by decide +kernel)
theorem kw_173 : Cond.instanceMethod y_CR_rankOfLonger ∈ bw := bw_of (List.mem_append_right _ (List.mem_of_getElem? (i := 260) (by decide +kernel))) (by decide +kernel)
theorem kw_174 : Cond.selects R_CR y_CR_rankOfLonger y_CR_rankOfLonger ∈ bw := by decide +kernel
theorem kw_175 : Cond.methodLink R_FL 3 Lib.objectInit ∈ bw := bw_of (List.mem_append_right _ (List.mem_of_getElem? (i := 65) (by decide +kernel))) (by decide +kernel)
theorem kw_176 : Cond.fieldLink R_FL 9 "ColumnIndex$FrontList" "numberAt" "[I" ∈ bw := bw_of (List.mem_append_right _ (List.mem_of_getElem? (i := 66) (by decide +kernel))) (by decide +kernel)
theorem kw_177 : Cond.fieldLink R_FL 15 "ColumnIndex$FrontList" "list" "[I" ∈ bw := bw_of (List.mem_append_right _ (List.mem_of_getElem? (i := 68) (by decide +kernel))) (by decide +kernel)
theorem kw_178 : Cond.code y_FL_startAgain b_FL_startAgain 2 none ∈ bw := bw_of (List.mem_append_right _ (List.mem_of_getElem? (i := 159) (by decide +kernel))) (by decide +kernel)
theorem kw_179 : Cond.methodLink R_FL 18 y_FL_startAgain ∈ bw := bw_of (List.mem_append_right _ (List.mem_of_getElem? (i := 156) (by decide +kernel))) (by decide +kernel)
theorem kw_180 : Cond.instanceMethod y_FL_startAgain ∈ bw := bw_of (List.mem_append_right _ (List.mem_of_getElem? (i := 158) (by decide +kernel))) (by decide +kernel)
theorem kw_181 : Cond.selects R_FL y_FL_startAgain y_FL_startAgain ∈ bw := by decide +kernel
theorem kw_182 : Cond.code y_FL_moveToFront b_FL_moveToFront 3 (some .int) ∈ bw := bw_of (List.mem_append_right _ (List.mem_of_getElem? (i := 163) (by decide +kernel))) (by decide +kernel)
theorem kw_183 : Cond.methodLink R_FL 21 y_FL_moveToFront ∈ bw := bw_of (List.mem_append_right _ (List.mem_of_getElem? (i := 160) (by decide +kernel))) (by decide +kernel)
theorem kw_184 : Cond.instanceMethod y_FL_moveToFront ∈ bw := bw_of (List.mem_append_right _ (List.mem_of_getElem? (i := 162) (by decide +kernel))) (by decide +kernel)
theorem kw_185 : Cond.selects R_FL y_FL_moveToFront y_FL_moveToFront ∈ bw := by decide +kernel
theorem kw_186 : Cond.methodLink R_FL 25 arraycopyName ∈ bw := bw_of (List.mem_append_right _ (List.mem_of_getElem? (i := 164) (by decide +kernel))) (by decide +kernel)
theorem kw_187 : Cond.methodLink R_SO 3 Lib.objectInit ∈ bw := bw_of (List.mem_append_right _ (List.mem_of_getElem? (i := 42) (by decide +kernel))) (by decide +kernel)
theorem kw_188 : Cond.fieldLink R_SO 9 "ColumnIndex$SuffixOrder" "suffixAt" "[I" ∈ bw := bw_of (List.mem_append_right _ (List.mem_of_getElem? (i := 43) (by decide +kernel))) (by decide +kernel)
theorem kw_189 : Cond.fieldLink R_SO 15 "ColumnIndex$SuffixOrder" "rankOf" "[I" ∈ bw := bw_of (List.mem_append_right _ (List.mem_of_getElem? (i := 45) (by decide +kernel))) (by decide +kernel)
theorem kw_190 : Cond.fieldLink R_SO 18 "ColumnIndex$SuffixOrder" "commonAt" "[I" ∈ bw := bw_of (List.mem_append_right _ (List.mem_of_getElem? (i := 47) (by decide +kernel))) (by decide +kernel)
theorem kw_191 : Cond.fieldLink R_SO 21 "ColumnIndex$SuffixOrder" "columnAt" "[I" ∈ bw := bw_of (List.mem_append_right _ (List.mem_of_getElem? (i := 49) (by decide +kernel))) (by decide +kernel)
theorem kw_192 : Cond.fieldLink R_SO 24 "ColumnIndex$ByteRow" "length" "I" ∈ bw := bw_of (List.mem_append_right _ (List.mem_of_getElem? (i := 28) (by decide +kernel))) (by decide +kernel)
theorem kw_193 : Cond.code y_SO_rankAmongShorter b_SO_rankAmongShorter 5 none ∈ bw := bw_of (List.mem_append_right _ (List.mem_of_getElem? (i := 140) (by decide +kernel))) (by decide +kernel)
theorem kw_194 : Cond.methodLink R_SO 30 y_SO_rankAmongShorter ∈ bw := bw_of (List.mem_append_right _ (List.mem_of_getElem? (i := 137) (by decide +kernel))) (by decide +kernel)
theorem kw_195 : Cond.instanceMethod y_SO_rankAmongShorter ∈ bw := bw_of (List.mem_append_right _ (List.mem_of_getElem? (i := 139) (by decide +kernel))) (by decide +kernel)
theorem kw_196 : Cond.selects R_SO y_SO_rankAmongShorter y_SO_rankAmongShorter ∈ bw := by decide +kernel
theorem kw_197 : Cond.fieldLink R_SO 34 "ColumnIndex$ByteRow" "bytes" "[I" ∈ bw := bw_of (List.mem_append_right _ (List.mem_of_getElem? (i := 25) (by decide +kernel))) (by decide +kernel)
theorem kw_198 : Cond.methodLink R_SO 37 y_BR_alike ∈ bw := bw_of (List.mem_append_right _ (List.mem_of_getElem? (i := 145) (by decide +kernel))) (by decide +kernel)
theorem kw_199 : Cond.code y_SO_shorterIsBefore b_SO_shorterIsBefore 5 (some .boolean) ∈ bw := bw_of (List.mem_append_right _ (List.mem_of_getElem? (i := 144) (by decide +kernel))) (by decide +kernel)
theorem kw_200 : Cond.methodLink R_SO 41 y_SO_shorterIsBefore ∈ bw := bw_of (List.mem_append_right _ (List.mem_of_getElem? (i := 141) (by decide +kernel))) (by decide +kernel)
theorem kw_201 : Cond.instanceMethod y_SO_shorterIsBefore ∈ bw := bw_of (List.mem_append_right _ (List.mem_of_getElem? (i := 143) (by decide +kernel))) (by decide +kernel)
theorem kw_202 : Cond.selects R_SO y_SO_shorterIsBefore y_SO_shorterIsBefore ∈ bw := by decide +kernel
theorem kw_203 : Cond.classLink R_LW 7 R_CX ∈ bw := bw_of (List.mem_append_right _ (List.mem_of_getElem? (i := 9) (by decide +kernel))) (by decide +kernel)
theorem kw_204 : Cond.instantiable R_CX 6 ∈ bw := bw_of (List.mem_append_right _ (List.mem_of_getElem? (i := 10) (by decide +kernel))) (by decide +kernel)
theorem kw_205 : Cond.code y_CX_init b_CX_init 1 none ∈ bw := bw_of (List.mem_append_right _ (List.mem_of_getElem? (i := 13) (by decide +kernel))) (by decide +kernel)
theorem kw_206 : Cond.methodLink R_LW 9 y_CX_init ∈ bw := bw_of (List.mem_append_right _ (List.mem_of_getElem? (i := 11) (by decide +kernel))) (by decide +kernel)
theorem kw_207 : Cond.instanceMethod y_CX_init ∈ bw := bw_of (List.mem_append_right _ (List.mem_of_getElem? (i := 12) (by decide +kernel))) (by decide +kernel)
theorem kw_208 : Cond.classLink R_LW 10 R_MO ∈ bw := bw_of (List.mem_append_right _ (List.mem_of_getElem? (i := 263) (by decide +kernel))) (by decide +kernel)
theorem kw_209 : Cond.instantiable R_MO 10 ∈ bw := bw_of (List.mem_append_right _ (List.mem_of_getElem? (i := 264) (by decide +kernel))) (by decide +kernel)
theorem kw_210 : Cond.code y_MO_init b_MO_init 1 none ∈ bw := bw_of (List.mem_append_right _ (List.mem_of_getElem? (i := 267) (by decide +kernel))) (by decide +kernel)
theorem kw_211 : Cond.methodLink R_LW 12 y_MO_init ∈ bw := bw_of (List.mem_append_right _ (List.mem_of_getElem? (i := 265) (by decide +kernel))) (by decide +kernel)
theorem kw_212 : Cond.instanceMethod y_MO_init ∈ bw := bw_of (List.mem_append_right _ (List.mem_of_getElem? (i := 266) (by decide +kernel))) (by decide +kernel)
theorem kw_213 : Cond.constantLong R_LW 13 4294967295 ∈ bw := bw_of (List.mem_append_right _ (List.mem_of_getElem? (i := 405) (by decide +kernel))) (by decide +kernel)
theorem kw_214 : Cond.code y_CX_type b_CX_type 5 (some .int) ∈ bw := bw_of (List.mem_append_right _ (List.mem_of_getElem? (i := 109) (by decide +kernel))) (by decide +kernel)
theorem kw_215 : Cond.methodLink R_LW 15 y_CX_type ∈ bw := bw_of (List.mem_append_right _ (List.mem_of_getElem? (i := 106) (by decide +kernel))) (by decide +kernel)
theorem kw_216 : Cond.instanceMethod y_CX_type ∈ bw := bw_of (List.mem_append_right _ (List.mem_of_getElem? (i := 107) (by decide +kernel))) (by decide +kernel)
theorem kw_217 : Cond.selects R_CX y_CX_type y_CX_type ∈ bw := bw_of (List.mem_append_right _ (List.mem_of_getElem? (i := 108) (by decide +kernel))) (by decide +kernel)
theorem kw_218 : Cond.code y_MO_type b_MO_type 5 (some .int) ∈ bw := bw_of (List.mem_append_right _ (List.mem_of_getElem? (i := 303) (by decide +kernel))) (by decide +kernel)
theorem kw_219 : Cond.methodLink R_LW 19 y_MO_type ∈ bw := bw_of (List.mem_append_right _ (List.mem_of_getElem? (i := 300) (by decide +kernel))) (by decide +kernel)
theorem kw_220 : Cond.instanceMethod y_MO_type ∈ bw := bw_of (List.mem_append_right _ (List.mem_of_getElem? (i := 301) (by decide +kernel))) (by decide +kernel)
theorem kw_221 : Cond.selects R_MO y_MO_type y_MO_type ∈ bw := bw_of (List.mem_append_right _ (List.mem_of_getElem? (i := 302) (by decide +kernel))) (by decide +kernel)
theorem kw_222 : Cond.methodLink R_LW 20 y_CX_build ∈ bw := bw_of (List.mem_append_right _ (List.mem_of_getElem? (i := 114) (by decide +kernel))) (by decide +kernel)
theorem kw_223 : Cond.code y_MO_build b_MO_build 1 (some .int) ∈ bw := bw_of (List.mem_append_right _ (List.mem_of_getElem? (i := 308) (by decide +kernel))) (by decide +kernel)
theorem kw_224 : Cond.methodLink R_LW 24 y_MO_build ∈ bw := bw_of (List.mem_append_right _ (List.mem_of_getElem? (i := 305) (by decide +kernel))) (by decide +kernel)
theorem kw_225 : Cond.instanceMethod y_MO_build ∈ bw := bw_of (List.mem_append_right _ (List.mem_of_getElem? (i := 306) (by decide +kernel))) (by decide +kernel)
theorem kw_226 : Cond.selects R_MO y_MO_build y_MO_build ∈ bw := bw_of (List.mem_append_right _ (List.mem_of_getElem? (i := 307) (by decide +kernel))) (by decide +kernel)
theorem kw_227 : Cond.code y_CX_size b_CX_size 1 (some .int) ∈ bw := bw_of (List.mem_append_right _ (List.mem_of_getElem? (i := 168) (by decide +kernel))) (by decide +kernel)
theorem kw_228 : Cond.methodLink R_LW 25 y_CX_size ∈ bw := bw_of (List.mem_append_right _ (List.mem_of_getElem? (i := 165) (by decide +kernel))) (by decide +kernel)
theorem kw_229 : Cond.instanceMethod y_CX_size ∈ bw := bw_of (List.mem_append_right _ (List.mem_of_getElem? (i := 166) (by decide +kernel))) (by decide +kernel)
theorem kw_230 : Cond.selects R_CX y_CX_size y_CX_size ∈ bw := bw_of (List.mem_append_right _ (List.mem_of_getElem? (i := 167) (by decide +kernel))) (by decide +kernel)
theorem kw_231 : Cond.code y_MO_size b_MO_size 1 (some .int) ∈ bw := bw_of (List.mem_append_right _ (List.mem_of_getElem? (i := 328) (by decide +kernel))) (by decide +kernel)
theorem kw_232 : Cond.methodLink R_LW 28 y_MO_size ∈ bw := bw_of (List.mem_append_right _ (List.mem_of_getElem? (i := 325) (by decide +kernel))) (by decide +kernel)
theorem kw_233 : Cond.instanceMethod y_MO_size ∈ bw := bw_of (List.mem_append_right _ (List.mem_of_getElem? (i := 326) (by decide +kernel))) (by decide +kernel)
theorem kw_234 : Cond.selects R_MO y_MO_size y_MO_size ∈ bw := bw_of (List.mem_append_right _ (List.mem_of_getElem? (i := 327) (by decide +kernel))) (by decide +kernel)
theorem kw_235 : Cond.code y_CX_at b_CX_at 2 (some .int) ∈ bw := bw_of (List.mem_append_right _ (List.mem_of_getElem? (i := 172) (by decide +kernel))) (by decide +kernel)
theorem kw_236 : Cond.methodLink R_LW 29 y_CX_at ∈ bw := bw_of (List.mem_append_right _ (List.mem_of_getElem? (i := 169) (by decide +kernel))) (by decide +kernel)
theorem kw_237 : Cond.instanceMethod y_CX_at ∈ bw := bw_of (List.mem_append_right _ (List.mem_of_getElem? (i := 170) (by decide +kernel))) (by decide +kernel)
theorem kw_238 : Cond.selects R_CX y_CX_at y_CX_at ∈ bw := bw_of (List.mem_append_right _ (List.mem_of_getElem? (i := 171) (by decide +kernel))) (by decide +kernel)
theorem kw_239 : Cond.code y_MO_at b_MO_at 2 (some .int) ∈ bw := bw_of (List.mem_append_right _ (List.mem_of_getElem? (i := 332) (by decide +kernel))) (by decide +kernel)
theorem kw_240 : Cond.methodLink R_LW 33 y_MO_at ∈ bw := bw_of (List.mem_append_right _ (List.mem_of_getElem? (i := 329) (by decide +kernel))) (by decide +kernel)
theorem kw_241 : Cond.instanceMethod y_MO_at ∈ bw := bw_of (List.mem_append_right _ (List.mem_of_getElem? (i := 330) (by decide +kernel))) (by decide +kernel)
theorem kw_242 : Cond.selects R_MO y_MO_at y_MO_at ∈ bw := bw_of (List.mem_append_right _ (List.mem_of_getElem? (i := 331) (by decide +kernel))) (by decide +kernel)
theorem kw_243 : Cond.code y_CX_suffix b_CX_suffix 2 (some .int) ∈ bw := bw_of (List.mem_append_right _ (List.mem_of_getElem? (i := 176) (by decide +kernel))) (by decide +kernel)
theorem kw_244 : Cond.methodLink R_LW 34 y_CX_suffix ∈ bw := bw_of (List.mem_append_right _ (List.mem_of_getElem? (i := 173) (by decide +kernel))) (by decide +kernel)
theorem kw_245 : Cond.instanceMethod y_CX_suffix ∈ bw := bw_of (List.mem_append_right _ (List.mem_of_getElem? (i := 174) (by decide +kernel))) (by decide +kernel)
theorem kw_246 : Cond.selects R_CX y_CX_suffix y_CX_suffix ∈ bw := bw_of (List.mem_append_right _ (List.mem_of_getElem? (i := 175) (by decide +kernel))) (by decide +kernel)
theorem kw_247 : Cond.code y_MO_suffix b_MO_suffix 2 (some .int) ∈ bw := bw_of (List.mem_append_right _ (List.mem_of_getElem? (i := 336) (by decide +kernel))) (by decide +kernel)
theorem kw_248 : Cond.methodLink R_LW 37 y_MO_suffix ∈ bw := bw_of (List.mem_append_right _ (List.mem_of_getElem? (i := 333) (by decide +kernel))) (by decide +kernel)
theorem kw_249 : Cond.instanceMethod y_MO_suffix ∈ bw := bw_of (List.mem_append_right _ (List.mem_of_getElem? (i := 334) (by decide +kernel))) (by decide +kernel)
theorem kw_250 : Cond.selects R_MO y_MO_suffix y_MO_suffix ∈ bw := bw_of (List.mem_append_right _ (List.mem_of_getElem? (i := 335) (by decide +kernel))) (by decide +kernel)
theorem kw_251 : Cond.code y_CX_rank b_CX_rank 2 (some .int) ∈ bw := bw_of (List.mem_append_right _ (List.mem_of_getElem? (i := 184) (by decide +kernel))) (by decide +kernel)
theorem kw_252 : Cond.methodLink R_LW 38 y_CX_rank ∈ bw := bw_of (List.mem_append_right _ (List.mem_of_getElem? (i := 181) (by decide +kernel))) (by decide +kernel)
theorem kw_253 : Cond.instanceMethod y_CX_rank ∈ bw := bw_of (List.mem_append_right _ (List.mem_of_getElem? (i := 182) (by decide +kernel))) (by decide +kernel)
theorem kw_254 : Cond.selects R_CX y_CX_rank y_CX_rank ∈ bw := bw_of (List.mem_append_right _ (List.mem_of_getElem? (i := 183) (by decide +kernel))) (by decide +kernel)
theorem kw_255 : Cond.code y_MO_rank b_MO_rank 4 (some .int) ∈ bw := bw_of (List.mem_append_right _ (List.mem_of_getElem? (i := 340) (by decide +kernel))) (by decide +kernel)
theorem kw_256 : Cond.methodLink R_LW 41 y_MO_rank ∈ bw := bw_of (List.mem_append_right _ (List.mem_of_getElem? (i := 337) (by decide +kernel))) (by decide +kernel)
theorem kw_257 : Cond.instanceMethod y_MO_rank ∈ bw := bw_of (List.mem_append_right _ (List.mem_of_getElem? (i := 338) (by decide +kernel))) (by decide +kernel)
theorem kw_258 : Cond.selects R_MO y_MO_rank y_MO_rank ∈ bw := bw_of (List.mem_append_right _ (List.mem_of_getElem? (i := 339) (by decide +kernel))) (by decide +kernel)
theorem kw_259 : Cond.code y_CX_column b_CX_column 2 (some .int) ∈ bw := bw_of (List.mem_append_right _ (List.mem_of_getElem? (i := 188) (by decide +kernel))) (by decide +kernel)
theorem kw_260 : Cond.methodLink R_LW 42 y_CX_column ∈ bw := bw_of (List.mem_append_right _ (List.mem_of_getElem? (i := 185) (by decide +kernel))) (by decide +kernel)
theorem kw_261 : Cond.instanceMethod y_CX_column ∈ bw := bw_of (List.mem_append_right _ (List.mem_of_getElem? (i := 186) (by decide +kernel))) (by decide +kernel)
theorem kw_262 : Cond.selects R_CX y_CX_column y_CX_column ∈ bw := bw_of (List.mem_append_right _ (List.mem_of_getElem? (i := 187) (by decide +kernel))) (by decide +kernel)
theorem kw_263 : Cond.code y_MO_column b_MO_column 2 (some .int) ∈ bw := bw_of (List.mem_append_right _ (List.mem_of_getElem? (i := 344) (by decide +kernel))) (by decide +kernel)
theorem kw_264 : Cond.methodLink R_LW 45 y_MO_column ∈ bw := bw_of (List.mem_append_right _ (List.mem_of_getElem? (i := 341) (by decide +kernel))) (by decide +kernel)
theorem kw_265 : Cond.instanceMethod y_MO_column ∈ bw := bw_of (List.mem_append_right _ (List.mem_of_getElem? (i := 342) (by decide +kernel))) (by decide +kernel)
theorem kw_266 : Cond.selects R_MO y_MO_column y_MO_column ∈ bw := bw_of (List.mem_append_right _ (List.mem_of_getElem? (i := 343) (by decide +kernel))) (by decide +kernel)
theorem kw_267 : Cond.code y_CX_common b_CX_common 2 (some .int) ∈ bw := bw_of (List.mem_append_right _ (List.mem_of_getElem? (i := 192) (by decide +kernel))) (by decide +kernel)
theorem kw_268 : Cond.methodLink R_LW 46 y_CX_common ∈ bw := bw_of (List.mem_append_right _ (List.mem_of_getElem? (i := 189) (by decide +kernel))) (by decide +kernel)
theorem kw_269 : Cond.instanceMethod y_CX_common ∈ bw := bw_of (List.mem_append_right _ (List.mem_of_getElem? (i := 190) (by decide +kernel))) (by decide +kernel)
theorem kw_270 : Cond.selects R_CX y_CX_common y_CX_common ∈ bw := bw_of (List.mem_append_right _ (List.mem_of_getElem? (i := 191) (by decide +kernel))) (by decide +kernel)
theorem kw_271 : Cond.code y_MO_common b_MO_common 2 (some .int) ∈ bw := bw_of (List.mem_append_right _ (List.mem_of_getElem? (i := 352) (by decide +kernel))) (by decide +kernel)
theorem kw_272 : Cond.methodLink R_LW 49 y_MO_common ∈ bw := bw_of (List.mem_append_right _ (List.mem_of_getElem? (i := 349) (by decide +kernel))) (by decide +kernel)
theorem kw_273 : Cond.instanceMethod y_MO_common ∈ bw := bw_of (List.mem_append_right _ (List.mem_of_getElem? (i := 350) (by decide +kernel))) (by decide +kernel)
theorem kw_274 : Cond.selects R_MO y_MO_common y_MO_common ∈ bw := bw_of (List.mem_append_right _ (List.mem_of_getElem? (i := 351) (by decide +kernel))) (by decide +kernel)
theorem kw_275 : Cond.code y_CX_moved b_CX_moved 2 (some .int) ∈ bw := bw_of (List.mem_append_right _ (List.mem_of_getElem? (i := 196) (by decide +kernel))) (by decide +kernel)
theorem kw_276 : Cond.methodLink R_LW 50 y_CX_moved ∈ bw := bw_of (List.mem_append_right _ (List.mem_of_getElem? (i := 193) (by decide +kernel))) (by decide +kernel)
theorem kw_277 : Cond.instanceMethod y_CX_moved ∈ bw := bw_of (List.mem_append_right _ (List.mem_of_getElem? (i := 194) (by decide +kernel))) (by decide +kernel)
theorem kw_278 : Cond.selects R_CX y_CX_moved y_CX_moved ∈ bw := bw_of (List.mem_append_right _ (List.mem_of_getElem? (i := 195) (by decide +kernel))) (by decide +kernel)
theorem kw_279 : Cond.code y_MO_moved b_MO_moved 6 (some .int) ∈ bw := bw_of (List.mem_append_right _ (List.mem_of_getElem? (i := 356) (by decide +kernel))) (by decide +kernel)
theorem kw_280 : Cond.methodLink R_LW 53 y_MO_moved ∈ bw := bw_of (List.mem_append_right _ (List.mem_of_getElem? (i := 353) (by decide +kernel))) (by decide +kernel)
theorem kw_281 : Cond.instanceMethod y_MO_moved ∈ bw := bw_of (List.mem_append_right _ (List.mem_of_getElem? (i := 354) (by decide +kernel))) (by decide +kernel)
theorem kw_282 : Cond.selects R_MO y_MO_moved y_MO_moved ∈ bw := bw_of (List.mem_append_right _ (List.mem_of_getElem? (i := 355) (by decide +kernel))) (by decide +kernel)
theorem kw_283 : Cond.code y_CX_distinct b_CX_distinct 4 (some .int) ∈ bw := bw_of (List.mem_append_right _ (List.mem_of_getElem? (i := 200) (by decide +kernel))) (by decide +kernel)
theorem kw_284 : Cond.methodLink R_LW 54 y_CX_distinct ∈ bw := bw_of (List.mem_append_right _ (List.mem_of_getElem? (i := 197) (by decide +kernel))) (by decide +kernel)
theorem kw_285 : Cond.instanceMethod y_CX_distinct ∈ bw := bw_of (List.mem_append_right _ (List.mem_of_getElem? (i := 198) (by decide +kernel))) (by decide +kernel)
theorem kw_286 : Cond.selects R_CX y_CX_distinct y_CX_distinct ∈ bw := bw_of (List.mem_append_right _ (List.mem_of_getElem? (i := 199) (by decide +kernel))) (by decide +kernel)
theorem kw_287 : Cond.code y_MO_distinct b_MO_distinct 3 (some .int) ∈ bw := bw_of (List.mem_append_right _ (List.mem_of_getElem? (i := 360) (by decide +kernel))) (by decide +kernel)
theorem kw_288 : Cond.methodLink R_LW 57 y_MO_distinct ∈ bw := bw_of (List.mem_append_right _ (List.mem_of_getElem? (i := 357) (by decide +kernel))) (by decide +kernel)
theorem kw_289 : Cond.instanceMethod y_MO_distinct ∈ bw := bw_of (List.mem_append_right _ (List.mem_of_getElem? (i := 358) (by decide +kernel))) (by decide +kernel)
theorem kw_290 : Cond.selects R_MO y_MO_distinct y_MO_distinct ∈ bw := bw_of (List.mem_append_right _ (List.mem_of_getElem? (i := 359) (by decide +kernel))) (by decide +kernel)
theorem kw_291 : Cond.code y_CX_repeat b_CX_repeat 6 (some .int) ∈ bw := bw_of (List.mem_append_right _ (List.mem_of_getElem? (i := 204) (by decide +kernel))) (by decide +kernel)
theorem kw_292 : Cond.methodLink R_LW 58 y_CX_repeat ∈ bw := bw_of (List.mem_append_right _ (List.mem_of_getElem? (i := 201) (by decide +kernel))) (by decide +kernel)
theorem kw_293 : Cond.instanceMethod y_CX_repeat ∈ bw := bw_of (List.mem_append_right _ (List.mem_of_getElem? (i := 202) (by decide +kernel))) (by decide +kernel)
theorem kw_294 : Cond.selects R_CX y_CX_repeat y_CX_repeat ∈ bw := bw_of (List.mem_append_right _ (List.mem_of_getElem? (i := 203) (by decide +kernel))) (by decide +kernel)
theorem kw_295 : Cond.code y_MO_repeat b_MO_repeat 6 (some .int) ∈ bw := bw_of (List.mem_append_right _ (List.mem_of_getElem? (i := 364) (by decide +kernel))) (by decide +kernel)
theorem kw_296 : Cond.methodLink R_LW 61 y_MO_repeat ∈ bw := bw_of (List.mem_append_right _ (List.mem_of_getElem? (i := 361) (by decide +kernel))) (by decide +kernel)
theorem kw_297 : Cond.instanceMethod y_MO_repeat ∈ bw := bw_of (List.mem_append_right _ (List.mem_of_getElem? (i := 362) (by decide +kernel))) (by decide +kernel)
theorem kw_298 : Cond.selects R_MO y_MO_repeat y_MO_repeat ∈ bw := bw_of (List.mem_append_right _ (List.mem_of_getElem? (i := 363) (by decide +kernel))) (by decide +kernel)
theorem kw_299 : Cond.code y_CX_seek b_CX_seek 1 (some .int) ∈ bw := bw_of (List.mem_append_right _ (List.mem_of_getElem? (i := 209) (by decide +kernel))) (by decide +kernel)
theorem kw_300 : Cond.methodLink R_LW 62 y_CX_seek ∈ bw := bw_of (List.mem_append_right _ (List.mem_of_getElem? (i := 206) (by decide +kernel))) (by decide +kernel)
theorem kw_301 : Cond.instanceMethod y_CX_seek ∈ bw := bw_of (List.mem_append_right _ (List.mem_of_getElem? (i := 207) (by decide +kernel))) (by decide +kernel)
theorem kw_302 : Cond.selects R_CX y_CX_seek y_CX_seek ∈ bw := bw_of (List.mem_append_right _ (List.mem_of_getElem? (i := 208) (by decide +kernel))) (by decide +kernel)
theorem kw_303 : Cond.code y_MO_seek b_MO_seek 2 (some .int) ∈ bw := bw_of (List.mem_append_right _ (List.mem_of_getElem? (i := 368) (by decide +kernel))) (by decide +kernel)
theorem kw_304 : Cond.methodLink R_LW 65 y_MO_seek ∈ bw := bw_of (List.mem_append_right _ (List.mem_of_getElem? (i := 365) (by decide +kernel))) (by decide +kernel)
theorem kw_305 : Cond.instanceMethod y_MO_seek ∈ bw := bw_of (List.mem_append_right _ (List.mem_of_getElem? (i := 366) (by decide +kernel))) (by decide +kernel)
theorem kw_306 : Cond.selects R_MO y_MO_seek y_MO_seek ∈ bw := bw_of (List.mem_append_right _ (List.mem_of_getElem? (i := 367) (by decide +kernel))) (by decide +kernel)
theorem kw_307 : Cond.code y_CX_extend b_CX_extend 2 (some .int) ∈ bw := bw_of (List.mem_append_right _ (List.mem_of_getElem? (i := 222) (by decide +kernel))) (by decide +kernel)
theorem kw_308 : Cond.methodLink R_LW 66 y_CX_extend ∈ bw := bw_of (List.mem_append_right _ (List.mem_of_getElem? (i := 219) (by decide +kernel))) (by decide +kernel)
theorem kw_309 : Cond.instanceMethod y_CX_extend ∈ bw := bw_of (List.mem_append_right _ (List.mem_of_getElem? (i := 220) (by decide +kernel))) (by decide +kernel)
theorem kw_310 : Cond.selects R_CX y_CX_extend y_CX_extend ∈ bw := bw_of (List.mem_append_right _ (List.mem_of_getElem? (i := 221) (by decide +kernel))) (by decide +kernel)
theorem kw_311 : Cond.code y_MO_extend b_MO_extend 3 (some .int) ∈ bw := bw_of (List.mem_append_right _ (List.mem_of_getElem? (i := 380) (by decide +kernel))) (by decide +kernel)
theorem kw_312 : Cond.methodLink R_LW 69 y_MO_extend ∈ bw := bw_of (List.mem_append_right _ (List.mem_of_getElem? (i := 377) (by decide +kernel))) (by decide +kernel)
theorem kw_313 : Cond.instanceMethod y_MO_extend ∈ bw := bw_of (List.mem_append_right _ (List.mem_of_getElem? (i := 378) (by decide +kernel))) (by decide +kernel)
theorem kw_314 : Cond.selects R_MO y_MO_extend y_MO_extend ∈ bw := bw_of (List.mem_append_right _ (List.mem_of_getElem? (i := 379) (by decide +kernel))) (by decide +kernel)
theorem kw_315 : Cond.code y_CX_before b_CX_before 3 (some .int) ∈ bw := bw_of (List.mem_append_right _ (List.mem_of_getElem? (i := 230) (by decide +kernel))) (by decide +kernel)
theorem kw_316 : Cond.methodLink R_LW 70 y_CX_before ∈ bw := bw_of (List.mem_append_right _ (List.mem_of_getElem? (i := 227) (by decide +kernel))) (by decide +kernel)
theorem kw_317 : Cond.instanceMethod y_CX_before ∈ bw := bw_of (List.mem_append_right _ (List.mem_of_getElem? (i := 228) (by decide +kernel))) (by decide +kernel)
theorem kw_318 : Cond.selects R_CX y_CX_before y_CX_before ∈ bw := bw_of (List.mem_append_right _ (List.mem_of_getElem? (i := 229) (by decide +kernel))) (by decide +kernel)
theorem kw_319 : Cond.code y_MO_before b_MO_before 4 (some .int) ∈ bw := bw_of (List.mem_append_right _ (List.mem_of_getElem? (i := 384) (by decide +kernel))) (by decide +kernel)
theorem kw_320 : Cond.methodLink R_LW 73 y_MO_before ∈ bw := bw_of (List.mem_append_right _ (List.mem_of_getElem? (i := 381) (by decide +kernel))) (by decide +kernel)
theorem kw_321 : Cond.instanceMethod y_MO_before ∈ bw := bw_of (List.mem_append_right _ (List.mem_of_getElem? (i := 382) (by decide +kernel))) (by decide +kernel)
theorem kw_322 : Cond.selects R_MO y_MO_before y_MO_before ∈ bw := bw_of (List.mem_append_right _ (List.mem_of_getElem? (i := 383) (by decide +kernel))) (by decide +kernel)
theorem kw_323 : Cond.code y_CX_hit b_CX_hit 4 (some .int) ∈ bw := bw_of (List.mem_append_right _ (List.mem_of_getElem? (i := 238) (by decide +kernel))) (by decide +kernel)
theorem kw_324 : Cond.methodLink R_LW 74 y_CX_hit ∈ bw := bw_of (List.mem_append_right _ (List.mem_of_getElem? (i := 235) (by decide +kernel))) (by decide +kernel)
theorem kw_325 : Cond.instanceMethod y_CX_hit ∈ bw := bw_of (List.mem_append_right _ (List.mem_of_getElem? (i := 236) (by decide +kernel))) (by decide +kernel)
theorem kw_326 : Cond.selects R_CX y_CX_hit y_CX_hit ∈ bw := bw_of (List.mem_append_right _ (List.mem_of_getElem? (i := 237) (by decide +kernel))) (by decide +kernel)
theorem kw_327 : Cond.code y_MO_hit b_MO_hit 4 (some .int) ∈ bw := bw_of (List.mem_append_right _ (List.mem_of_getElem? (i := 388) (by decide +kernel))) (by decide +kernel)
theorem kw_328 : Cond.methodLink R_LW 77 y_MO_hit ∈ bw := bw_of (List.mem_append_right _ (List.mem_of_getElem? (i := 385) (by decide +kernel))) (by decide +kernel)
theorem kw_329 : Cond.instanceMethod y_MO_hit ∈ bw := bw_of (List.mem_append_right _ (List.mem_of_getElem? (i := 386) (by decide +kernel))) (by decide +kernel)
theorem kw_330 : Cond.selects R_MO y_MO_hit y_MO_hit ∈ bw := bw_of (List.mem_append_right _ (List.mem_of_getElem? (i := 387) (by decide +kernel))) (by decide +kernel)
theorem kw_331 : Cond.code y_CX_match b_CX_match 4 (some .int) ∈ bw := bw_of (List.mem_append_right _ (List.mem_of_getElem? (i := 242) (by decide +kernel))) (by decide +kernel)
theorem kw_332 : Cond.methodLink R_LW 78 y_CX_match ∈ bw := bw_of (List.mem_append_right _ (List.mem_of_getElem? (i := 239) (by decide +kernel))) (by decide +kernel)
theorem kw_333 : Cond.instanceMethod y_CX_match ∈ bw := bw_of (List.mem_append_right _ (List.mem_of_getElem? (i := 240) (by decide +kernel))) (by decide +kernel)
theorem kw_334 : Cond.selects R_CX y_CX_match y_CX_match ∈ bw := bw_of (List.mem_append_right _ (List.mem_of_getElem? (i := 241) (by decide +kernel))) (by decide +kernel)
theorem kw_335 : Cond.code y_MO_match b_MO_match 5 (some .int) ∈ bw := bw_of (List.mem_append_right _ (List.mem_of_getElem? (i := 392) (by decide +kernel))) (by decide +kernel)
theorem kw_336 : Cond.methodLink R_LW 81 y_MO_match ∈ bw := bw_of (List.mem_append_right _ (List.mem_of_getElem? (i := 389) (by decide +kernel))) (by decide +kernel)
theorem kw_337 : Cond.instanceMethod y_MO_match ∈ bw := bw_of (List.mem_append_right _ (List.mem_of_getElem? (i := 390) (by decide +kernel))) (by decide +kernel)
theorem kw_338 : Cond.selects R_MO y_MO_match y_MO_match ∈ bw := bw_of (List.mem_append_right _ (List.mem_of_getElem? (i := 391) (by decide +kernel))) (by decide +kernel)
theorem kw_339 : Cond.code y_CX_revert b_CX_revert 2 (some .int) ∈ bw := bw_of (List.mem_append_right _ (List.mem_of_getElem? (i := 249) (by decide +kernel))) (by decide +kernel)
theorem kw_340 : Cond.methodLink R_LW 82 y_CX_revert ∈ bw := bw_of (List.mem_append_right _ (List.mem_of_getElem? (i := 246) (by decide +kernel))) (by decide +kernel)
theorem kw_341 : Cond.instanceMethod y_CX_revert ∈ bw := bw_of (List.mem_append_right _ (List.mem_of_getElem? (i := 247) (by decide +kernel))) (by decide +kernel)
theorem kw_342 : Cond.selects R_CX y_CX_revert y_CX_revert ∈ bw := bw_of (List.mem_append_right _ (List.mem_of_getElem? (i := 248) (by decide +kernel))) (by decide +kernel)
theorem kw_343 : Cond.code y_MO_revert b_MO_revert 6 (some .int) ∈ bw := bw_of (List.mem_append_right _ (List.mem_of_getElem? (i := 396) (by decide +kernel))) (by decide +kernel)
theorem kw_344 : Cond.methodLink R_LW 85 y_MO_revert ∈ bw := bw_of (List.mem_append_right _ (List.mem_of_getElem? (i := 393) (by decide +kernel))) (by decide +kernel)
theorem kw_345 : Cond.instanceMethod y_MO_revert ∈ bw := bw_of (List.mem_append_right _ (List.mem_of_getElem? (i := 394) (by decide +kernel))) (by decide +kernel)
theorem kw_346 : Cond.selects R_MO y_MO_revert y_MO_revert ∈ bw := bw_of (List.mem_append_right _ (List.mem_of_getElem? (i := 395) (by decide +kernel))) (by decide +kernel)
