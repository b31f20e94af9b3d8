/-! names: fields, methods, words of the tables by their places (written by wip/whole/mkparts.py out of the Statement) -/
/-- a word that holds in every later state -/
def gd_wk (w : Cond) : Bool := goodWord w || (match w with | .methodLinkNest _ _ _ _ => true | .castable _ _ => true | .declares _ => true | _ => false)
def TS : List Cond := lw_tbl.filter gd_wk
theorem gd_mem {w : Cond} (i : Nat) (h : lw_tbl[i]? = some w) (hg : gd_wk w = true) : w ∈ TS := List.mem_filter.mpr ⟨List.mem_of_getElem? h, hg⟩
theorem gd_word1 {args a' : Array Value} {s U : State} (hW : s.WarmedH U.vm) {w : Cond} (hg : gd_wk w = true) (h : w.before args s = true) : w.before a' U = true := by
  cases hw : goodWord w with
  | true => exact word_at hW (good_of_word hw) h
  | false =>
    unfold gd_wk at hg
    rw [hw, Bool.false_or] at hg
    cases w <;> first
      | (simp only at hg; cases hg; done)
      | (exact va_Nw.use rfl (va_Nw.warmM hW (va_Nw.of rfl h)))
      | (exact va_tabs rfl (rfl : (s.setVm U.vm).vm = U.vm) (Cond.faceAtom_setVm (args := args) hW.alike _ rfl h))
theorem gd_word {args a' : Array Value} {s U : State} (hW : s.WarmedH U.vm) (h : ∀ w ∈ TS, w.before args s = true) : ∀ w ∈ TS, w.before a' U = true := fun w hw => gd_word1 hW (List.mem_filter.mp hw).2 (h w hw)
def TT_Cl : u_T := fun k => match k with
  | 0 => ("ChunkCode$Cells", "numbers", "[J", true)
  | _ => ("ChunkCode$Cells", "mask", "J", false)
def ty_Cl : Nat → FieldType := fun k => match k with
  | 0 => .array .long
  | _ => .long
theorem nm_Cl : ∀ a, a < 2 → ∀ b, b < 2 → a ≠ b → (TT_Cl a).2.1 ≠ (TT_Cl b).2.1 := by decide +kernel
theorem tyk_Cl : ∀ k, k < 2 → parseFieldDescriptor (TT_Cl k).2.2.1 = some (ty_Cl k) := by decide +kernel
theorem inC_Cl : ∀ w ∈ u_ws "ChunkCode$Cells" TT_Cl 2, w ∈ TS := by decide +kernel
def TT_Oc : u_T := fun k => match k with
  | 0 => ("ChunkCode$Octets", "row", "[B", true)
  | _ => ("ChunkCode$Octets", "length", "I", false)
def ty_Oc : Nat → FieldType := fun k => match k with
  | 0 => .array .byte
  | _ => .int
theorem nm_Oc : ∀ a, a < 2 → ∀ b, b < 2 → a ≠ b → (TT_Oc a).2.1 ≠ (TT_Oc b).2.1 := by decide +kernel
theorem tyk_Oc : ∀ k, k < 2 → parseFieldDescriptor (TT_Oc k).2.2.1 = some (ty_Oc k) := by decide +kernel
theorem inC_Oc : ∀ w ∈ u_ws "ChunkCode$Octets" TT_Oc 2, w ∈ TS := by decide +kernel
def TT_Rd : u_T := fun k => match k with
  | 0 => ("ChunkCode$Reader", "at", "I", false)
  | _ => ("ChunkCode$Reader", "folded", "J", false)
def ty_Rd : Nat → FieldType := fun k => match k with
  | 0 => .int
  | _ => .long
theorem nm_Rd : ∀ a, a < 2 → ∀ b, b < 2 → a ≠ b → (TT_Rd a).2.1 ≠ (TT_Rd b).2.1 := by decide +kernel
theorem tyk_Rd : ∀ k, k < 2 → parseFieldDescriptor (TT_Rd k).2.2.1 = some (ty_Rd k) := by decide +kernel
theorem inC_Rd : ∀ w ∈ u_ws "ChunkCode$Reader" TT_Rd 2, w ∈ TS := by decide +kernel
def TT_Ru : u_T := fun k => match k with
  | 0 => ("ChunkCode$Runs", "numbers", "[J", true)
  | 1 => ("ChunkCode$Runs", "sizes", "[I", true)
  | _ => ("ChunkCode$Runs", "many", "I", false)
def ty_Ru : Nat → FieldType := fun k => match k with
  | 0 => .array .long
  | 1 => .array .int
  | _ => .int
theorem nm_Ru : ∀ a, a < 3 → ∀ b, b < 3 → a ≠ b → (TT_Ru a).2.1 ≠ (TT_Ru b).2.1 := by decide +kernel
theorem tyk_Ru : ∀ k, k < 3 → parseFieldDescriptor (TT_Ru k).2.2.1 = some (ty_Ru k) := by decide +kernel
theorem inC_Ru : ∀ w ∈ u_ws "ChunkCode$Runs" TT_Ru 3, w ∈ TS := by decide +kernel
def TT_Ch : u_T := fun k => match k with
  | 0 => ("ChunkCode", "cells", "LChunkCode$Cells;", false)
  | 1 => ("ChunkCode", "spare", "LChunkCode$Cells;", false)
  | 2 => ("ChunkCode", "runs", "LChunkCode$Runs;", true)
  | 3 => ("ChunkCode", "made", "LChunkCode$Octets;", true)
  | 4 => ("ChunkCode", "fed", "LChunkCode$Octets;", true)
  | 5 => ("ChunkCode", "reader", "LChunkCode$Reader;", true)
  | _ => ("ChunkCode", "wrongAt", "I", false)
def ty_Ch : Nat → FieldType := fun k => match k with
  | 0 => .object "ChunkCode$Cells"
  | 1 => .object "ChunkCode$Cells"
  | 2 => .object "ChunkCode$Runs"
  | 3 => .object "ChunkCode$Octets"
  | 4 => .object "ChunkCode$Octets"
  | 5 => .object "ChunkCode$Reader"
  | _ => .int
theorem nm_Ch : ∀ a, a < 7 → ∀ b, b < 7 → a ≠ b → (TT_Ch a).2.1 ≠ (TT_Ch b).2.1 := by decide +kernel
theorem tyk_Ch : ∀ k, k < 7 → parseFieldDescriptor (TT_Ch k).2.2.1 = some (ty_Ch k) := by decide +kernel
theorem inC_Ch : ∀ w ∈ u_ws "ChunkCode" TT_Ch 7, w ∈ TS := by decide +kernel
def TT_Mo : u_T := fun k => match k with
  | 0 => ("ChunkCodeModel", "err", "I", false)
  | 1 => ("ChunkCodeModel", "value", "[J", true)
  | 2 => ("ChunkCodeModel", "read", "[J", true)
  | 3 => ("ChunkCodeModel", "full", "[Z", true)
  | 4 => ("ChunkCodeModel", "will", "[Z", true)
  | 5 => ("ChunkCodeModel", "made", "[I", true)
  | 6 => ("ChunkCodeModel", "work", "[I", true)
  | 7 => ("ChunkCodeModel", "fed", "[I", true)
  | 8 => ("ChunkCodeModel", "madeMany", "I", false)
  | 9 => ("ChunkCodeModel", "workMany", "I", false)
  | 10 => ("ChunkCodeModel", "many", "I", false)
  | _ => ("ChunkCodeModel", "place", "I", false)
def ty_Mo : Nat → FieldType := fun k => match k with
  | 0 => .int
  | 1 => .array .long
  | 2 => .array .long
  | 3 => .array .boolean
  | 4 => .array .boolean
  | 5 => .array .int
  | 6 => .array .int
  | 7 => .array .int
  | 8 => .int
  | 9 => .int
  | 10 => .int
  | _ => .int
theorem nm_Mo : ∀ a, a < 12 → ∀ b, b < 12 → a ≠ b → (TT_Mo a).2.1 ≠ (TT_Mo b).2.1 := by decide +kernel
theorem tyk_Mo : ∀ k, k < 12 → parseFieldDescriptor (TT_Mo k).2.2.1 = some (ty_Mo k) := by decide +kernel
theorem inC_Mo : ∀ w ∈ u_ws "ChunkCodeModel" TT_Mo 12, w ∈ TS := by decide +kernel
abbrev cls_ : List vw_C := [("ChunkCode$Cells", TT_Cl, 2), ("ChunkCode$Octets", TT_Oc, 2), ("ChunkCode$Reader", TT_Rd, 2), ("ChunkCode$Runs", TT_Ru, 3), ("ChunkCode", TT_Ch, 7), ("ChunkCodeModel", TT_Mo, 12)]
abbrev yy_Ch_init : MethodName := ⟨"ChunkCode", "<init>", "()V"⟩
abbrev bb_Ch_init : ByteArray := prog_1_method_1_code
abbrev yy_Cl_init : MethodName := ⟨"ChunkCode$Cells", "<init>", "()V"⟩
abbrev bb_Cl_init : ByteArray := prog_2_method_1_code
abbrev yy_Ru_init : MethodName := ⟨"ChunkCode$Runs", "<init>", "()V"⟩
abbrev bb_Ru_init : ByteArray := prog_5_method_1_code
abbrev yy_Oc_init : MethodName := ⟨"ChunkCode$Octets", "<init>", "(I)V"⟩
abbrev bb_Oc_init : ByteArray := prog_3_method_1_code
abbrev yy_Rd_init : MethodName := ⟨"ChunkCode$Reader", "<init>", "()V"⟩
abbrev bb_Rd_init : ByteArray := prog_4_method_1_code
abbrev yy_Ch_encode : MethodName := ⟨"ChunkCode", "encode", "()I"⟩
abbrev bb_Ch_encode : ByteArray := prog_1_method_6_code
abbrev yy_Ru_gather : MethodName := ⟨"ChunkCode$Runs", "gather", "(LChunkCode$Cells;)V"⟩
abbrev bb_Ru_gather : ByteArray := prog_5_method_2_code
abbrev yy_Cl_isFull : MethodName := ⟨"ChunkCode$Cells", "isFull", "(I)Z"⟩
abbrev bb_Cl_isFull : ByteArray := prog_2_method_2_code
abbrev yy_Cl_number : MethodName := ⟨"ChunkCode$Cells", "number", "(I)J"⟩
abbrev bb_Cl_number : ByteArray := prog_2_method_3_code
abbrev yy_Ru_addCell : MethodName := ⟨"ChunkCode$Runs", "addCell", "(J)V"⟩
abbrev bb_Ru_addCell : ByteArray := prog_5_method_6_code
abbrev yy_Oc_clear : MethodName := ⟨"ChunkCode$Octets", "clear", "()V"⟩
abbrev bb_Oc_clear : ByteArray := prog_3_method_2_code
abbrev yy_Cl_mask : MethodName := ⟨"ChunkCode$Cells", "mask", "()J"⟩
abbrev bb_Cl_mask : ByteArray := prog_2_method_8_code
abbrev yy_Oc_add : MethodName := ⟨"ChunkCode$Octets", "add", "(I)V"⟩
abbrev bb_Oc_add : ByteArray := prog_3_method_3_code
abbrev yy_Ru_many : MethodName := ⟨"ChunkCode$Runs", "many", "()I"⟩
abbrev bb_Ru_many : ByteArray := prog_5_method_3_code
abbrev yy_Ru_size : MethodName := ⟨"ChunkCode$Runs", "size", "(I)I"⟩
abbrev bb_Ru_size : ByteArray := prog_5_method_4_code
abbrev yy_Ru_folded : MethodName := ⟨"ChunkCode$Runs", "folded", "(I)J"⟩
abbrev bb_Ru_folded : ByteArray := prog_5_method_5_code
abbrev yy_Ch_addNumber : MethodName := ⟨"ChunkCode", "addNumber", "(LChunkCode$Octets;J)V"⟩
abbrev bb_Ch_addNumber : ByteArray := prog_1_method_15_code
abbrev yy_Ch_numberOctets : MethodName := ⟨"ChunkCode", "numberOctets", "(J)I"⟩
abbrev bb_Ch_numberOctets : ByteArray := prog_1_method_14_code
abbrev yy_Oc_length : MethodName := ⟨"ChunkCode$Octets", "length", "()I"⟩
abbrev bb_Oc_length : ByteArray := prog_3_method_4_code
abbrev yy_Ch_wrong : MethodName := ⟨"ChunkCode", "wrong", "()I"⟩
abbrev bb_Ch_wrong : ByteArray := prog_1_method_10_code
abbrev yy_La_put : MethodName := ⟨"ChunkCodeLaw", "put", "(LChunkCode;IJ)I"⟩
abbrev bb_La_put : ByteArray := method_3_code
abbrev yy_Ch_put : MethodName := ⟨"ChunkCode", "put", "(IJ)V"⟩
abbrev bb_Ch_put : ByteArray := prog_1_method_2_code
abbrev yy_Ch_needCell : MethodName := ⟨"ChunkCode", "needCell", "(I)V"⟩
abbrev bb_Ch_needCell : ByteArray := prog_1_method_12_code
abbrev yy_Cl_fill : MethodName := ⟨"ChunkCode$Cells", "fill", "(IJ)V"⟩
abbrev bb_Cl_fill : ByteArray := prog_2_method_4_code
abbrev yy_La_erase : MethodName := ⟨"ChunkCodeLaw", "erase", "(LChunkCode;II)I"⟩
abbrev bb_La_erase : ByteArray := method_4_code
abbrev yy_Ch_erase : MethodName := ⟨"ChunkCode", "erase", "(II)V"⟩
abbrev bb_Ch_erase : ByteArray := prog_1_method_3_code
abbrev yy_Cl_clear : MethodName := ⟨"ChunkCode$Cells", "clear", "(I)V"⟩
abbrev bb_Cl_clear : ByteArray := prog_2_method_5_code
abbrev yy_La_get : MethodName := ⟨"ChunkCodeLaw", "get", "(LChunkCode;I[J)I"⟩
abbrev bb_La_get : ByteArray := method_5_code
abbrev yy_Ch_get : MethodName := ⟨"ChunkCode", "get", "(I)J"⟩
abbrev bb_Ch_get : ByteArray := prog_1_method_4_code
abbrev yy_La_sum : MethodName := ⟨"ChunkCodeLaw", "sum", "(LChunkCode;II[J)I"⟩
abbrev bb_La_sum : ByteArray := method_6_code
abbrev yy_Ch_sum : MethodName := ⟨"ChunkCode", "sum", "(II)J"⟩
abbrev bb_Ch_sum : ByteArray := prog_1_method_5_code
abbrev yy_La_code : MethodName := ⟨"ChunkCodeLaw", "code", "(LChunkCode;I[J)I"⟩
abbrev bb_La_code : ByteArray := method_7_code
abbrev yy_Ch_code : MethodName := ⟨"ChunkCode", "code", "(I)J"⟩
abbrev bb_Ch_code : ByteArray := prog_1_method_7_code
abbrev yy_Oc_octetOrZero : MethodName := ⟨"ChunkCode$Octets", "octetOrZero", "(I)I"⟩
abbrev bb_Oc_octetOrZero : ByteArray := prog_3_method_5_code
abbrev yy_La_feed : MethodName := ⟨"ChunkCodeLaw", "feed", "(LChunkCode;JI[J)I"⟩
abbrev bb_La_feed : ByteArray := method_8_code
abbrev yy_Ch_feed : MethodName := ⟨"ChunkCode", "feed", "(JI)I"⟩
abbrev bb_Ch_feed : ByteArray := prog_1_method_8_code
abbrev yy_La_decode : MethodName := ⟨"ChunkCodeLaw", "decode", "(LChunkCode;[J)I"⟩
abbrev bb_La_decode : ByteArray := method_9_code
abbrev yy_Ch_decode : MethodName := ⟨"ChunkCode", "decode", "()I"⟩
abbrev bb_Ch_decode : ByteArray := prog_1_method_9_code
abbrev yy_Rd_read : MethodName := ⟨"ChunkCode$Reader", "read", "(LChunkCode$Octets;LChunkCode$Cells;)Z"⟩
abbrev bb_Rd_read : ByteArray := prog_4_method_3_code
abbrev yy_Cl_clearAll : MethodName := ⟨"ChunkCode$Cells", "clearAll", "()V"⟩
abbrev bb_Cl_clearAll : ByteArray := prog_2_method_6_code
abbrev yy_Rd_readMask : MethodName := ⟨"ChunkCode$Reader", "readMask", "(LChunkCode$Octets;)J"⟩
abbrev bb_Rd_readMask : ByteArray := prog_4_method_4_code
abbrev yy_Rd_readRuns : MethodName := ⟨"ChunkCode$Reader", "readRuns", "(LChunkCode$Octets;JLChunkCode$Cells;)Z"⟩
abbrev bb_Rd_readRuns : ByteArray := prog_4_method_5_code
abbrev yy_Lo_bitCount : MethodName := ⟨"java/lang/Long", "bitCount", "(J)I"⟩
abbrev bb_Lo_bitCount : ByteArray := prog_11_method_50_code
abbrev yy_Rd_readSize : MethodName := ⟨"ChunkCode$Reader", "readSize", "(LChunkCode$Octets;I)I"⟩
abbrev bb_Rd_readSize : ByteArray := prog_4_method_6_code
abbrev yy_Rd_readFolded : MethodName := ⟨"ChunkCode$Reader", "readFolded", "(LChunkCode$Octets;Z)Z"⟩
abbrev bb_Rd_readFolded : ByteArray := prog_4_method_7_code
abbrev yy_Rd_endFolded : MethodName := ⟨"ChunkCode$Reader", "endFolded", "(ZZ)Z"⟩
abbrev bb_Rd_endFolded : ByteArray := prog_4_method_8_code
abbrev yy_Rd_at : MethodName := ⟨"ChunkCode$Reader", "at", "()I"⟩
abbrev bb_Rd_at : ByteArray := prog_4_method_2_code
abbrev yy_Cl_many : MethodName := ⟨"ChunkCode$Cells", "many", "()I"⟩
abbrev bb_Cl_many : ByteArray := prog_2_method_7_code
abbrev yy_La_count : MethodName := ⟨"ChunkCodeLaw", "count", "(LChunkCode;I[J)I"⟩
abbrev bb_La_count : ByteArray := method_10_code
abbrev yy_Ch_count : MethodName := ⟨"ChunkCode", "count", "(I)I"⟩
abbrev bb_Ch_count : ByteArray := prog_1_method_11_code
abbrev yy_Ch_octetsNow : MethodName := ⟨"ChunkCode", "octetsNow", "()I"⟩
abbrev bb_Ch_octetsNow : ByteArray := prog_1_method_13_code
abbrev yy_Mo_init : MethodName := ⟨"ChunkCodeModel", "<init>", "()V"⟩
abbrev bb_Mo_init : ByteArray := prog_7_method_1_code
abbrev yy_Mo_thrown : MethodName := ⟨"ChunkCodeModel", "thrown", "()I"⟩
abbrev bb_Mo_thrown : ByteArray := prog_7_method_2_code
abbrev yy_Mo_put : MethodName := ⟨"ChunkCodeModel", "put", "(IJ)V"⟩
abbrev bb_Mo_put : ByteArray := prog_7_method_5_code
abbrev yy_Mo_none : MethodName := ⟨"ChunkCodeModel", "none", "(I)Z"⟩
abbrev bb_Mo_none : ByteArray := prog_7_method_4_code
abbrev yy_Mo_fails : MethodName := ⟨"ChunkCodeModel", "fails", "(ZI)Z"⟩
abbrev bb_Mo_fails : ByteArray := prog_7_method_3_code
abbrev yy_Mo_erase : MethodName := ⟨"ChunkCodeModel", "erase", "(II)V"⟩
abbrev bb_Mo_erase : ByteArray := prog_7_method_6_code
abbrev yy_Mo_get : MethodName := ⟨"ChunkCodeModel", "get", "(I)J"⟩
abbrev bb_Mo_get : ByteArray := prog_7_method_7_code
abbrev yy_Mo_sum : MethodName := ⟨"ChunkCodeModel", "sum", "(II)J"⟩
abbrev bb_Mo_sum : ByteArray := prog_7_method_8_code
abbrev yy_Mo_encode : MethodName := ⟨"ChunkCodeModel", "encode", "()I"⟩
abbrev bb_Mo_encode : ByteArray := prog_7_method_11_code
abbrev yy_Mo_lay : MethodName := ⟨"ChunkCodeModel", "lay", "()I"⟩
abbrev bb_Mo_lay : ByteArray := prog_7_method_10_code
abbrev yy_Mo_next : MethodName := ⟨"ChunkCodeModel", "next", "(I)I"⟩
abbrev bb_Mo_next : ByteArray := prog_7_method_9_code
abbrev yy_Mo_code : MethodName := ⟨"ChunkCodeModel", "code", "(I)J"⟩
abbrev bb_Mo_code : ByteArray := prog_7_method_12_code
abbrev yy_Mo_feed : MethodName := ⟨"ChunkCodeModel", "feed", "(JI)I"⟩
abbrev bb_Mo_feed : ByteArray := prog_7_method_13_code
abbrev yy_Mo_decode : MethodName := ⟨"ChunkCodeModel", "decode", "()I"⟩
abbrev bb_Mo_decode : ByteArray := prog_7_method_15_code
abbrev yy_Mo_wrongAt : MethodName := ⟨"ChunkCodeModel", "wrongAt", "()I"⟩
abbrev bb_Mo_wrongAt : ByteArray := prog_7_method_14_code
abbrev yy_Mo_wrong : MethodName := ⟨"ChunkCodeModel", "wrong", "()I"⟩
abbrev bb_Mo_wrong : ByteArray := prog_7_method_16_code
abbrev yy_Mo_count : MethodName := ⟨"ChunkCodeModel", "count", "(I)I"⟩
abbrev bb_Mo_count : ByteArray := prog_7_method_17_code
abbrev bb_La_law : ByteArray := code
